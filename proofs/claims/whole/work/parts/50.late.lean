/-! draws: PART, ON, OFF -/
abbrev Bw : Type := Nat × (Nat → Nat → Nat) × (Nat → Nat) × (Nat → Nat) × (Nat → Nat → Bool) × Nat
def rowP (B : Bw) (r : Nat) : Pb := (B.1, B.2.1 r, B.2.2.1, B.2.2.2.1, B.2.2.2.2.1, B.2.2.2.2.2)
theorem goS_bd {P : Pb} {od : Nat → Nat} (hod : ∀ k, k < pN P → od k < pN P) (hH : ∀ w, w < pN P → 1 ≤ pH P w ∧ pH P w ≤ 40) : ∀ (f : Nat) (s : Sch) (h : Nat), Good P s h → (goS P od f s h).2 ≤ h + 40 * f ∧ ∀ w b, (goS P od f s h).1 w = some b → b ≤ (goS P od f s h).2 ∧ w < pN P
  | 0, s, h, hg => ⟨Nat.le_refl _, fun w b hb => ⟨hg.1 w b hb, by
      rcases Nat.lt_or_ge w (pN P) with q | q
      · exact q
      · have hb : s w = some b := hb
        rw [hg.2 w q] at hb; cases hb⟩⟩
  | f + 1, s, h, hg => by
    rw [goS_s]
    cases hn : nxTo P (bgTo P od h (isEnd P s h) s (pN P)) (isEnd P s h) (pN P) with
    | none =>
      refine ⟨by show h ≤ _; omega, fun w b hb => ?_⟩
      rcases bgTo_out hod (Nat.le_refl _) hb with q | ⟨-, q, q2⟩
      · refine ⟨hg.1 w b q, ?_⟩
        rcases Nat.lt_or_ge w (pN P) with z | z
        · exact z
        · rw [hg.2 w z] at q; cases q
      · exact ⟨by show b ≤ h; omega, q2⟩
    | some h1 =>
      obtain ⟨t1, t2, t3, -⟩ := turn hod hH hg hn
      obtain ⟨i1, i2⟩ := goS_bd hod hH f _ h1 t3
      exact ⟨by show (goS P od f _ h1).2 ≤ _; omega, i2⟩
theorem sch_bd {P : Pb} {od : Nat → Nat} (h16 : pN P ≤ 16) (hod : ∀ k, k < pN P → od k < pN P) (hH : ∀ w, w < pN P → 1 ≤ pH P w ∧ pH P w ≤ 40) {w b : Nat} (h : schd P od w = some b) : b ≤ 680 := by
  obtain ⟨i1, i2⟩ := goS_bd hod hH (pN P + 1) s0 0 ⟨fun w b h => (nomatch h), fun _ _ => rfl⟩
  have := (i2 w b h).1
  omega
theorem end_bd {P : Pb} {od : Nat → Nat} (h16 : pN P ≤ 16) (hod : ∀ k, k < pN P → od k < pN P) (hH : ∀ w, w < pN P → 1 ≤ pH P w ∧ pH P w ≤ 40) {h : Nat} (he : endS P od = some h) : h ≤ 680 := by
  obtain ⟨i1, -⟩ := goS_bd hod hH (pN P + 1) s0 0 ⟨fun w b h => (nomatch h), fun _ _ => rfl⟩
  unfold endS at he
  split at he
  · cases he; omega
  · cases he
/-- what the walks through all draws may change -/
def Sd (a b : Nat) : Prop := (a = 2 ∧ 7 ≤ b) ∨ a = 11 ∨ (79 ≤ a ∧ a < 99) ∨ (35 ≤ a ∧ a < 55 ∧ b = 2)
theorem WC.keepD {P : Pb} {M N : Mem} {r : Nat} (h : WC P M r) (hr : r < 22) (he : Eqx Sd M N) : WC P N r := by
  obtain ⟨h1, h2, h3, h4, h5⟩ := h
  refine ⟨by rw [he 2 3 (by unfold Sd; omega)]; exact h1, h2, by rw [he 2 5 (by unfold Sd; omega)]; exact h3, h4, fun w hw => ?_⟩
  obtain ⟨g1, g2, g3, g4, g5, g6, g7⟩ := h5 w hw
  refine ⟨by rw [he (w + 17) 3 (by unfold Sd; omega)]; exact g1, g2, by rw [he (w + 17) 6 (by unfold Sd; omega)]; exact g3, g4, by rw [he (w + 17) 5 (by unfold Sd; omega)]; exact g5, by rw [he (r + 55) w (by unfold Sd; omega)]; exact g6, g7⟩
/-- the class's rows hold what came of the draws -/
def Dn (B : Bw) (od : Nat → Nat) (N : Mem) (d : Nat) : Prop := (∀ w, w < B.1 → N (d + 79) w = stI (schd (rowP B (d + 2)) od w)) ∧ N (d + 35) 2 = enI (endS (rowP B (d + 2)) od)
set_option maxHeartbeats 8000000 in
theorem c_X2_walkDraws {l : Launch} {E : EnT} (hst : l.stackTraces = false) (M : Mem) (B : Bw) (od : Nat → Nat) (dr : Nat) (hd : M 2 4 = nI dr) (h20 : dr ≤ 20) (hW : ∀ r, r < dr + 2 → WC (rowP B r) M r) (hod : ∀ k, k < B.1 → M 9 k = nI (od k) ∧ od k < B.1) : Mm l E mX2_walkDraws 3 0 0 [.ref 2] M (RP none (fun N => Eqx Sd M N ∧ ∀ d, d < dr → Dn B od N d)) := by
  refine Mm_go hst (by decide) rfl (Nat.le_of_ble_eq_true rfl) [some (.ref 2), none] rfl ?_
  refine z_iconst (v := 0) dX2_walkDraws_0 (by decide) rfl ?_
  refine z_ist1 dX2_walkDraws_1 (Nat.le_of_ble_eq_true rfl) rfl ?_
  have h16 : B.1 ≤ 16 := (hW 0 (by omega)).2.1
  have loop : ∀ (k j : Nat), j + k = dr → ∀ (N : Mem), Eqx Sd M N → (∀ d, d < j → Dn B od N d) → Zz (zx l E mX2_walkDraws 3 (RP none (fun N => Eqx Sd M N ∧ ∀ d, d < dr → Dn B od N d))) 0 0 2 [some (.ref 2), some (.int (nI j))] [] N := by
    intro k
    induction k with
    | zero =>
      intro j hj N hE hD
      have ej : j = dr := by omega
      subst ej
      have e4 : N 2 4 = nI j := by rw [hE 2 4 (by unfold Sd; omega)]; exact hd
      refine z_iload_n dX2_walkDraws_2 rfl rfl ?_
      refine z_aload_n dX2_walkDraws_3 rfl rfl ?_
      refine z_gi2 (j := 4) dX2_walkDraws_4 (by decide) fl_X2_31 rfl rfl rfl ?_
      refine z_icmp_ge (tgt := 28) dX2_walkDraws_7 (by decide) rfl (fun hc => ?_) (fun hc => ?_)
      · exact z_return dX2_walkDraws_28 rfl ⟨rfl, hE, hD⟩ (Nat.le_of_ble_eq_true rfl) (Nat.le_of_ble_eq_true rfl)
      · exact absurd (by rw [e4]; exact nI_le (Nat.le_refl _) (by omega)) hc
    | succ k ih =>
      intro j hj N hE hD
      have e4 : N 2 4 = nI dr := by rw [hE 2 4 (by unfold Sd; omega)]; exact hd
      refine z_iload_n dX2_walkDraws_2 rfl rfl ?_
      refine z_aload_n dX2_walkDraws_3 rfl rfl ?_
      refine z_gi2 (j := 4) dX2_walkDraws_4 (by decide) fl_X2_31 rfl rfl rfl ?_
      refine z_icmp_ge (tgt := 28) dX2_walkDraws_7 (by decide) rfl (fun hc => ?_) (fun hc => ?_)
      · exact absurd hc (by rw [e4]; exact nI_ge (by omega) (by omega))
      · refine z_aload_n dX2_walkDraws_10 rfl rfl ?_
        refine z_iconst (v := 2) dX2_walkDraws_11 (by decide) rfl ?_
        refine z_iload_n dX2_walkDraws_12 rfl rfl ?_
        refine z_iadd dX2_walkDraws_13 rfl ?_
        refine z_tp (b := (nI (j + 2))) (by rw [show (2 : Int32) = nI 2 from rfl, nI_add, Nat.add_comm]) ?_
        refine z_aload_n dX2_walkDraws_14 rfl rfl ?_
        refine z_gr2 (j := 1) dX2_walkDraws_15 (by decide) fl_X2_17 rfl rfl rfl ?_
        refine z_cq2 (ci := 2) (nf := 11) (y := mX2_walk) dX2_walkDraws_18 ml_X2_119 iv_X2_walk (Nat.le_of_ble_eq_true rfl) rfl (by decide) rfl (Nat.le_of_ble_eq_true rfl) (Nat.le_of_ble_eq_true rfl) (Nat.le_of_ble_eq_true rfl) (c_X2_walk hst N (rowP B (j + 2)) (j + 2) 9 16 od (by omega) rfl h16 (by decide) (Or.inl rfl) ((hW (j + 2) (by omega)).keepD (by omega) hE) (fun k hk => ⟨by rw [hE 9 k (by unfold Sd; omega)]; exact (hod k hk).1, (hod k hk).2⟩)) rfl ?_
        intro N2 ⟨hE2, hs, hf⟩
        refine z_pop dX2_walkDraws_21 rfl rfl ?_
        first | refine z_iu1 dX2_walkDraws_22 (Nat.le_of_ble_eq_true rfl) rfl ?_ | refine z_inc1 dX2_walkDraws_22 (Nat.le_of_ble_eq_true rfl) rfl rfl ?_
        refine z_goto (tgt := 2) dX2_walkDraws_25 (by decide) ?_
        refine ih (j + 1) (by omega) N2 (hE.tr (hE2.mono (fun a b q => by unfold Sx at q; unfold Sd; omega))) (fun d hdj => ?_)
        rcases Nat.lt_or_ge d j with q | q
        · obtain ⟨d1, d2⟩ := hD d q
          exact ⟨fun w hw => by rw [hE2 (d + 79) w (by unfold Sx; omega)]; exact d1 w hw, by rw [hE2 (d + 35) 2 (by unfold Sx; omega)]; exact d2⟩
        · have : d = j := by omega
          subst this
          exact ⟨hs, hf⟩
  exact loop dr 0 (by omega) M Eqx.rf (fun d hd => absurd hd (Nat.not_lt_zero d))
/-- how many of the first d have an end that is lim or less -/
def partS (lim : Nat) (f : Nat → Option Nat) : Nat → Nat
  | 0 => 0
  | d + 1 => partS lim f d + match f d with
    | some x => if x ≤ lim then 1 else 0
    | none => 0
/-- what is late, together; none if there is none of one -/
def lateS (lim : Nat) (f : Nat → Option Nat) : Nat → Option Nat
  | 0 => some 0
  | d + 1 => match lateS lim f d with
    | none => none
    | some s => match f d with
      | none => none
      | some x => some (s + (x - lim))
theorem lateS_none {lim : Nat} {f : Nat → Option Nat} {a : Nat} (h : lateS lim f a = none) : ∀ {b : Nat}, a ≤ b → lateS lim f b = none
  | 0, hb => by have e : a = 0 := by omega
                subst e; exact h
  | b + 1, hb => by
    rcases Nat.lt_or_ge a (b + 1) with q | q
    · rw [lateS, lateS_none h (show a ≤ b by omega)]
    · have e : a = b + 1 := by omega
      subst e; exact h
theorem lateS_bd {lim m : Nat} {f : Nat → Option Nat} (hf : ∀ d x, f d = some x → x ≤ m) : ∀ {a s : Nat}, lateS lim f a = some s → s ≤ m * a
  | 0, s, h => by cases h; omega
  | a + 1, s, h => by
    rw [lateS] at h
    cases hl : lateS lim f a with
    | none => rw [hl] at h; cases h
    | some t =>
      rw [hl] at h
      simp only at h
      cases hx : f a with
      | none => rw [hx] at h; cases h
      | some x =>
        rw [hx] at h
        simp only [Option.some.injEq] at h
        have := lateS_bd hf hl
        have := hf a x hx
        rw [Nat.mul_succ]; omega
def drS (dr : Nat) (o : Option Nat) : Option Nat := if dr = 0 then none else o
theorem partS_le {lim : Nat} {f : Nat → Option Nat} : ∀ {d : Nat}, partS lim f d ≤ d
  | 0 => Nat.le_refl 0
  | d + 1 => by
    have := @partS_le lim f d
    unfold partS
    split
    · split <;> omega
    · omega
set_option maxHeartbeats 8000000 in
theorem c_X2_drawsWithin {l : Launch} {E : EnT} (hst : l.stackTraces = false) (M : Mem) (dr lim : Nat) (f : Nat → Option Nat) (hd : M 2 4 = nI dr) (h20 : dr ≤ 20) (hl : lim ≤ 1000) (hf : ∀ d, d < dr → M (d + 35) 2 = enI (f d)) (hb : ∀ d x, f d = some x → x ≤ 100000) : Mm l E mX2_drawsWithin 0 0 0 [.ref 2, .int (nI lim)] M (Rt (some (.int (nI (partS lim f dr)))) M) := by
  refine Mm_go hst (by decide) rfl (Nat.le_of_ble_eq_true rfl) [some (.ref 2), some (.int (nI lim)), none, none, none] rfl ?_
  refine z_iconst (v := 0) dX2_drawsWithin_0 (by decide) rfl ?_
  refine z_ist2 dX2_drawsWithin_1 (Nat.le_of_ble_eq_true rfl) rfl ?_
  refine z_iconst (v := 0) dX2_drawsWithin_2 (by decide) rfl ?_
  refine z_ist3 dX2_drawsWithin_3 (Nat.le_of_ble_eq_true rfl) rfl ?_
  have loop : ∀ (k j : Nat), j + k = dr → ∀ (u : Option Value), Zz (zx l E mX2_drawsWithin 0 (Rt (some (.int (nI (partS lim f dr)))) M)) 0 0 4 [some (.ref 2), some (.int (nI lim)), some (.int (nI (partS lim f j))), some (.int (nI j)), u] [] M := by
    intro k
    induction k with
    | zero =>
      intro j hj u
      have ej : j = dr := by omega
      subst ej
      refine z_iload_n dX2_drawsWithin_4 rfl rfl ?_
      refine z_aload_n dX2_drawsWithin_5 rfl rfl ?_
      refine z_gi2 (j := 4) dX2_drawsWithin_6 (by decide) fl_X2_31 rfl rfl rfl ?_
      refine z_icmp_ge (tgt := 46) dX2_drawsWithin_9 (by decide) rfl (fun hc => ?_) (fun hc => ?_)
      · refine z_iload_n dX2_drawsWithin_46 rfl rfl ?_
        exact z_ireturn dX2_drawsWithin_47 rfl ⟨rfl, rfl⟩ (Nat.le_of_ble_eq_true rfl) (Nat.le_of_ble_eq_true rfl)
      · exact absurd (by rw [hd]; exact nI_le (Nat.le_refl _) (by omega)) hc
    | succ k ih =>
      intro j hj u
      have ih1 := ih (j + 1) (by omega)
      rw [show partS lim f (j + 1) = partS lim f j + (match f j with | some x => if x ≤ lim then 1 else 0 | none => 0) from rfl] at ih1
      refine z_iload_n dX2_drawsWithin_4 rfl rfl ?_
      refine z_aload_n dX2_drawsWithin_5 rfl rfl ?_
      refine z_gi2 (j := 4) dX2_drawsWithin_6 (by decide) fl_X2_31 rfl rfl rfl ?_
      refine z_icmp_ge (tgt := 46) dX2_drawsWithin_9 (by decide) rfl (fun hc => ?_) (fun hc => ?_)
      · exact absurd hc (by rw [hd]; exact nI_ge (by omega) (by omega))
      · refine z_aload_n dX2_drawsWithin_12 rfl rfl ?_
        refine z_gr2 (j := 2) dX2_drawsWithin_13 (by decide) fl_X2_23 rfl rfl rfl ?_
        refine z_iconst (v := 2) dX2_drawsWithin_16 (by decide) rfl ?_
        refine z_iload_n dX2_drawsWithin_17 rfl rfl ?_
        refine z_iadd dX2_drawsWithin_18 rfl ?_
        refine z_aldR (j := j + 2) dX2_drawsWithin_19 rfl (by rw [show (2 : Int32) = nI 2 from rfl, nI_add, Nat.add_comm]) (by omega) (by decide) rfl ?_
        refine z_gi0 (j := 2) dX2_drawsWithin_20 (by decide) fl_X2_92 (by first | rfl | exact knd_r (by omega)) rfl rfl ?_
        refine z_tp (b := (enI (f j))) (hf j (by omega)) ?_
        cases hx : f j with
        | none =>
          rw [hx] at ih1
          refine z_ist4 dX2_drawsWithin_23 (Nat.le_of_ble_eq_true rfl) rfl ?_
          refine z_iload dX2_drawsWithin_25 rfl rfl ?_
          refine z_iconst (v := (-1)) dX2_drawsWithin_27 (by decide) rfl ?_
          refine z_icmp_eq (tgt := 40) dX2_drawsWithin_28 (by decide) rfl (fun h1 => ?_) (fun h1 => ?_)
          · first | refine z_iu3 dX2_drawsWithin_40 (Nat.le_of_ble_eq_true rfl) rfl ?_ | refine z_inc3 dX2_drawsWithin_40 (Nat.le_of_ble_eq_true rfl) rfl rfl ?_
            refine z_goto (tgt := 4) dX2_drawsWithin_43 (by decide) ?_
            exact ih1 _
          · exact absurd rfl h1
        | some x =>
          have := hb j x hx
          rw [hx] at ih1
          refine z_ist4 dX2_drawsWithin_23 (Nat.le_of_ble_eq_true rfl) rfl ?_
          refine z_iload dX2_drawsWithin_25 rfl rfl ?_
          refine z_iconst (v := (-1)) dX2_drawsWithin_27 (by decide) rfl ?_
          refine z_icmp_eq (tgt := 40) dX2_drawsWithin_28 (by decide) rfl (fun h1 => ?_) (fun h1 => ?_)
          · exact absurd h1 (nI_nm1 (by omega))
          · refine z_iload dX2_drawsWithin_31 rfl rfl ?_
            refine z_iload_n dX2_drawsWithin_33 rfl rfl ?_
            refine z_icmp_gt (tgt := 40) dX2_drawsWithin_34 (by decide) rfl (fun h2 => ?_) (fun h2 => ?_)
            · have := lt_nn h2 (by omega) (by omega)
              simp only [if_neg (show ¬ x ≤ lim by omega)] at ih1
              first | refine z_iu3 dX2_drawsWithin_40 (Nat.le_of_ble_eq_true rfl) rfl ?_ | refine z_inc3 dX2_drawsWithin_40 (Nat.le_of_ble_eq_true rfl) rfl rfl ?_
              refine z_goto (tgt := 4) dX2_drawsWithin_43 (by decide) ?_
              exact ih1 _
            · have := nlt_nn h2 (by omega) (by omega)
              simp only [if_pos (show x ≤ lim by omega)] at ih1
              first | refine z_iu2 dX2_drawsWithin_37 (Nat.le_of_ble_eq_true rfl) rfl ?_ | refine z_inc2 dX2_drawsWithin_37 (Nat.le_of_ble_eq_true rfl) rfl rfl ?_
              first | refine z_iu3 dX2_drawsWithin_40 (Nat.le_of_ble_eq_true rfl) rfl ?_ | refine z_inc3 dX2_drawsWithin_40 (Nat.le_of_ble_eq_true rfl) rfl rfl ?_
              refine z_goto (tgt := 4) dX2_drawsWithin_43 (by decide) ?_
              exact ih1 _
  exact loop dr 0 (by omega) _
theorem maxsub {x lim : Nat} (hx : x < 2 ^ 30) (hl : lim < 2 ^ 30) : (if (0 : Int32) < nI x - nI lim then nI x - nI lim else 0) = nI (x - lim) := by
  rcases Nat.lt_or_ge lim x with q | q
  · rw [pk_sub (by omega), if_pos (show (0 : Int32) < nI (x - lim) from nI_lt (a := 0) (b := x - lim) (by omega) (by omega))]
  · rw [if_neg, show x - lim = 0 by omega]; rfl
    rw [Int32.lt_iff_toInt_lt, pk_sub_toInt hx hl]
    show ¬ ((0 : Int) < _)
    omega
set_option maxHeartbeats 8000000 in
theorem c_X2_lateEnds {l : Launch} {E : EnT} (hst : l.stackTraces = false) (M : Mem) (dr lim : Nat) (f : Nat → Option Nat) (hd : M 2 4 = nI dr) (h20 : dr ≤ 20) (hl : lim ≤ 1000) (hf : ∀ d, d < dr → M (d + 35) 2 = enI (f d)) (hb : ∀ d x, f d = some x → x ≤ 100000) : Mm l E mX2_lateEnds 1 0 0 [.ref 2, .int (nI lim)] M (Rt (some (.int (enI (drS dr (lateS lim f dr))))) M) := by
  refine Mm_go hst (by decide) rfl (Nat.le_of_ble_eq_true rfl) [some (.ref 2), some (.int (nI lim)), none, none, none] rfl ?_
  refine z_iconst (v := 0) dX2_lateEnds_0 (by decide) rfl ?_
  refine z_ist2 dX2_lateEnds_1 (Nat.le_of_ble_eq_true rfl) rfl ?_
  refine z_iconst (v := 0) dX2_lateEnds_2 (by decide) rfl ?_
  refine z_ist3 dX2_lateEnds_3 (Nat.le_of_ble_eq_true rfl) rfl ?_
  have loop : ∀ (k j s : Nat), j + k = dr → lateS lim f j = some s → ∀ (u : Option Value), Zz (zx l E mX2_lateEnds 1 (Rt (some (.int (enI (drS dr (lateS lim f dr))))) M)) 0 0 4 [some (.ref 2), some (.int (nI lim)), some (.int (nI s)), some (.int (nI j)), u] [] M := by
    intro k
    induction k with
    | zero =>
      intro j s hj hs u
      have ej : j = dr := by omega
      subst ej
      refine z_iload_n dX2_lateEnds_4 rfl rfl ?_
      refine z_aload_n dX2_lateEnds_5 rfl rfl ?_
      refine z_gi2 (j := 4) dX2_lateEnds_6 (by decide) fl_X2_31 rfl rfl rfl ?_
      refine z_icmp_ge (tgt := 50) dX2_lateEnds_9 (by decide) rfl (fun hc => ?_) (fun hc => ?_)
      · refine z_aload_n dX2_lateEnds_50 rfl rfl ?_
        refine z_gi2 (j := 4) dX2_lateEnds_51 (by decide) fl_X2_31 rfl rfl rfl ?_
        refine z_if_ne (tgt := 61) dX2_lateEnds_54 (by decide) rfl (fun h1 => ?_) (fun h1 => ?_)
        · have : drS j (lateS lim f j) = some s := by unfold drS; rw [if_neg (fun q => h1 (by rw [hd, q]; rfl)), hs]
          refine z_iload_n dX2_lateEnds_61 rfl rfl ?_
          exact z_ireturn dX2_lateEnds_62 rfl ⟨by rw [this]; rfl, rfl⟩ (Nat.le_of_ble_eq_true rfl) (Nat.le_of_ble_eq_true rfl)
        · have : drS j (lateS lim f j) = none := by unfold drS; rw [if_pos ((nI_eq (by omega) (by decide)).mp (hd.symm.trans h1))]
          refine z_iconst (v := (-1)) dX2_lateEnds_57 (by decide) rfl ?_
          refine z_goto (tgt := 62) dX2_lateEnds_58 (by decide) ?_
          exact z_ireturn dX2_lateEnds_62 rfl ⟨by rw [this]; rfl, rfl⟩ (Nat.le_of_ble_eq_true rfl) (Nat.le_of_ble_eq_true rfl)
      · exact absurd (by rw [hd]; exact nI_le (Nat.le_refl _) (by omega)) hc
    | succ k ih =>
      intro j s hj hs u
      refine z_iload_n dX2_lateEnds_4 rfl rfl ?_
      refine z_aload_n dX2_lateEnds_5 rfl rfl ?_
      refine z_gi2 (j := 4) dX2_lateEnds_6 (by decide) fl_X2_31 rfl rfl rfl ?_
      refine z_icmp_ge (tgt := 50) dX2_lateEnds_9 (by decide) rfl (fun hc => ?_) (fun hc => ?_)
      · exact absurd hc (by rw [hd]; exact nI_ge (by omega) (by omega))
      · refine z_aload_n dX2_lateEnds_12 rfl rfl ?_
        refine z_gr2 (j := 2) dX2_lateEnds_13 (by decide) fl_X2_23 rfl rfl rfl ?_
        refine z_iconst (v := 2) dX2_lateEnds_16 (by decide) rfl ?_
        refine z_iload_n dX2_lateEnds_17 rfl rfl ?_
        refine z_iadd dX2_lateEnds_18 rfl ?_
        refine z_aldR (j := j + 2) dX2_lateEnds_19 rfl (by rw [show (2 : Int32) = nI 2 from rfl, nI_add, Nat.add_comm]) (by omega) (by decide) rfl ?_
        refine z_gi0 (j := 2) dX2_lateEnds_20 (by decide) fl_X2_92 (by first | rfl | exact knd_r (by omega)) rfl rfl ?_
        refine z_tp (b := (enI (f j))) (hf j (by omega)) ?_
        cases hx : f j with
        | none =>
          have hn : drS dr (lateS lim f dr) = none := by
            unfold drS
            rw [if_neg (by omega), lateS_none (a := j + 1) (by rw [lateS, hs, hx]) (by omega)]
          refine z_ist4 dX2_lateEnds_23 (Nat.le_of_ble_eq_true rfl) rfl ?_
          refine z_iload dX2_lateEnds_25 rfl rfl ?_
          refine z_iconst (v := (-1)) dX2_lateEnds_27 (by decide) rfl ?_
          refine z_icmp_ne (tgt := 33) dX2_lateEnds_28 (by decide) rfl (fun h1 => ?_) (fun h1 => ?_)
          · exact absurd rfl h1
          · refine z_iconst (v := (-1)) dX2_lateEnds_31 (by decide) rfl ?_
            exact z_ireturn dX2_lateEnds_32 rfl ⟨by rw [hn]; rfl, rfl⟩ (Nat.le_of_ble_eq_true rfl) (Nat.le_of_ble_eq_true rfl)
        | some x =>
          have hxb := hb j x hx
          have hsb := lateS_bd (m := 100000) hb hs
          refine z_ist4 dX2_lateEnds_23 (Nat.le_of_ble_eq_true rfl) rfl ?_
          refine z_iload dX2_lateEnds_25 rfl rfl ?_
          refine z_iconst (v := (-1)) dX2_lateEnds_27 (by decide) rfl ?_
          refine z_icmp_ne (tgt := 33) dX2_lateEnds_28 (by decide) rfl (fun h1 => ?_) (fun h1 => ?_)
          · refine z_iload_n dX2_lateEnds_33 rfl rfl ?_
            refine z_iconst (v := 0) dX2_lateEnds_34 (by decide) rfl ?_
            refine z_iload dX2_lateEnds_35 rfl rfl ?_
            refine z_iload_n dX2_lateEnds_37 rfl rfl ?_
            refine z_isub dX2_lateEnds_38 rfl ?_
            refine z_mmax dX2_lateEnds_39 ml_X2_123 (Nat.le_of_ble_eq_true rfl) (Nat.le_of_ble_eq_true rfl) (Nat.le_of_ble_eq_true rfl) (Nat.le_of_ble_eq_true rfl) rfl ?_
            refine z_tp (b := nI (x - lim)) (maxsub (by omega) (by omega)) ?_
            refine z_iadd dX2_lateEnds_42 rfl ?_
            refine z_tp (b := (nI (s + (x - lim)))) (nI_add _ _) ?_
            refine z_ist2 dX2_lateEnds_43 (Nat.le_of_ble_eq_true rfl) rfl ?_
            first | refine z_iu3 dX2_lateEnds_44 (Nat.le_of_ble_eq_true rfl) rfl ?_ | refine z_inc3 dX2_lateEnds_44 (Nat.le_of_ble_eq_true rfl) rfl rfl ?_
            refine z_goto (tgt := 4) dX2_lateEnds_47 (by decide) ?_
            exact ih (j + 1) (s + (x - lim)) (by omega) (by rw [lateS, hs, hx]) _
          · exact absurd h1 (nI_nm1 (by omega))
  exact loop dr 0 0 (by omega) rfl _
