set_option maxHeartbeats 4000000 in
theorem c_J7_fill {l : Launch} {E : EnT} (hst : l.stackTraces = false) (M : Mem) (r : Nat) (hr : r < 22) (v : Int32) : Mm l E mJ7_fill_53178 0 0 0 [.ref (r + 77), .int v] M (Rt none (fil M (r + 77) 0 16 (fun _ => v))) := by
  refine Mm_go hst (by decide) rfl (Nat.le_of_ble_eq_true rfl) [some (.ref (r + 77)), some (.int v), none, none] rfl ?_
  refine z_iconst (v := 0) dJ7_fill_53178_0 (by decide) rfl ?_
  refine z_ist2 dJ7_fill_53178_1 (Nat.le_of_ble_eq_true rfl) rfl ?_
  refine z_aload_n dJ7_fill_53178_2 rfl rfl ?_
  refine z_alen dJ7_fill_53178_3 (by first | rfl | exact knd_h (by omega) | exact knd_s (by omega)) rfl ?_
  refine z_ist3 dJ7_fill_53178_4 (Nat.le_of_ble_eq_true rfl) rfl ?_
  have loop : ∀ (k j : Nat), j + k = 16 → Zz (zx l E mJ7_fill_53178 0 (Rt none (fil M (r + 77) 0 16 (fun _ => v)))) 0 0 5 [some (.ref (r + 77)), some (.int v), some (.int (nI j)), some (.int (nI 16))] [] (fil M (r + 77) 0 j (fun _ => v)) := by
    intro k
    induction k with
    | zero =>
      intro j hj
      have e : j = 16 := by omega
      subst e
      refine z_iload_n dJ7_fill_53178_5 rfl rfl ?_
      refine z_iload_n dJ7_fill_53178_6 rfl rfl ?_
      refine z_icmp_ge (tgt := 20) dJ7_fill_53178_7 (by decide) rfl (fun hc => ?_) (fun hc => ?_)
      · exact z_return dJ7_fill_53178_20 rfl ⟨rfl, rfl⟩ (Nat.le_of_ble_eq_true rfl) (Nat.le_of_ble_eq_true rfl)
      · exact absurd (nI_le (Nat.le_refl _) (by decide)) hc
    | succ k ih =>
      intro j hj
      refine z_iload_n dJ7_fill_53178_5 rfl rfl ?_
      refine z_iload_n dJ7_fill_53178_6 rfl rfl ?_
      refine z_icmp_ge (tgt := 20) dJ7_fill_53178_7 (by decide) rfl (fun hc => ?_) (fun hc => ?_)
      · exact absurd (le_nn hc (by decide) (by omega)) (by omega)
      · refine z_aload_n dJ7_fill_53178_10 rfl rfl ?_
        refine z_iload_n dJ7_fill_53178_11 rfl rfl ?_
        refine z_iload_n dJ7_fill_53178_12 rfl rfl ?_
        refine z_iast dJ7_fill_53178_13 (by first | rfl | exact knd_h (by omega) | exact knd_s (by omega)) rfl (by omega) (by decide) rfl ?_
        refine z_mem (N := fil M (r + 77) 0 (j + 1) (fun _ => v)) (fil_s' rfl (by omega)) ?_
        first | refine z_iu2 dJ7_fill_53178_14 (Nat.le_of_ble_eq_true rfl) rfl ?_ | refine z_inc2 dJ7_fill_53178_14 (Nat.le_of_ble_eq_true rfl) rfl rfl ?_
        refine z_goto (tgt := 5) dJ7_fill_53178_17 (by decide) ?_
        exact ih (j + 1) (by omega)
  exact z_mem (N := fil M (r + 77) 0 0 (fun _ => v)) fil_0.symm (loop 16 0 (by omega))
def nxI (z : Int32) : Option Nat → Int32
  | none => z
  | some x => nI x
set_option maxHeartbeats 4000000 in
theorem c_X2_nextStop {l : Launch} {E : EnT} (hst : l.stackTraces = false) (M : Mem) (P : Pb) (r : Nat) (s : Sch) (e : Nat → Bool) (hn : M 2 3 = nI (pN P)) (h16 : pN P ≤ 16) (hC : CR P M r s e) (hB : ∀ w b, w < pN P → s w = some b → b + pH P w ≤ 200000) : Mm l E mX2_nextStop 1 0 0 [.ref 2] M (Rt (some (.int (nxI 1000000 (nxTo P s e (pN P))))) M) := by
  refine Mm_go hst (by decide) rfl (Nat.le_of_ble_eq_true rfl) [some (.ref 2), none, none] rfl ?_
  refine z_ldc dX2_nextStop_0 co_X2_108 rfl ?_
  refine z_ist1 dX2_nextStop_2 (Nat.le_of_ble_eq_true rfl) rfl ?_
  refine z_iconst (v := 0) dX2_nextStop_3 (by decide) rfl ?_
  refine z_ist2 dX2_nextStop_4 (Nat.le_of_ble_eq_true rfl) rfl ?_
  have loop : ∀ (k j : Nat), j + k = pN P → Zz (zx l E mX2_nextStop 1 (Rt (some (.int (nxI 1000000 (nxTo P s e (pN P))))) M)) 0 0 5 [some (.ref 2), some (.int (nxI 1000000 (nxTo P s e j))), some (.int (nI j))] [] M := by
    intro k
    induction k with
    | zero =>
      intro j hj
      have ej : j = pN P := by omega
      subst ej
      refine z_iload_n dX2_nextStop_5 rfl rfl ?_
      refine z_aload_n dX2_nextStop_6 rfl rfl ?_
      refine z_gi2 (j := 3) dX2_nextStop_7 (by decide) fl_X2_27 rfl rfl rfl ?_
      refine z_icmp_ge (tgt := 38) dX2_nextStop_10 (by decide) rfl (fun hc => ?_) (fun hc => ?_)
      · refine z_iload_n dX2_nextStop_38 rfl rfl ?_
        exact z_ireturn dX2_nextStop_39 rfl ⟨rfl, rfl⟩ (Nat.le_of_ble_eq_true rfl) (Nat.le_of_ble_eq_true rfl)
      · exact absurd (by rw [hn]; exact nI_le (Nat.le_refl _) (by omega)) hc
    | succ k ih =>
      intro j hj
      have ih1 := ih (j + 1) (by omega)
      refine z_iload_n dX2_nextStop_5 rfl rfl ?_
      refine z_aload_n dX2_nextStop_6 rfl rfl ?_
      refine z_gi2 (j := 3) dX2_nextStop_7 (by decide) fl_X2_27 rfl rfl rfl ?_
      refine z_icmp_ge (tgt := 38) dX2_nextStop_10 (by decide) rfl (fun hc => ?_) (fun hc => ?_)
      · exact absurd hc (by rw [hn]; exact nI_ge (by omega) (by omega))
      · refine z_aload_n dX2_nextStop_13 rfl rfl ?_
        refine z_iload_n dX2_nextStop_14 rfl rfl ?_
        refine z_cv1 (ci := 2) (nf := 11) (y := mX2_isRunning) dX2_nextStop_15 ml_X2_109 iv_X2_isRunning (Nat.le_of_ble_eq_true rfl) rfl (by decide) rfl (Nat.le_of_ble_eq_true rfl) (Nat.le_of_ble_eq_true rfl) (Nat.le_of_ble_eq_true rfl) (c_X2_isRunning hst M P r j s e h16 hC (by omega)) rfl ?_
        cases hr : runs s e j with
        | false =>
          refine z_if_eq (tgt := 32) dX2_nextStop_18 (by decide) rfl (fun h1 => ?_) (fun h1 => ?_)
          · have : nxTo P s e (j + 1) = nxTo P s e j := by
              unfold runs at hr
              cases hs : s j with
              | none => rw [nxTo, hs]
              | some b => rw [hs] at hr; rw [nxTo, hs]; simp at hr; simp [hr]
            rw [this] at ih1
            first | refine z_iu2 dX2_nextStop_32 (Nat.le_of_ble_eq_true rfl) rfl ?_ | refine z_inc2 dX2_nextStop_32 (Nat.le_of_ble_eq_true rfl) rfl rfl ?_
            refine z_goto (tgt := 5) dX2_nextStop_35 (by decide) ?_
            exact ih1
          · exact absurd rfl h1
        | true =>
          refine z_if_eq (tgt := 32) dX2_nextStop_18 (by decide) rfl (fun h1 => ?_) (fun h1 => ?_)
          · exact absurd h1 (by decide)
          · obtain ⟨b, hb, he⟩ : ∃ b, s j = some b ∧ e j = false := by
              unfold runs at hr
              cases hs : s j with
              | none => rw [hs] at hr; cases hr
              | some b => rw [hs] at hr; exact ⟨b, rfl, by simpa using hr⟩
            have es : M 11 j = nI (b + pH P j) := hC.2.2.2.2.2.1 j b (by omega) hb
            have hbd := hB j b (by omega) hb
            refine z_iload_n dX2_nextStop_21 rfl rfl ?_
            refine z_aload_n dX2_nextStop_22 rfl rfl ?_
            refine z_gr2 (j := 6) dX2_nextStop_23 (by decide) fl_X2_37 rfl rfl rfl ?_
            refine z_iload_n dX2_nextStop_26 rfl rfl ?_
            refine z_iald dX2_nextStop_27 (by first | rfl | exact knd_h (by omega) | exact knd_s (by omega)) rfl (by omega) (by decide) rfl ?_
            refine z_mmin dX2_nextStop_28 ml_X2_113 (Nat.le_of_ble_eq_true rfl) (Nat.le_of_ble_eq_true rfl) (Nat.le_of_ble_eq_true rfl) (Nat.le_of_ble_eq_true rfl) rfl ?_
            have en : (if M 11 j < nxI 1000000 (nxTo P s e j) then M 11 j else nxI 1000000 (nxTo P s e j)) = nxI 1000000 (nxTo P s e (j + 1)) := by
              rw [es, nxTo, hb]
              simp only [he]
              cases hx : nxTo P s e j with
              | none =>
                show (if nI (b + pH P j) < 1000000 then _ else _) = nI (b + pH P j)
                rw [if_pos]
                exact nI_lt (b := 1000000) (by omega) (by decide)
              | some x =>
                obtain ⟨⟨w2, b2, q1, q2, q3, q4⟩, -⟩ := nx_some hx
                have := hB w2 b2 (by omega) q2
                show (if nI (b + pH P j) < nI x then nI (b + pH P j) else nI x) = nxI 1000000 (if b + pH P j < x then some (b + pH P j) else some x)
                rcases Nat.lt_or_ge (b + pH P j) x with g | g
                · rw [if_pos (nI_lt g (by omega)), if_pos g]; rfl
                · rw [if_neg (nI_nlt g (by omega)), if_neg (by omega)]; rfl
            refine z_tp (b := nxI 1000000 (nxTo P s e (j + 1))) en ?_
            refine z_ist1 dX2_nextStop_31 (Nat.le_of_ble_eq_true rfl) rfl ?_
            first | refine z_iu2 dX2_nextStop_32 (Nat.le_of_ble_eq_true rfl) rfl ?_ | refine z_inc2 dX2_nextStop_32 (Nat.le_of_ble_eq_true rfl) rfl rfl ?_
            refine z_goto (tgt := 5) dX2_nextStop_35 (by decide) ?_
            exact ih1
  exact loop (pN P) 0 (by omega)
theorem CR_end {P : Pb} {N N' : Mem} {r w : Nat} {s : Sch} {e : Nat → Bool} (h16 : pN P ≤ 16) (hT : ∀ w, w < pN P → pT P w ≤ 3) (hC : CR P N r s e) (hw : w < pN P) (hr : runs s e w = true)
    (k7 : N' 2 7 = N 2 7) (k8 : N' 2 8 = N 2 8 ||| ((1 : Int32) <<< (nI w &&& 31))) (k9 : N' 2 9 = N 2 9 &&& (tbit (pT P w) ^^^ (-1))) (k10 : N' 2 10 = N 2 10 + nI (pD P w)) (kst : N' (r + 77) = N (r + 77)) (ksp : N' 11 = N 11) : CR P N' r s (fun i => if i = w then true else e i) := by
  obtain ⟨c1, c2, c3, ⟨c4, c5⟩, c6, c7, c8, c9⟩ := hC
  have ro : ∀ o, o ≠ w → runs s (fun i => if i = w then true else e i) o = runs s e o := fun o ho => by unfold runs; simp [ho]
  have rw0 : runs s (fun i => if i = w then true else e i) w = false := by unfold runs; simp
  have hu : useTo P s e (pN P) = useTo P s (fun i => if i = w then true else e i) (pN P) + pD P w := useTo_sup rw0 hr (fun o ho => (ro o ho).symm) hw
  refine ⟨fun i hi => by rw [k7]; exact c1 i hi, fun i hi => ?_, fun i hi => ?_, ⟨?_, ?_⟩, fun v hv => by rw [kst]; exact c6 v hv, fun v b hv hb => by rw [ksp]; exact c7 v b hv hb, fun a b ha hb hab ra rb ta => ?_, fun v hv => ?_⟩
  · rw [k8, b_or, c2 i hi, b_one w (by omega) i hi]
    by_cases hiw : i = w
    · subst hiw; simp [hw]
    · simp [hiw]
  · rw [k9, b_and, Bool.and_eq_true, c3 i hi, b_not _ hi, b_tbit (hT w hw) hi]
    constructor
    · rintro ⟨⟨v, v1, v2, v3, v4⟩, q⟩
      have hvw : v ≠ w := fun z => by subst z; simp at q; omega
      exact ⟨v, v1, by rw [ro v hvw]; exact v2, v3, v4⟩
    · rintro ⟨v, v1, v2, v3, v4⟩
      have hvw : v ≠ w := fun z => by subst z; rw [rw0] at v2; cases v2
      rw [ro v hvw] at v2
      refine ⟨⟨v, v1, v2, v3, v4⟩, ?_⟩
      have := c8 v w v1 hw hvw v2 hr (by omega)
      simp; omega
  · rw [k10, c4, nI_add]
    congr 1; omega
  · omega
  · have haw : a ≠ w := fun z => by subst z; rw [rw0] at ra; cases ra
    have hbw : b ≠ w := fun z => by subst z; rw [rw0] at rb; cases rb
    rw [ro a haw] at ra
    rw [ro b hbw] at rb
    exact c8 a b ha hb hab ra rb ta
  · have hvw : v ≠ w := fun z => by subst z; unfold runs at hr; rw [hv] at hr; cases hr
    simp only [if_neg hvw]; exact c9 v hv
theorem CR_cg {P : Pb} {N : Mem} {r : Nat} {s : Sch} {e e2 : Nat → Bool} (hC : CR P N r s e) (h : ∀ w, w < pN P → e w = e2 w) (h0 : ∀ w, s w = none → e2 w = false) : CR P N r s e2 := by
  obtain ⟨c1, c2, c3, ⟨c4, c5⟩, c6, c7, c8, c9⟩ := hC
  have ro : ∀ o, o < pN P → runs s e o = runs s e2 o := fun o ho => by unfold runs; rw [h o ho]
  have hu := useTo_cg (P := P) (m := pN P) ro
  refine ⟨c1, fun i hi => ?_, fun i hi => ?_, ⟨by rw [← hu]; exact c4, by rw [← hu]; exact c5⟩, c6, c7, fun a b ha hb hab ra rb ta => ?_, h0⟩
  · rw [c2 i hi]
    by_cases hin : i < pN P
    · rw [h i hin]
    · simp [hin]
  · rw [c3 i hi]
    constructor
    · rintro ⟨v, v1, v2, v3⟩; exact ⟨v, v1, by rw [← ro v v1]; exact v2, v3⟩
    · rintro ⟨v, v1, v2, v3⟩; exact ⟨v, v1, by rw [ro v v1]; exact v2, v3⟩
  · rw [← ro a ha] at ra
    rw [← ro b hb] at rb
    exact c8 a b ha hb hab ra rb ta
/-- those of the first j whose end is h have ended -/
def eTo (P : Pb) (s : Sch) (e : Nat → Bool) (h j : Nat) : Nat → Bool := fun w => e w || (decide (w < j) && match s w with | some b => decide (b + pH P w = h) | none => false)
set_option maxHeartbeats 8000000 in
theorem c_X2_endAt {l : Launch} {E : EnT} (hst : l.stackTraces = false) (M : Mem) (P : Pb) (r h : Nat) (s : Sch) (e : Nat → Bool) (hr : r < 22) (hW : WC P M r) (hC : CR P M r s e) (hh : h ≤ 200000) (hB : ∀ w b, w < pN P → s w = some b → b + pH P w ≤ 200000) : Mm l E mX2_endAt 1 0 0 [.ref 2, .int (nI h)] M (RP none (fun N => Eqx (Sx r) M N ∧ CR P N r s (eTo P s e h (pN P)))) := by
  refine Mm_go hst (by decide) rfl (Nat.le_of_ble_eq_true rfl) [some (.ref 2), some (.int (nI h)), none] rfl ?_
  refine z_iconst (v := 0) dX2_endAt_0 (by decide) rfl ?_
  refine z_ist2 dX2_endAt_1 (Nat.le_of_ble_eq_true rfl) rfl ?_
  have h16 : pN P ≤ 16 := hW.2.1
  have loop : ∀ (t k : Nat), k + t = pN P → ∀ (N : Mem), Eqx (Sx r) M N → CR P N r s (eTo P s e h k) → Zz (zx l E mX2_endAt 1 (RP none (fun N => Eqx (Sx r) M N ∧ CR P N r s (eTo P s e h (pN P))))) 0 0 2 [some (.ref 2), some (.int (nI h)), some (.int (nI k))] [] N := by
    intro t
    induction t with
    | zero =>
      intro k hk N hE hC
      have ek : k = pN P := by omega
      subst ek
      have hWN := hW.keep hr hE
      refine z_iload_n dX2_endAt_2 rfl rfl ?_
      refine z_aload_n dX2_endAt_3 rfl rfl ?_
      refine z_gi2 (j := 3) dX2_endAt_4 (by decide) fl_X2_27 rfl rfl rfl ?_
      refine z_icmp_ge (tgt := 84) dX2_endAt_7 (by decide) rfl (fun hc => ?_) (fun hc => ?_)
      · exact z_return dX2_endAt_84 rfl ⟨rfl, hE, hC⟩ (Nat.le_of_ble_eq_true rfl) (Nat.le_of_ble_eq_true rfl)
      · exact absurd (by rw [hWN.1]; exact nI_le (Nat.le_refl _) (by omega)) hc
    | succ t ih =>
      intro k hk N hE hC
      have hWN := hW.keep hr hE
      have gon : ∀ (N2 : Mem), Eqx (Sx r) M N2 → CR P N2 r s (eTo P s e h (k + 1)) → Zz (zx l E mX2_endAt 1 (RP none (fun N => Eqx (Sx r) M N ∧ CR P N r s (eTo P s e h (pN P))))) 0 0 78 [some (.ref 2), some (.int (nI h)), some (.int (nI k))] [] N2 := fun N2 a b => by
        first | refine z_iu2 dX2_endAt_78 (Nat.le_of_ble_eq_true rfl) rfl ?_ | refine z_inc2 dX2_endAt_78 (Nat.le_of_ble_eq_true rfl) rfl rfl ?_
        refine z_goto (tgt := 2) dX2_endAt_81 (by decide) ?_
        exact ih (k + 1) (by omega) N2 a b
      have same : ∀ w, w ≠ k → eTo P s e h k w = eTo P s e h (k + 1) w := fun w hw => by
        unfold eTo
        rcases Nat.lt_or_ge w k with q | q
        · simp [q, show w < k + 1 by omega]
        · simp [show ¬ w < k by omega, show ¬ w < k + 1 by omega]
      have z0 : ∀ w, s w = none → eTo P s e h (k + 1) w = false := fun w hw => by
        have h1 := hC.2.2.2.2.2.2.2 w hw
        unfold eTo at h1 ⊢
        rw [hw] at h1 ⊢
        simpa using h1
      refine z_iload_n dX2_endAt_2 rfl rfl ?_
      refine z_aload_n dX2_endAt_3 rfl rfl ?_
      refine z_gi2 (j := 3) dX2_endAt_4 (by decide) fl_X2_27 rfl rfl rfl ?_
      refine z_icmp_ge (tgt := 84) dX2_endAt_7 (by decide) rfl (fun hc => ?_) (fun hc => ?_)
      · exact absurd hc (by rw [hWN.1]; exact nI_ge (by omega) (by omega))
      · refine z_aload_n dX2_endAt_10 rfl rfl ?_
        refine z_iload_n dX2_endAt_11 rfl rfl ?_
        refine z_cv1 (ci := 2) (nf := 11) (y := mX2_isRunning) dX2_endAt_12 ml_X2_109 iv_X2_isRunning (Nat.le_of_ble_eq_true rfl) rfl (by decide) rfl (Nat.le_of_ble_eq_true rfl) (Nat.le_of_ble_eq_true rfl) (Nat.le_of_ble_eq_true rfl) (c_X2_isRunning hst N P r k s _ h16 hC (by omega)) rfl ?_
        have ekk : eTo P s e h k k = e k := by unfold eTo; simp
        cases hrn : runs s (eTo P s e h k) k with
        | false =>
          refine z_if_eq (tgt := 78) dX2_endAt_15 (by decide) rfl (fun h1 => ?_) (fun h1 => ?_)
          · refine gon N hE (CR_cg hC (fun w hw => ?_) z0)
            by_cases hwk : w = k
            · subst hwk
              unfold runs at hrn
              rw [ekk] at hrn ⊢
              unfold eTo
              cases hs : s w with
              | none => simp
              | some b => rw [hs] at hrn; simp at hrn; simp [hrn]
            · exact same w hwk
          · exact absurd rfl h1
        | true =>
          refine z_if_eq (tgt := 78) dX2_endAt_15 (by decide) rfl (fun h1 => ?_) (fun h1 => ?_)
          · exact absurd h1 (by decide)
          · obtain ⟨b, hb, he⟩ : ∃ b, s k = some b ∧ e k = false := by
              unfold runs at hrn
              rw [ekk] at hrn
              cases hs : s k with
              | none => rw [hs] at hrn; cases hrn
              | some b => rw [hs] at hrn; exact ⟨b, rfl, by simpa using hrn⟩
            have es : N 11 k = nI (b + pH P k) := hC.2.2.2.2.2.1 k b (by omega) hb
            have hbd := hB k b (by omega) hb
            refine z_aload_n dX2_endAt_18 rfl rfl ?_
            refine z_gr2 (j := 6) dX2_endAt_19 (by decide) fl_X2_37 rfl rfl rfl ?_
            refine z_iload_n dX2_endAt_22 rfl rfl ?_
            refine z_iald dX2_endAt_23 (by first | rfl | exact knd_h (by omega) | exact knd_s (by omega)) rfl (by omega) (by decide) rfl ?_
            refine z_iload_n dX2_endAt_24 rfl rfl ?_
            refine z_icmp_ne (tgt := 78) dX2_endAt_25 (by decide) rfl (fun h2 => ?_) (fun h2 => ?_)
            · have hne : b + pH P k ≠ h := fun q => h2 (by rw [es, q])
              refine gon N hE (CR_cg hC (fun w hw => ?_) z0)
              by_cases hwk : w = k
              · subst hwk
                rw [ekk]; unfold eTo; rw [hb]; simp [he, hne]
              · exact same w hwk
            · have heq : b + pH P k = h := (nI_eq (by omega) (by omega)).mp (es.symm.trans h2)
              refine z_aload_n dX2_endAt_28 rfl rfl ?_
              refine z_dup dX2_endAt_29 rfl rfl ?_
              refine z_gi2 (j := 8) dX2_endAt_30 (by decide) fl_X2_71 rfl rfl rfl ?_
              refine z_iconst (v := 1) dX2_endAt_33 (by decide) rfl ?_
              refine z_iload_n dX2_endAt_34 rfl rfl ?_
              refine z_ishl dX2_endAt_35 rfl ?_
              refine z_ior dX2_endAt_36 rfl ?_
              refine z_pi2 (j := 8) dX2_endAt_37 (by decide) fl_X2_71 rfl rfl rfl rfl rfl ?_
              refine z_aload_n dX2_endAt_40 rfl rfl ?_
              refine z_dup dX2_endAt_41 rfl rfl ?_
              refine z_gi2 (j := 9) dX2_endAt_42 (by decide) fl_X2_74 rfl rfl rfl ?_
              refine z_aload_n dX2_endAt_45 rfl rfl ?_
              refine z_gr2 (j := 0) dX2_endAt_46 (by decide) fl_X2_11 rfl rfl rfl ?_
              refine z_iload_n dX2_endAt_49 rfl rfl ?_
              refine z_aldW dX2_endAt_50 rfl rfl (by omega) (by decide) rfl ?_
              refine z_gi4 (j := 6) dX2_endAt_51 (by decide) fl_X2_99 (by first | assumption | rfl | exact knd_w (by omega)) rfl rfl ?_
              refine z_iconst (v := (-1)) dX2_endAt_54 (by decide) rfl ?_
              refine z_ixor dX2_endAt_55 rfl ?_
              refine z_iand dX2_endAt_56 rfl ?_
              refine z_pi2 (j := 9) dX2_endAt_57 (by decide) fl_X2_74 rfl rfl rfl rfl rfl ?_
              refine z_aload_n dX2_endAt_60 rfl rfl ?_
              refine z_dup dX2_endAt_61 rfl rfl ?_
              refine z_gi2 (j := 10) dX2_endAt_62 (by decide) fl_X2_77 rfl rfl rfl ?_
              refine z_aload_n dX2_endAt_65 rfl rfl ?_
              refine z_gr2 (j := 0) dX2_endAt_66 (by decide) fl_X2_11 rfl rfl rfl ?_
              refine z_iload_n dX2_endAt_69 rfl rfl ?_
              refine z_aldW dX2_endAt_70 rfl rfl (by omega) (by decide) rfl ?_
              refine z_gi4 (j := 3) dX2_endAt_71 (by decide) fl_X2_102 (by first | assumption | rfl | exact knd_w (by omega)) rfl rfl ?_
              refine z_iadd dX2_endAt_74 rfl ?_
              refine z_pi2 (j := 10) dX2_endAt_75 (by decide) fl_X2_77 rfl rfl rfl rfl rfl ?_
              obtain ⟨g1, g2, g3, g4, g5, g6, g7, g8⟩ := hWN.2.2.2.2 k (by omega)
              have n5 : ¬ (k + 17 = 2) := by omega
              have n3 : ¬ (r + 77 = 2) := by omega
              refine gon _ (((hE.mu (by unfold Sx; omega)).mu (by unfold Sx; omega)).mu (by unfold Sx; omega)) ?_
              refine CR_cg (CR_end (w := k) h16 (fun w hw => (hWN.2.2.2.2 w hw).2.2.2.1) hC (by omega) hrn ?_ ?_ ?_ ?_ ?_ ?_) (fun w hw => ?_) z0
              · simp only [mu_at, n5, if_true, if_false]; rfl
              · simp only [mu_at, n5, if_true, if_false]; rfl
              · simp only [mu_at, n5, if_true, if_false, ← g3]; rfl
              · simp only [mu_at, n5, if_true, if_false, ← g1]; rfl
              · rw [mu_o n3, mu_o n3, mu_o n3]
              · rfl
              · by_cases hwk : w = k
                · subst hwk
                  rw [if_pos rfl]; unfold eTo; rw [hb]; simp [heq]
                · rw [if_neg hwk]; exact same w hwk
  refine loop (pN P) 0 (by omega) M Eqx.rf (CR_cg hC (fun w hw => by unfold eTo; simp) (fun w hw => ?_))
  have := hC.2.2.2.2.2.2.2 w hw
  unfold eTo; simp [this]
