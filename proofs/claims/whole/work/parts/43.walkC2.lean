theorem stI_some {b : Nat} : stI (some b) = nI b := rfl
theorem CR_begin {P : Pb} {N N' : Mem} {r w h : Nat} {s : Sch} {e : Nat → Bool} (h16 : pN P ≤ 16) (hT : ∀ w, w < pN P → pT P w ≤ 3) (hC : CR P N r s e) (hw : w < pN P) (hs : s w = none) (hm : may P s e w = true)
    (k7 : N' 2 7 = N 2 7 ||| ((1 : Int32) <<< (nI w &&& 31))) (k8 : N' 2 8 = N 2 8) (k9 : N' 2 9 = N 2 9 ||| tbit (pT P w)) (k10 : N' 2 10 = N 2 10 - nI (pD P w)) (kst : ∀ v, N' (r + 77) v = if v = w then nI h else N (r + 77) v) (ksp : ∀ v, N' 11 v = if v = w then nI (h + pH P w) else N 11 v) : CR P N' r (sup s w h) e := by
  obtain ⟨c1, c2, c3, ⟨c4, c5⟩, c6, c7, c8, c9⟩ := hC
  have hew : e w = false := c9 w hs
  have hrw : runs s e w = false := by unfold runs; rw [hs]; rfl
  have hrw2 : runs (sup s w h) e w = true := runs_sup_w hew
  unfold may at hm
  rw [Bool.and_eq_true, okTo_iff, decide_eq_true_eq] at hm
  have hu : useTo P (sup s w h) e (pN P) = useTo P s e (pN P) + pD P w := useTo_sup hrw hrw2 (fun o ho => runs_sup_o ho) hw
  refine ⟨fun i hi => ?_, fun i hi => by rw [k8]; exact c2 i hi, fun i hi => ?_, ⟨?_, ?_⟩, fun v hv => ?_, fun v b hv hb => ?_, fun a b ha hb hab ra rb ta => ?_, fun v hv => ?_⟩
  · rw [k7, b_or, c1 i hi, b_one w (by omega) i hi]
    unfold sup
    by_cases hiw : i = w
    · subst hiw; simp [hw]
    · simp [hiw]
  · rw [k9, b_or, Bool.or_eq_true, c3 i hi, b_tbit (hT w hw) hi, decide_eq_true_eq]
    constructor
    · rintro (⟨v, v1, v2, v3⟩ | ⟨q1, q2⟩)
      · refine ⟨v, v1, ?_, v3⟩
        rw [runs_sup_o (fun q => by subst q; rw [hrw] at v2; cases v2)]; exact v2
      · exact ⟨w, hw, hrw2, q2.symm, by omega⟩
    · rintro ⟨v, v1, v2, v3, v4⟩
      by_cases hvw : v = w
      · subst hvw; exact Or.inr ⟨by omega, v3.symm⟩
      · rw [runs_sup_o hvw] at v2; exact Or.inl ⟨v, v1, v2, v3, v4⟩
  · rw [k10, c4, pk_sub (by omega), hu]
    congr 1; omega
  · rw [hu]; omega
  · rw [kst v]
    unfold sup
    split
    · rfl
    · exact c6 v hv
  · rw [ksp v]
    unfold sup at hb
    split
    · rename_i q; rw [if_pos q] at hb; cases hb; rw [q]
    · rename_i q; rw [if_neg q] at hb; exact c7 v b hv hb
  · by_cases haw : a = w
    · subst haw
      have hb2 : runs s e b = true := by rw [runs_sup_o (Ne.symm hab)] at rb; exact rb
      exact fun q => (hm.1 b hb).2 ⟨hb2, by omega, q.symm⟩
    · by_cases hbw : b = w
      · subst hbw
        have ha2 : runs s e a = true := by rw [runs_sup_o haw] at ra; exact ra
        exact fun q => (hm.1 a ha).2 ⟨ha2, ta, q⟩
      · rw [runs_sup_o haw] at ra
        rw [runs_sup_o hbw] at rb
        exact c8 a b ha hb hab ra rb ta
  · unfold sup at hv
    split at hv
    · cases hv
    · exact c9 v hv
set_option maxHeartbeats 8000000 in
theorem c_X2_beginAt {l : Launch} {E : EnT} (hst : l.stackTraces = false) (M : Mem) (P : Pb) (r oc len h : Nat) (od : Nat → Nat) (s : Sch) (e : Nat → Bool) (hr : r < 22) (hoc : knd oc = (10, len)) (hol : pN P ≤ len) (hl31 : len < 2 ^ 31) (ho9 : oc = 9 ∨ oc = 13) (hW : WC P M r) (hC : CR P M r s e) (hod : ∀ k, k < pN P → M oc k = nI (od k) ∧ od k < pN P) (hh : h ≤ 100000) : Mm l E mX2_beginAt 1 0 0 [.ref 2, .int (nI h), .ref (r + 33), .ref oc] M (RP none (fun N => Eqx (Sx r) M N ∧ CR P N r (bgTo P od h e s (pN P)) e)) := by
  refine Mm_go hst (by decide) rfl (Nat.le_of_ble_eq_true rfl) [some (.ref 2), some (.int (nI h)), some (.ref (r + 33)), some (.ref oc), none, none] rfl ?_
  refine z_iconst (v := 0) dX2_beginAt_0 (by decide) rfl ?_
  refine z_ist4 dX2_beginAt_1 (Nat.le_of_ble_eq_true rfl) rfl ?_
  have h16 : pN P ≤ 16 := hW.2.1
  have loop : ∀ (t k : Nat), k + t = pN P → ∀ (N : Mem) (u : Option Value), Eqx (Sx r) M N → CR P N r (bgTo P od h e s k) e → Zz (zx l E mX2_beginAt 1 (RP none (fun N => Eqx (Sx r) M N ∧ CR P N r (bgTo P od h e s (pN P)) e))) 0 0 3 [some (.ref 2), some (.int (nI h)), some (.ref (r + 33)), some (.ref oc), some (.int (nI k)), u] [] N := by
    intro t
    induction t with
    | zero =>
      intro k hk N u hE hC
      have ek : k = pN P := by omega
      subst ek
      have hWN := hW.keep hr hE
      refine z_iload dX2_beginAt_3 rfl rfl ?_
      refine z_aload_n dX2_beginAt_5 rfl rfl ?_
      refine z_gi2 (j := 3) dX2_beginAt_6 (by decide) fl_X2_27 rfl rfl rfl ?_
      refine z_icmp_ge (tgt := 125) dX2_beginAt_9 (by decide) rfl (fun hc => ?_) (fun hc => ?_)
      · exact z_return dX2_beginAt_125 rfl ⟨rfl, hE, hC⟩ (Nat.le_of_ble_eq_true rfl) (Nat.le_of_ble_eq_true rfl)
      · exact absurd (by rw [hWN.1]; exact nI_le (Nat.le_refl _) (by omega)) hc
    | succ t ih =>
      intro k hk N u hE hC
      have hWN := hW.keep hr hE
      have hw : od k < pN P := (hod k (by omega)).2
      have eo : N oc k = nI (od k) := by rw [hE oc k (by unfold Sx; omega)]; exact (hod k (by omega)).1
      have bgs : bgTo P od h e s (k + 1) = if bgTo P od h e s k (od k) = none ∧ may P (bgTo P od h e s k) e (od k) = true then sup (bgTo P od h e s k) (od k) h else bgTo P od h e s k := rfl
      generalize bgTo P od h e s k = sk at hC bgs
      have gon : ∀ (N2 : Mem), Eqx (Sx r) M N2 → CR P N2 r (bgTo P od h e s (k + 1)) e → Zz (zx l E mX2_beginAt 1 (RP none (fun N => Eqx (Sx r) M N ∧ CR P N r (bgTo P od h e s (pN P)) e))) 0 0 119 [some (.ref 2), some (.int (nI h)), some (.ref (r + 33)), some (.ref oc), some (.int (nI k)), some (.int (nI (od k)))] [] N2 := fun N2 a b => by
        first | refine z_iu4 dX2_beginAt_119 (Nat.le_of_ble_eq_true rfl) rfl ?_ | refine z_inc4 dX2_beginAt_119 (Nat.le_of_ble_eq_true rfl) rfl rfl ?_
        refine z_goto (tgt := 3) dX2_beginAt_122 (by decide) ?_
        exact ih (k + 1) (by omega) N2 _ a b
      have tst : (N 2 7 &&& ((1 : Int32) <<< (nI (od k) &&& 31)) = 0) ↔ sk (od k) = none := by
        rw [b_eq0]
        constructor
        · intro q
          have := q (od k) (by omega)
          rw [b_and, hC.1 _ (by omega), b_one _ (by omega) _ (by omega)] at this
          simpa [hw] using this
        · intro q i hi
          rw [b_and, hC.1 i hi, b_one _ (by omega) i hi]
          by_cases hiw : i = od k
          · subst hiw; simp [q]
          · simp [hiw]
      refine z_iload dX2_beginAt_3 rfl rfl ?_
      refine z_aload_n dX2_beginAt_5 rfl rfl ?_
      refine z_gi2 (j := 3) dX2_beginAt_6 (by decide) fl_X2_27 rfl rfl rfl ?_
      refine z_icmp_ge (tgt := 125) dX2_beginAt_9 (by decide) rfl (fun hc => ?_) (fun hc => ?_)
      · exact absurd hc (by rw [hWN.1]; exact nI_ge (by omega) (by omega))
      · refine z_aload_n dX2_beginAt_12 rfl rfl ?_
        refine z_iload dX2_beginAt_13 rfl rfl ?_
        refine z_iald dX2_beginAt_15 hoc rfl (by omega) hl31 rfl ?_
        refine z_tp (b := (nI (od k))) eo ?_
        refine z_ist5 dX2_beginAt_16 (Nat.le_of_ble_eq_true rfl) rfl ?_
        refine z_aload_n dX2_beginAt_18 rfl rfl ?_
        refine z_gi2 (j := 7) dX2_beginAt_19 (by decide) fl_X2_68 rfl rfl rfl ?_
        refine z_iconst (v := 1) dX2_beginAt_22 (by decide) rfl ?_
        refine z_iload dX2_beginAt_23 rfl rfl ?_
        refine z_ishl dX2_beginAt_25 rfl ?_
        refine z_iand dX2_beginAt_26 rfl ?_
        refine z_if_ne (tgt := 119) dX2_beginAt_27 (by decide) rfl (fun h1 => ?_) (fun h1 => ?_)
        · refine gon N hE ?_
          rw [bgs, if_neg (fun q => h1 (tst.mpr q.1))]; exact hC
        · have hsn := tst.mp h1
          refine z_aload_n dX2_beginAt_30 rfl rfl ?_
          refine z_aload_n dX2_beginAt_31 rfl rfl ?_
          refine z_gr2 (j := 0) dX2_beginAt_32 (by decide) fl_X2_11 rfl rfl rfl ?_
          refine z_iload dX2_beginAt_35 rfl rfl ?_
          refine z_aldW dX2_beginAt_37 rfl rfl (by omega) (by decide) rfl ?_
          refine z_cv1 (ci := 2) (nf := 11) (y := mX2_canBegin) dX2_beginAt_38 ml_X2_95 iv_X2_canBegin (Nat.le_of_ble_eq_true rfl) rfl (by decide) rfl (Nat.le_of_ble_eq_true rfl) (Nat.le_of_ble_eq_true rfl) (Nat.le_of_ble_eq_true rfl) (c_X2_canBegin hst N P r (od k) sk e hWN hC hw) rfl ?_
          cases hm : may P sk e (od k) with
          | false =>
            refine z_if_eq (tgt := 119) dX2_beginAt_41 (by decide) rfl (fun h2 => ?_) (fun h2 => ?_)
            · refine gon N hE ?_
              rw [bgs, if_neg (fun q => by rw [hm] at q; cases q.2)]; exact hC
            · exact absurd rfl h2
          | true =>
            refine z_if_eq (tgt := 119) dX2_beginAt_41 (by decide) rfl (fun h2 => ?_) (fun h2 => ?_)
            · exact absurd h2 (by decide)
            · refine z_aload_n dX2_beginAt_44 rfl rfl ?_
              refine z_dup dX2_beginAt_45 rfl rfl ?_
              refine z_gi2 (j := 7) dX2_beginAt_46 (by decide) fl_X2_68 rfl rfl rfl ?_
              refine z_iconst (v := 1) dX2_beginAt_49 (by decide) rfl ?_
              refine z_iload dX2_beginAt_50 rfl rfl ?_
              refine z_ishl dX2_beginAt_52 rfl ?_
              refine z_ior dX2_beginAt_53 rfl ?_
              refine z_pi2 (j := 7) dX2_beginAt_54 (by decide) fl_X2_68 rfl rfl rfl rfl rfl ?_
              refine z_aload_n dX2_beginAt_57 rfl rfl ?_
              refine z_dup dX2_beginAt_58 rfl rfl ?_
              refine z_gi2 (j := 9) dX2_beginAt_59 (by decide) fl_X2_74 rfl rfl rfl ?_
              refine z_aload_n dX2_beginAt_62 rfl rfl ?_
              refine z_gr2 (j := 0) dX2_beginAt_63 (by decide) fl_X2_11 rfl rfl rfl ?_
              refine z_iload dX2_beginAt_66 rfl rfl ?_
              refine z_aldW dX2_beginAt_68 rfl rfl (by omega) (by decide) rfl ?_
              refine z_gi4 (j := 6) dX2_beginAt_69 (by decide) fl_X2_99 (by first | assumption | rfl | exact knd_w (by omega)) rfl rfl ?_
              refine z_ior dX2_beginAt_72 rfl ?_
              refine z_pi2 (j := 9) dX2_beginAt_73 (by decide) fl_X2_74 rfl rfl rfl rfl rfl ?_
              refine z_aload_n dX2_beginAt_76 rfl rfl ?_
              refine z_dup dX2_beginAt_77 rfl rfl ?_
              refine z_gi2 (j := 10) dX2_beginAt_78 (by decide) fl_X2_77 rfl rfl rfl ?_
              refine z_aload_n dX2_beginAt_81 rfl rfl ?_
              refine z_gr2 (j := 0) dX2_beginAt_82 (by decide) fl_X2_11 rfl rfl rfl ?_
              refine z_iload dX2_beginAt_85 rfl rfl ?_
              refine z_aldW dX2_beginAt_87 rfl rfl (by omega) (by decide) rfl ?_
              refine z_gi4 (j := 3) dX2_beginAt_88 (by decide) fl_X2_102 (by first | assumption | rfl | exact knd_w (by omega)) rfl rfl ?_
              refine z_isub dX2_beginAt_91 rfl ?_
              refine z_pi2 (j := 10) dX2_beginAt_92 (by decide) fl_X2_77 rfl rfl rfl rfl rfl ?_
              refine z_aload_n dX2_beginAt_95 rfl rfl ?_
              refine z_rowS dX2_beginAt_96 fl_X2_59 (by omega) rfl ?_
              refine z_iload dX2_beginAt_99 rfl rfl ?_
              refine z_iload_n dX2_beginAt_101 rfl rfl ?_
              refine z_iast dX2_beginAt_102 (by first | rfl | exact knd_h (by omega) | exact knd_s (by omega)) rfl (by omega) (by decide) rfl ?_
              refine z_aload_n dX2_beginAt_103 rfl rfl ?_
              refine z_gr2 (j := 6) dX2_beginAt_104 (by decide) fl_X2_37 rfl rfl rfl ?_
              refine z_iload dX2_beginAt_107 rfl rfl ?_
              refine z_iload_n dX2_beginAt_109 rfl rfl ?_
              refine z_aload_n dX2_beginAt_110 rfl rfl ?_
              refine z_rowH dX2_beginAt_111 fl_X2_46 (by omega) rfl ?_
              refine z_iload dX2_beginAt_114 rfl rfl ?_
              refine z_iald dX2_beginAt_116 (by first | rfl | exact knd_h (by omega) | exact knd_s (by omega)) rfl (by omega) (by decide) rfl ?_
              refine z_iadd dX2_beginAt_117 rfl ?_
              refine z_iast dX2_beginAt_118 (by first | rfl | exact knd_h (by omega) | exact knd_s (by omega)) rfl (by omega) (by decide) rfl ?_
              obtain ⟨g1, g2, g3, g4, g5, g6, g7, g8⟩ := hWN.2.2.2.2 (od k) hw
              have n1 : ¬ (2 = r + 77) := by omega
              have n2 : ¬ (11 = r + 77) := by omega
              have n3 : ¬ (r + 77 = 2) := by omega
              have n4 : ¬ (r + 77 = 11) := by omega
              have n5 : ¬ (od k + 17 = 2) := by omega
              have n6 : ¬ (r + 55 = 2) := by omega
              have n7 : ¬ (r + 55 = r + 77) := by omega
              refine gon _ ?_ ?_
              · exact (((((hE.mu (by unfold Sx; omega)).mu (by unfold Sx; omega)).mu (by unfold Sx; omega)).mu (by unfold Sx; omega)).mu (by unfold Sx; omega))
              · rw [bgs, if_pos ⟨hsn, hm⟩]
                refine CR_begin (h := h) h16 (fun w hw => (hWN.2.2.2.2 w hw).2.2.2.1) hC hw hsn hm ?_ ?_ ?_ ?_ (fun v => ?_) (fun v => ?_)
                · simp only [mu_at, n1, n2, n3, n4, n5, n6, n7, if_true, if_false]; rfl
                · simp only [mu_at, n1, n2, n3, n4, n5, n6, n7, if_true, if_false]; rfl
                · simp only [mu_at, n1, n2, n3, n4, n5, n6, n7, if_true, if_false, ← g3]; rfl
                · simp only [mu_at, n1, n2, n3, n4, n5, n6, n7, if_true, if_false, ← g1]; rfl
                · simp only [mu_at, n1, n2, n3, n4, n5, n6, n7, if_true, if_false]
                · simp only [mu_at, n1, n2, n3, n4, n5, n6, n7, if_true, if_false, g6, nI_add]; rfl
  exact loop (pN P) 0 (by omega) M none Eqx.rf hC
