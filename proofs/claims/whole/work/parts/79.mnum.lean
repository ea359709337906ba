/-! numbers and signs, the reference's side -/
def S456 (a b : Nat) : Prop := a = 99 ∧ (b = 4 ∨ b = 5 ∨ b = 6)
theorem S456_w {wn a b : Nat} (h : S456 a b) : Sw5 wn a b := Or.inl h
/-- a fault stands -/
def FL (n k p : Nat) (N : Mem) : Prop := N 99 5 = nI k ∧ N 99 6 = nI p ∧ ∃ a, N 99 4 = nI a ∧ a ≤ n
def RmN (n : Nat) (o : (Nat × Nat) ⊕ (Nat × Nat)) (M : Mem) : Option Value ⊕ String → Mem → Prop := fun r N => (∃ k p v, o = .inl (k, p) ∧ r = .inl (some (.int v)) ∧ Eqx S456 M N ∧ FL n k p N) ∨ (∃ e V, o = .inr (e, V) ∧ r = .inl (some (.int (nI V))) ∧ N = mu M 99 4 (nI e))
theorem RmN_nx {n : Nat} {o : (Nat × Nat) ⊕ (Nat × Nat)} {M : Mem} : ∀ C N, ¬ RmN n o M (.inr C) N := fun C N h => by
  rcases h with ⟨k, p, v, h1, h2, h3⟩ | ⟨e, V, h1, h2, h3⟩ <;> cases h2
def RmS (n : Nat) (o : (Nat × Nat) ⊕ Nat) (M : Mem) : Mem → Prop := fun N => (∃ k p, o = .inl (k, p) ∧ Eqx S456 M N ∧ FL n k p N) ∨ (∃ e, o = .inr e ∧ N = mu M 99 4 (nI e))
set_option maxHeartbeats 4000000 in
theorem c_X7_number1 {l : Launch} {E : EnT} (hst : l.stackTraces = false) (M : Mem) (x y : Int32) (f : Nat) (h : M 99 5 = nI f) (hf : 0 < f) (hf3 : f ≤ 3) : Mm l E mX7_number 2 0 0 [.ref 99, .int x, .int y] M (Rt (some (.int 0)) M) := by
  refine Mm_go hst (by decide) rfl (Nat.le_of_ble_eq_true rfl) [some (.ref 99), some (.int x), some (.int y), none, none] rfl ?_
  refine z_aload_n dX7_number_0 rfl rfl ?_
  refine z_gi7 (j := 5) dX7_number_1 (by decide) fl_X7_95 rfl rfl rfl ?_
  refine z_if_le (tgt := 9) dX7_number_4 (by decide) rfl (fun g => ?_) (fun g => ?_)
  · rw [h] at g
    exact absurd (le_nn (b := 0) g (by omega) (by decide)) (by omega)
  · refine z_iconst (v := 0) dX7_number_7 (by decide) rfl ?_
    exact z_ireturn dX7_number_8 rfl ⟨rfl, rfl⟩ (Nat.le_of_ble_eq_true rfl) (Nat.le_of_ble_eq_true rfl)
set_option maxHeartbeats 4000000 in
theorem c_X7_sign1 {l : Launch} {E : EnT} (hst : l.stackTraces = false) (M : Mem) (x : Int32) (f : Nat) (h : M 99 5 = nI f) (hf : 0 < f) (hf3 : f ≤ 3) : Mm l E mX7_sign 2 0 0 [.ref 99, .int x] M (Rt none M) := by
  refine Mm_go hst (by decide) rfl (Nat.le_of_ble_eq_true rfl) [some (.ref 99), some (.int x)] rfl ?_
  refine z_aload_n dX7_sign_0 rfl rfl ?_
  refine z_gi7 (j := 5) dX7_sign_1 (by decide) fl_X7_95 rfl rfl rfl ?_
  refine z_if_le (tgt := 8) dX7_sign_4 (by decide) rfl (fun g => ?_) (fun g => ?_)
  · rw [h] at g
    exact absurd (le_nn (b := 0) g (by omega) (by decide)) (by omega)
  · exact z_return dX7_sign_7 rfl ⟨rfl, rfl⟩ (Nat.le_of_ble_eq_true rfl) (Nat.le_of_ble_eq_true rfl)
set_option maxHeartbeats 8000000 in
theorem c_X7_sign0 {l : Launch} {E : EnT} (hst : l.stackTraces = false) (M : Mem) (b : Nat → Nat) (n a c : Nat) (hT : TM b n M) (ha : M 99 4 = nI a) (han : a ≤ n) (hc : c < 256) (hf : M 99 5 = 0) : Mm l E mX7_sign 2 0 0 [.ref 99, .int (nI c)] M (RP none (RmS n (sgnS b n a c) M)) := by
  have h200 := hT.2.1
  refine Mm_go hst (by decide) rfl (Nat.le_of_ble_eq_true rfl) [some (.ref 99), some (.int (nI c))] rfl ?_
  refine z_aload_n dX7_sign_0 rfl rfl ?_
  refine z_gi7 (j := 5) dX7_sign_1 (by decide) fl_X7_95 rfl rfl rfl ?_
  refine z_if_le (tgt := 8) dX7_sign_4 (by decide) rfl (fun g => ?_) (fun g => ?_)
  · refine z_aload_n dX7_sign_8 rfl rfl ?_
    refine z_cn0 (ci := 7) (nf := 32) (y := mX7_blanks) dX7_sign_9 ml_X7_98 iv_X7_blanks (Nat.le_of_ble_eq_true rfl) rfl (by decide) rfl (Nat.le_of_ble_eq_true rfl) (Nat.le_of_ble_eq_true rfl) (Nat.le_of_ble_eq_true rfl) (c_X7_blanks hst M b n a hT ha han) rfl ?_
    have hr := run_le (p := isBl b) a han
    have hTN : TM b n (mu M 99 4 (nI (run (isBl b) n a))) := hT.keep (wn := 0) (Eqx.rf.mu (by unfold Sw5; omega))
    have n5 : mu M 99 4 (nI (run (isBl b) n a)) 99 4 = nI (run (isBl b) n a) := rfl
    have hE : Eqx S456 M (mu M 99 4 (nI (run (isBl b) n a))) := Eqx.rf.mu (by unfold S456; omega)
    have hf2 : mu M 99 4 (nI (run (isBl b) n a)) 99 5 = 0 := hf
    unfold sgnS
    generalize hN : mu M 99 4 (nI (run (isBl b) n a)) = N at hTN n5 hE hf2 ⊢
    generalize run (isBl b) n a = s at hr n5 hN ⊢
    generalize hQ : RP none (RmS n (if s < n ∧ b s = c then .inr (s + 1) else .inl (1, s)) M) = Q
    have no : ¬ (s < n ∧ b s = c) → Zz (zx l E mX7_sign 2 Q) 0 0 48 [some (.ref 99), some (.int (nI c))] [] N := fun q => by
      refine z_aload_n dX7_sign_48 rfl rfl ?_
      refine z_iconst (v := 1) dX7_sign_49 (by decide) rfl ?_
      refine z_aload_n dX7_sign_50 rfl rfl ?_
      refine z_gi7 (j := 4) dX7_sign_51 (by decide) fl_X7_88 rfl rfl rfl ?_
      refine z_tp (b := (nI s)) n5 ?_
      refine z_cn2 (ci := 7) (nf := 32) (y := mX7_wrong) dX7_sign_54 ml_X7_136 iv_X7_wrong (Nat.le_of_ble_eq_true rfl) rfl (by decide) rfl (Nat.le_of_ble_eq_true rfl) (Nat.le_of_ble_eq_true rfl) (Nat.le_of_ble_eq_true rfl) (c_X7_wrong0 hst N 1 (nI s) hf2) rfl ?_
      rw [← hQ]
      exact z_return dX7_sign_57 rfl ⟨rfl, Or.inl ⟨1, s, if_neg q, (hE.mu (by unfold S456; omega)).mu (by unfold S456; omega), rfl, rfl, s, n5, hr⟩⟩ (Nat.le_of_ble_eq_true rfl) (Nat.le_of_ble_eq_true rfl)
    refine z_aload_n dX7_sign_12 rfl rfl ?_
    refine z_gi7 (j := 4) dX7_sign_13 (by decide) fl_X7_88 rfl rfl rfl ?_
    refine z_aload_n dX7_sign_16 rfl rfl ?_
    refine z_gi7 (j := 3) dX7_sign_17 (by decide) fl_X7_85 rfl rfl rfl ?_
    refine z_icmp_ge (tgt := 48) dX7_sign_20 (by decide) rfl (fun g1 => ?_) (fun g1 => ?_)
    · rw [hTN.1, n5] at g1
      have := le_nn g1 (by omega) (by omega)
      exact no (fun q => by omega)
    · rw [hTN.1, n5] at g1
      have hlt := nle_nn g1 (by omega) (by omega)
      have hb := (hTN.2.2 s hlt).2
      refine z_aload_n dX7_sign_23 rfl rfl ?_
      refine z_aload_n dX7_sign_24 rfl rfl ?_
      refine z_gi7 (j := 4) dX7_sign_25 (by decide) fl_X7_88 rfl rfl rfl ?_
      refine z_tp (b := (nI s)) n5 ?_
      refine z_cv1 (ci := 7) (nf := 32) (y := mX7_byteAt) dX7_sign_28 ml_X7_91 iv_X7_byteAt (Nat.le_of_ble_eq_true rfl) rfl (by decide) rfl (Nat.le_of_ble_eq_true rfl) (Nat.le_of_ble_eq_true rfl) (Nat.le_of_ble_eq_true rfl) (c_X7_byteAt hst N b n s hTN (by omega)) rfl ?_
      rw [show bA b n s = b s from if_pos hlt]
      refine z_iload_n dX7_sign_31 rfl rfl ?_
      refine z_icmp_ne (tgt := 48) dX7_sign_32 (by decide) rfl (fun g2 => ?_) (fun g2 => ?_)
      · exact no (fun q => g2 (by rw [q.2]))
      · have q : b s = c := (nI_eq (by omega) (by omega)).mp g2
        rw [← hQ]
        refine z_aload_n dX7_sign_35 rfl rfl ?_
        refine z_dup dX7_sign_36 rfl rfl ?_
        refine z_gi7 (j := 4) dX7_sign_37 (by decide) fl_X7_88 rfl rfl rfl ?_
        refine z_iconst (v := 1) dX7_sign_40 (by decide) rfl ?_
        refine z_iadd dX7_sign_41 rfl ?_
        refine z_pi7 (j := 4) dX7_sign_42 (by decide) fl_X7_88 rfl rfl rfl rfl rfl ?_
        refine z_goto (tgt := 57) dX7_sign_45 (by decide) ?_
        exact z_return dX7_sign_57 rfl ⟨rfl, Or.inr ⟨s + 1, if_pos ⟨hlt, q⟩, by rw [n5, ← hN, mu_mu, nI_1]⟩⟩ (Nat.le_of_ble_eq_true rfl) (Nat.le_of_ble_eq_true rfl)
  · exact absurd (by rw [hf]; decide) g
set_option maxHeartbeats 8000000 in
theorem c_X7_number0 {l : Launch} {E : EnT} (hst : l.stackTraces = false) (M : Mem) (b : Nat → Nat) (n a lo h1 : Nat) (x : Int32) (hT : TM b n M) (ha : M 99 4 = nI a) (han : a ≤ n) (hlo : lo ≤ 100) (hh1 : h1 ≤ 100) (hf : M 99 5 = 0) (hx : ∀ V, V ≤ 200000 → (nI V ≤ x ↔ V < h1)) : Mm l E mX7_number 2 0 0 [.ref 99, .int (nI lo), .int x] M (RmN n (numS b n a lo h1) M) := by
  have h200 := hT.2.1
  refine Mm_go hst (by decide) rfl (Nat.le_of_ble_eq_true rfl) [some (.ref 99), some (.int (nI lo)), some (.int x), none, none] rfl ?_
  refine z_aload_n dX7_number_0 rfl rfl ?_
  refine z_gi7 (j := 5) dX7_number_1 (by decide) fl_X7_95 rfl rfl rfl ?_
  refine z_if_le (tgt := 9) dX7_number_4 (by decide) rfl (fun g => ?_) (fun g => ?_)
  · refine z_aload_n dX7_number_9 rfl rfl ?_
    refine z_cn0 (ci := 7) (nf := 32) (y := mX7_blanks) dX7_number_10 ml_X7_98 iv_X7_blanks (Nat.le_of_ble_eq_true rfl) rfl (by decide) rfl (Nat.le_of_ble_eq_true rfl) (Nat.le_of_ble_eq_true rfl) (Nat.le_of_ble_eq_true rfl) (c_X7_blanks hst M b n a hT ha han) rfl ?_
    have hr := run_le (p := isBl b) a han
    unfold numS
    generalize run (isBl b) n a = s at hr ⊢
    have key0 : ∀ y, mu M 99 4 (nI y) 99 4 = nI y := fun y => rfl
    have hTy : ∀ y, TM b n (mu M 99 4 (nI y)) := fun y => hT.keep (wn := 0) (Eqx.rf.mu (by unfold Sw5; omega))
    have hEy : ∀ y, Eqx S456 M (mu M 99 4 (nI y)) := fun y => Eqx.rf.mu (by unfold S456; omega)
    generalize hQ : RmN n (if run (isDg b) n s = s then .inl (1, s) else if lo ≤ vaN b s (run (isDg b) n s - s) ∧ vaN b s (run (isDg b) n s - s) < h1 then .inr (run (isDg b) n s, vaN b s (run (isDg b) n s - s)) else .inl (2, s)) M = Q
    refine z_aload_n dX7_number_13 rfl rfl ?_
    refine z_gi7 (j := 4) dX7_number_14 (by decide) fl_X7_88 rfl rfl rfl ?_
    refine z_tp (b := (nI s)) (key0 s) ?_
    refine z_ist3 dX7_number_17 (Nat.le_of_ble_eq_true rfl) rfl ?_
    refine z_aload_n dX7_number_18 rfl rfl ?_
    refine z_aload_n dX7_number_19 rfl rfl ?_
    refine z_gi7 (j := 4) dX7_number_20 (by decide) fl_X7_88 rfl rfl rfl ?_
    refine z_tp (b := (nI s)) (key0 s) ?_
    refine z_cv1 (ci := 7) (nf := 32) (y := mX7_byteAt) dX7_number_23 ml_X7_91 iv_X7_byteAt (Nat.le_of_ble_eq_true rfl) rfl (by decide) rfl (Nat.le_of_ble_eq_true rfl) (Nat.le_of_ble_eq_true rfl) (Nat.le_of_ble_eq_true rfl) (c_X7_byteAt hst _ b n s (hTy s) (by omega)) rfl ?_
    refine z_sv1 (y := mX7_isDigit) dX7_number_26 ml_X7_132 iv_X7_isDigit (Nat.le_of_ble_eq_true rfl) (Nat.le_of_ble_eq_true rfl) (Nat.le_of_ble_eq_true rfl) (Nat.le_of_ble_eq_true rfl) (c_X7_isDigit hst _ (bA b n s) (bA_lt (hTy s))) rfl ?_
    rw [dg_bA]
    by_cases cd : s < n ∧ isDg b s = true
    · rw [decide_eq_true cd.1, cd.2]
      have hne : run (isDg b) n s ≠ s := by
        have := run_ge (p := isDg b) (n := n) (s + 1)
        rw [run_go cd.1 cd.2]; omega
      have hle := run_le (p := isDg b) s hr
      rw [if_neg hne] at hQ
      refine z_if_ne (tgt := 43) dX7_number_29 (by decide) rfl (fun g1 => ?_) (fun g1 => ?_)
      · refine z_iconst (v := 0) dX7_number_43 (by decide) rfl ?_
        refine z_ist4 dX7_number_44 (Nat.le_of_ble_eq_true rfl) rfl ?_
        have fin : ∀ (v : Nat), v ≤ 100009 → (vaN b s (run (isDg b) n s - s) ≤ 10000 → v = vaN b s (run (isDg b) n s - s)) → (10000 < vaN b s (run (isDg b) n s - s) → 10000 < v) → Zz (zx l E mX7_number 2 Q) 0 0 105 [some (.ref 99), some (.int (nI lo)), some (.int x), some (.int (nI s)), some (.int (nI v))] [] (mu M 99 4 (nI (run (isDg b) n s))) := by
          intro v hv v1 v2
          generalize run (isDg b) n s = e at hQ v1 v2 hle
          generalize vaN b s (e - s) = V at hQ v1 v2
          have bad : ¬ (lo ≤ V ∧ V < h1) → Zz (zx l E mX7_number 2 Q) 0 0 117 [some (.ref 99), some (.int (nI lo)), some (.int x), some (.int (nI s)), some (.int (nI v))] [] (mu M 99 4 (nI e)) := fun q => by
            refine z_aload_n dX7_number_117 rfl rfl ?_
            refine z_iconst (v := 2) dX7_number_118 (by decide) rfl ?_
            refine z_iload_n dX7_number_119 rfl rfl ?_
            refine z_cn2 (ci := 7) (nf := 32) (y := mX7_wrong) dX7_number_120 ml_X7_136 iv_X7_wrong (Nat.le_of_ble_eq_true rfl) rfl (by decide) rfl (Nat.le_of_ble_eq_true rfl) (Nat.le_of_ble_eq_true rfl) (Nat.le_of_ble_eq_true rfl) (c_X7_wrong0 hst (mu M 99 4 (nI e)) 2 (nI s) hf) rfl ?_
            rw [← hQ]
            refine z_iload dX7_number_123 rfl rfl ?_
            exact z_ireturn dX7_number_125 rfl (Or.inl ⟨2, s, nI v, if_neg q, rfl, ((hEy e).mu (by unfold S456; omega)).mu (by unfold S456; omega), rfl, rfl, e, rfl, hle⟩) (Nat.le_of_ble_eq_true rfl) (Nat.le_of_ble_eq_true rfl)
          refine z_iload dX7_number_105 rfl rfl ?_
          refine z_iload_n dX7_number_107 rfl rfl ?_
          refine z_icmp_lt (tgt := 117) dX7_number_108 (by decide) rfl (fun g2 => ?_) (fun g2 => ?_)
          · have := lt_nn g2 (by omega) (by omega)
            exact bad (fun q => by have := v1 (by omega); omega)
          · have q1 := nlt_nn g2 (by omega) (by omega)
            refine z_iload dX7_number_111 rfl rfl ?_
            refine z_iload_n dX7_number_113 rfl rfl ?_
            refine z_icmp_le (tgt := 123) dX7_number_114 (by decide) rfl (fun g3 => ?_) (fun g3 => ?_)
            · have q2 := (hx v (by omega)).mp g3
              have hV : V ≤ 10000 := Nat.le_of_not_lt fun q => by have := v2 q; omega
              have := v1 hV
              subst this
              rw [← hQ]
              refine z_iload dX7_number_123 rfl rfl ?_
              exact z_ireturn dX7_number_125 rfl (Or.inr ⟨e, v, if_pos ⟨q1, q2⟩, rfl, rfl⟩) (Nat.le_of_ble_eq_true rfl) (Nat.le_of_ble_eq_true rfl)
            · have q2 : ¬ v < h1 := fun q => g3 ((hx v (by omega)).mpr q)
              exact bad (fun q => by have := v1 (by omega); omega)
        have key : ∀ y, ∀ (v : Nat) (N : Mem), N = mu M 99 4 (nI y) → s ≤ y → y ≤ n → v ≤ 100009 → (vaN b s (y - s) ≤ 10000 → v = vaN b s (y - s)) → (10000 < vaN b s (y - s) → 10000 < v) → run (isDg b) n y = run (isDg b) n s → Zz (zx l E mX7_number 2 Q) 0 0 46 [some (.ref 99), some (.int (nI lo)), some (.int x), some (.int (nI s)), some (.int (nI v))] [] N := by
          refine run_ind (p := isDg b) (n := n) ?_ ?_
          · intro y hy v N hN hsy hyn hv v1 v2 hrr
            rw [run_stop hy] at hrr
            subst hN
            subst hrr
            refine z_aload_n dX7_number_46 rfl rfl ?_
            refine z_aload_n dX7_number_47 rfl rfl ?_
            refine z_gi7 (j := 4) dX7_number_48 (by decide) fl_X7_88 rfl rfl rfl ?_
            refine z_tp (b := (nI (run (isDg b) n s))) rfl ?_
            refine z_cv1 (ci := 7) (nf := 32) (y := mX7_byteAt) dX7_number_51 ml_X7_91 iv_X7_byteAt (Nat.le_of_ble_eq_true rfl) rfl (by decide) rfl (Nat.le_of_ble_eq_true rfl) (Nat.le_of_ble_eq_true rfl) (Nat.le_of_ble_eq_true rfl) (c_X7_byteAt hst _ b n (run (isDg b) n s) (hTy _) (by omega)) rfl ?_
            refine z_sv1 (y := mX7_isDigit) dX7_number_54 ml_X7_132 iv_X7_isDigit (Nat.le_of_ble_eq_true rfl) (Nat.le_of_ble_eq_true rfl) (Nat.le_of_ble_eq_true rfl) (Nat.le_of_ble_eq_true rfl) (c_X7_isDigit hst _ (bA b n (run (isDg b) n s)) (bA_lt (hTy 0))) rfl ?_
            rw [dg_bA]
            have hd : (decide (run (isDg b) n s < n) && isDg b (run (isDg b) n s)) = false := by
              cases q : isDg b (run (isDg b) n s)
              · rw [Bool.and_false]
              · rw [decide_eq_false (fun z => hy ⟨z, q⟩)]; rfl
            rw [hd]
            refine z_if_eq (tgt := 105) dX7_number_57 (by decide) rfl (fun g2 => ?_) (fun g2 => ?_)
            · exact fin v hv v1 v2
            · exact absurd rfl g2
          · intro y q1 q2 ih v N hN hsy hyn hv v1 v2 hrr
            rw [run_go q1 q2] at hrr
            have n5 : N 99 4 = nI y := by rw [hN]; rfl
            have hTN : TM b n N := by rw [hN]; exact hTy y
            obtain ⟨d1, d2⟩ : 48 ≤ b y ∧ b y ≤ 57 := of_decide_eq_true q2
            have eb : bA b n y = b y := if_pos q1
            have eV : vaN b s (y + 1 - s) = vaN b s (y - s) * 10 + (b y - 48) := by
              rw [show y + 1 - s = (y - s) + 1 by omega, vaN, show s + (y - s) = y by omega]
            have nxt : ∀ (w : Nat), w ≤ 100009 → (vaN b s (y + 1 - s) ≤ 10000 → w = vaN b s (y + 1 - s)) → (10000 < vaN b s (y + 1 - s) → 10000 < w) → Zz (zx l E mX7_number 2 Q) 0 0 90 [some (.ref 99), some (.int (nI lo)), some (.int x), some (.int (nI s)), some (.int (nI v))] [.int (nI w)] N := fun w w1 w2 w3 => by
              refine z_ist4 dX7_number_90 (Nat.le_of_ble_eq_true rfl) rfl ?_
              refine z_aload_n dX7_number_92 rfl rfl ?_
              refine z_dup dX7_number_93 rfl rfl ?_
              refine z_gi7 (j := 4) dX7_number_94 (by decide) fl_X7_88 rfl rfl rfl ?_
              refine z_iconst (v := 1) dX7_number_97 (by decide) rfl ?_
              refine z_iadd dX7_number_98 rfl ?_
              refine z_pi7 (j := 4) dX7_number_99 (by decide) fl_X7_88 rfl rfl rfl rfl rfl ?_
              refine z_goto (tgt := 46) dX7_number_102 (by decide) ?_
              exact ih w _ (by rw [n5, hN, mu_mu, nI_1]) (by omega) (by omega) w1 w2 w3 hrr
            refine z_aload_n dX7_number_46 rfl rfl ?_
            refine z_aload_n dX7_number_47 rfl rfl ?_
            refine z_gi7 (j := 4) dX7_number_48 (by decide) fl_X7_88 rfl rfl rfl ?_
            refine z_tp (b := (nI y)) n5 ?_
            refine z_cv1 (ci := 7) (nf := 32) (y := mX7_byteAt) dX7_number_51 ml_X7_91 iv_X7_byteAt (Nat.le_of_ble_eq_true rfl) rfl (by decide) rfl (Nat.le_of_ble_eq_true rfl) (Nat.le_of_ble_eq_true rfl) (Nat.le_of_ble_eq_true rfl) (c_X7_byteAt hst N b n y hTN (by omega)) rfl ?_
            refine z_sv1 (y := mX7_isDigit) dX7_number_54 ml_X7_132 iv_X7_isDigit (Nat.le_of_ble_eq_true rfl) (Nat.le_of_ble_eq_true rfl) (Nat.le_of_ble_eq_true rfl) (Nat.le_of_ble_eq_true rfl) (c_X7_isDigit hst N (bA b n y) (bA_lt hTN)) rfl ?_
            rw [dg_bA, decide_eq_true q1, q2]
            refine z_if_eq (tgt := 105) dX7_number_57 (by decide) rfl (fun g2 => ?_) (fun g2 => ?_)
            · exact absurd g2 (by decide)
            · refine z_iload dX7_number_60 rfl rfl ?_
              refine z_sipush (v := 10000) dX7_number_62 (by decide) rfl ?_
              refine z_icmp_le (tgt := 73) dX7_number_65 (by decide) rfl (fun g3 => ?_) (fun g3 => ?_)
              · have hv2 := le_nn (b := 10000) g3 (by omega) (by decide)
                refine z_bipush (v := 10) dX7_number_73 (by decide) rfl ?_
                refine z_iload dX7_number_75 rfl rfl ?_
                refine z_imul dX7_number_77 rfl ?_
                refine z_aload_n dX7_number_78 rfl rfl ?_
                refine z_aload_n dX7_number_79 rfl rfl ?_
                refine z_gi7 (j := 4) dX7_number_80 (by decide) fl_X7_88 rfl rfl rfl ?_
                refine z_tp (b := (nI y)) n5 ?_
                refine z_cv1 (ci := 7) (nf := 32) (y := mX7_byteAt) dX7_number_83 ml_X7_91 iv_X7_byteAt (Nat.le_of_ble_eq_true rfl) rfl (by decide) rfl (Nat.le_of_ble_eq_true rfl) (Nat.le_of_ble_eq_true rfl) (Nat.le_of_ble_eq_true rfl) (c_X7_byteAt hst N b n y hTN (by omega)) rfl ?_
                rw [eb]
                refine z_iadd dX7_number_86 rfl ?_
                refine z_bipush (v := 48) dX7_number_87 (by decide) rfl ?_
                refine z_isub dX7_number_89 rfl ?_
                refine z_tp (b := (nI (v * 10 + (b y - 48)))) (by rw [show (10 : Int32) = nI 10 from rfl, show (48 : Int32) = nI 48 from rfl, pk_mul, nI_add, pk_sub (by omega)]; congr 1; omega) ?_
                have hVv : vaN b s (y - s) ≤ 10000 := Nat.le_of_not_lt fun q => by have := v2 q; omega
                have hvV := v1 hVv
                exact nxt (v * 10 + (b y - 48)) (by omega) (fun _ => by rw [eV, hvV]) (fun q => by rw [eV, ← hvV] at q; exact q)
              · have hv2 := nle_nn (b := 10000) g3 (by omega) (by decide)
                refine z_iload dX7_number_68 rfl rfl ?_
                refine z_goto (tgt := 90) dX7_number_70 (by decide) ?_
                have hVv : 10000 < vaN b s (y - s) := Nat.lt_of_not_le fun q => by have := v1 q; omega
                exact nxt v hv (fun q => by rw [eV] at q; omega) (fun _ => hv2)
        exact key s 0 _ rfl (Nat.le_refl s) hr (by decide) (fun _ => by rw [Nat.sub_self]; rfl) (fun q => by rw [Nat.sub_self] at q; exact absurd (show 10000 < 0 from q) (by decide)) rfl
      · exact absurd g1 (by decide)
    · have hd : (decide (s < n) && isDg b s) = false := by
        cases q : isDg b s
        · rw [Bool.and_false]
        · rw [decide_eq_false (fun z => cd ⟨z, q⟩)]; rfl
      rw [hd]
      refine z_if_ne (tgt := 43) dX7_number_29 (by decide) rfl (fun g1 => ?_) (fun g1 => ?_)
      · exact absurd rfl g1
      · refine z_aload_n dX7_number_32 rfl rfl ?_
        refine z_iconst (v := 1) dX7_number_33 (by decide) rfl ?_
        refine z_aload_n dX7_number_34 rfl rfl ?_
        refine z_gi7 (j := 4) dX7_number_35 (by decide) fl_X7_88 rfl rfl rfl ?_
        refine z_tp (b := (nI s)) rfl ?_
        refine z_cn2 (ci := 7) (nf := 32) (y := mX7_wrong) dX7_number_38 ml_X7_136 iv_X7_wrong (Nat.le_of_ble_eq_true rfl) rfl (by decide) rfl (Nat.le_of_ble_eq_true rfl) (Nat.le_of_ble_eq_true rfl) (Nat.le_of_ble_eq_true rfl) (c_X7_wrong0 hst _ 1 (nI s) hf) rfl ?_
        rw [← hQ]
        refine z_iconst (v := 0) dX7_number_41 (by decide) rfl ?_
        exact z_ireturn dX7_number_42 rfl (Or.inl ⟨1, s, 0, if_pos (run_stop cd), rfl, ((hEy s).mu (by unfold S456; omega)).mu (by unfold S456; omega), rfl, rfl, s, rfl, hr⟩) (Nat.le_of_ble_eq_true rfl) (Nat.le_of_ble_eq_true rfl)
  · exact absurd (by rw [hf]; decide) g
