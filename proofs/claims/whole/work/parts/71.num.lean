/-! signs and numbers, the class's side -/
def RdP {α : Type} (n : Nat) (o : (Nat × Nat) ⊕ α) (M : Mem) (Q : α → Mem → Prop) : Option Value ⊕ String → Mem → Prop := fun r N => (∃ k p, o = .inl (k, p) ∧ r = .inl (some (.int 0)) ∧ Eqx St5 M N ∧ N 1 9 = nI k ∧ N 1 2 = nI p ∧ ∃ a, N 1 5 = nI a ∧ a ≤ n) ∨ (∃ x, o = .inr x ∧ r = .inl (some (.int 1)) ∧ Q x N)
theorem RdP_nx {α : Type} {n : Nat} {o : (Nat × Nat) ⊕ α} {M : Mem} {Q : α → Mem → Prop} : ∀ C N, ¬ RdP n o M Q (.inr C) N := fun C N h => by
  rcases h with ⟨k, p, h1, h2, h3⟩ | ⟨x, h1, h2, h3⟩ <;> cases h2
set_option maxHeartbeats 4000000 in
theorem c_X3_readSign {l : Launch} {E : EnT} (hst : l.stackTraces = false) (M : Mem) (b : Nat → Nat) (n a c : Nat) (hT : TC b n M) (ha : M 1 5 = nI a) (han : a ≤ n) (hc : c < 256) : Mm l E mX3_readSign 1 0 0 [.ref 1, .int (nI c)] M (RdP n (sgnS b n a c) M (fun e N => N = mu M 1 5 (nI e))) := by
  refine Mm_go hst (by decide) rfl (Nat.le_of_ble_eq_true rfl) [some (.ref 1), some (.int (nI c))] rfl ?_
  refine z_aload_n dX3_readSign_0 rfl rfl ?_
  refine z_cn0 (ci := 3) (nf := 10) (y := mX3_skipBlanks) dX3_readSign_1 ml_X3_33 iv_X3_skipBlanks (Nat.le_of_ble_eq_true rfl) rfl (by decide) rfl (Nat.le_of_ble_eq_true rfl) (Nat.le_of_ble_eq_true rfl) (Nat.le_of_ble_eq_true rfl) (c_X3_skipBlanks hst M b n a hT ha han) rfl ?_
  have hr := run_le (p := isBl b) a han
  obtain ⟨t1, t2, t3⟩ := hT
  unfold sgnS
  generalize run (isBl b) n a = s at hr ⊢
  have no : ¬ (s < n ∧ b s = c) → Zz (zx l E mX3_readSign 1 (RdP n (if s < n ∧ b s = c then .inr (s + 1) else .inl (1, s)) M (fun e N => N = mu M 1 5 (nI e)))) 0 0 28 [some (.ref 1), some (.int (nI c))] [] (mu M 1 5 (nI s)) := fun q => by
    refine z_aload_n dX3_readSign_28 rfl rfl ?_
    refine z_iconst (v := 1) dX3_readSign_29 (by decide) rfl ?_
    refine z_aload_n dX3_readSign_30 rfl rfl ?_
    refine z_gi3 (j := 5) dX3_readSign_31 (by decide) fl_X3_39 rfl rfl rfl ?_
    refine z_cv2 (ci := 3) (nf := 10) (y := mX3_refuse) dX3_readSign_34 ml_X3_53 iv_X3_refuse (Nat.le_of_ble_eq_true rfl) rfl (by decide) rfl (Nat.le_of_ble_eq_true rfl) (Nat.le_of_ble_eq_true rfl) (Nat.le_of_ble_eq_true rfl) (c_X3_refuse hst (mu M 1 5 (nI s)) 1 (nI s)) rfl ?_
    exact z_zreturn dX3_readSign_37 rfl rfl (Or.inl ⟨1, s, if_neg q, rfl, ((Eqx.rf.mu (by unfold St5; omega)).mu (by unfold St5; omega)).mu (by unfold St5; omega), rfl, rfl, s, rfl, hr⟩) (Nat.le_of_ble_eq_true rfl) (Nat.le_of_ble_eq_true rfl)
  have n4 : mu M 1 5 (nI s) 1 4 = nI n := t1
  have n5 : mu M 1 5 (nI s) 1 5 = nI s := rfl
  refine z_aload_n dX3_readSign_4 rfl rfl ?_
  refine z_gi3 (j := 5) dX3_readSign_5 (by decide) fl_X3_39 rfl rfl rfl ?_
  refine z_aload_n dX3_readSign_8 rfl rfl ?_
  refine z_gi3 (j := 4) dX3_readSign_9 (by decide) fl_X3_36 rfl rfl rfl ?_
  refine z_icmp_ge (tgt := 28) dX3_readSign_12 (by decide) rfl (fun h1 => ?_) (fun h1 => ?_)
  · rw [n4, n5] at h1
    have := le_nn h1 (by omega) (by omega)
    exact no (fun q => by omega)
  · rw [n4, n5] at h1
    have hlt := nle_nn h1 (by omega) (by omega)
    obtain ⟨n7, n8⟩ := t3 s hlt
    refine z_aload_n dX3_readSign_15 rfl rfl ?_
    refine z_gr3 (j := 3) dX3_readSign_16 (by decide) fl_X3_25 rfl rfl rfl ?_
    refine z_aload_n dX3_readSign_19 rfl rfl ?_
    refine z_gi3 (j := 5) dX3_readSign_20 (by decide) fl_X3_39 rfl rfl rfl ?_
    refine z_iald dX3_readSign_23 (by first | rfl | exact knd_h (by omega) | exact knd_s (by omega)) n5 (by omega) (by decide) rfl ?_
    refine z_tp (b := (nI (b s))) n7 ?_
    refine z_iload_n dX3_readSign_24 rfl rfl ?_
    refine z_icmp_eq (tgt := 38) dX3_readSign_25 (by decide) rfl (fun h2 => ?_) (fun h2 => ?_)
    · have q : b s = c := (nI_eq (by omega) (by omega)).mp h2
      refine z_aload_n dX3_readSign_38 rfl rfl ?_
      refine z_dup dX3_readSign_39 rfl rfl ?_
      refine z_gi3 (j := 5) dX3_readSign_40 (by decide) fl_X3_39 rfl rfl rfl ?_
      refine z_iconst (v := 1) dX3_readSign_43 (by decide) rfl ?_
      refine z_iadd dX3_readSign_44 rfl ?_
      refine z_pi3 (j := 5) dX3_readSign_45 (by decide) fl_X3_39 rfl rfl rfl rfl rfl ?_
      refine z_iconst (v := 1) dX3_readSign_48 (by decide) rfl ?_
      exact z_zreturn dX3_readSign_49 rfl rfl (Or.inr ⟨s + 1, if_pos ⟨hlt, q⟩, rfl, by rw [n5, mu_mu, nI_1]⟩) (Nat.le_of_ble_eq_true rfl) (Nat.le_of_ble_eq_true rfl)
    · exact no (fun q => h2 (by rw [q.2]))
theorem min_i {z : Nat} (h : z < 2 ^ 31) : (if nI z < 1000 then nI z else 1000) = nI (min 1000 z) := by
  split
  · rename_i q; have := lt_nn (b := 1000) q h (by decide); congr 1; omega
  · rename_i q; have := nlt_nn (b := 1000) q h (by decide); rw [show min 1000 z = 1000 by omega]; rfl
theorem min_step {V d : Nat} (hd : d ≤ 9) : min 1000 (min 1000 V * 10 + d) = min 1000 (V * 10 + d) := by omega
set_option maxHeartbeats 8000000 in
theorem c_X3_readNumber {l : Launch} {E : EnT} (hst : l.stackTraces = false) (M : Mem) (b : Nat → Nat) (n a lo h1 : Nat) (x : Int32) (hT : TC b n M) (ha : M 1 5 = nI a) (han : a ≤ n) (hlo : lo ≤ 100) (hh1 : h1 ≤ 100) (hx : ∀ V, V ≤ 1000 → (nI V ≤ x ↔ V < h1)) : Mm l E mX3_readNumber 1 0 0 [.ref 1, .int (nI lo), .int x] M (RdP n (numS b n a lo h1) M (fun q N => Eqx (fun a b => a = 1 ∧ (b = 5 ∨ b = 6)) M N ∧ N 1 5 = nI q.1 ∧ N 1 6 = nI q.2)) := by
  have hn200 : n ≤ 200 := hT.2.1
  refine Mm_go hst (by decide) rfl (Nat.le_of_ble_eq_true rfl) [some (.ref 1), some (.int (nI lo)), some (.int x), none] rfl ?_
  refine z_aload_n dX3_readNumber_0 rfl rfl ?_
  refine z_cn0 (ci := 3) (nf := 10) (y := mX3_skipBlanks) dX3_readNumber_1 ml_X3_33 iv_X3_skipBlanks (Nat.le_of_ble_eq_true rfl) rfl (by decide) rfl (Nat.le_of_ble_eq_true rfl) (Nat.le_of_ble_eq_true rfl) (Nat.le_of_ble_eq_true rfl) (c_X3_skipBlanks hst M b n a hT ha han) rfl ?_
  have hr := run_le (p := isBl b) a han
  unfold numS
  generalize run (isBl b) n a = s at hr ⊢
  have hs5 : mu M 1 5 (nI s) 1 5 = nI s := rfl
  refine z_aload_n dX3_readNumber_4 rfl rfl ?_
  refine z_gi3 (j := 5) dX3_readNumber_5 (by decide) fl_X3_39 rfl rfl rfl ?_
  refine z_tp (b := (nI s)) hs5 ?_
  refine z_ist3 dX3_readNumber_8 (Nat.le_of_ble_eq_true rfl) rfl ?_
  refine z_aload_n dX3_readNumber_9 rfl rfl ?_
  refine z_iconst (v := 0) dX3_readNumber_10 (by decide) rfl ?_
  refine z_pi3 (j := 6) dX3_readNumber_11 (by decide) fl_X3_112 rfl rfl rfl rfl rfl ?_
  have hge := run_ge (p := isDg b) (n := n) s
  have hle := run_le (p := isDg b) s hr
  generalize hQ : RdP n (if run (isDg b) n s = s then .inl (1, s) else if lo ≤ vaN b s (run (isDg b) n s - s) ∧ vaN b s (run (isDg b) n s - s) < h1 then .inr (run (isDg b) n s, vaN b s (run (isDg b) n s - s)) else .inl (2, s)) M (fun q N => Eqx (fun a b => a = 1 ∧ (b = 5 ∨ b = 6)) M N ∧ N 1 5 = nI q.1 ∧ N 1 6 = nI q.2) = Q
  have fin : ∀ (N : Mem), Eqx (fun a b => a = 1 ∧ (b = 5 ∨ b = 6)) M N → N 1 5 = nI (run (isDg b) n s) → N 1 6 = nI (min 1000 (vaN b s (run (isDg b) n s - s))) → Zz (zx l E mX3_readNumber 1 Q) 0 0 75 [some (.ref 1), some (.int (nI lo)), some (.int x), some (.int (nI s))] [] N := by
    intro N hE n5 n6
    have hE5 : Eqx St5 M N := hE.mono (fun a b q => by unfold St5; omega)
    generalize run (isDg b) n s = e at hQ hge hle n5 n6
    have bad : (if e = s then .inl (1, s) else if lo ≤ vaN b s (e - s) ∧ vaN b s (e - s) < h1 then .inr (e, vaN b s (e - s)) else .inl (2, s) : (Nat × Nat) ⊕ (Nat × Nat)) = .inl (2, s) → Zz (zx l E mX3_readNumber 1 Q) 0 0 106 [some (.ref 1), some (.int (nI lo)), some (.int x), some (.int (nI s))] [] N := fun q => by
      refine z_aload_n dX3_readNumber_106 rfl rfl ?_
      refine z_iconst (v := 2) dX3_readNumber_107 (by decide) rfl ?_
      refine z_iload_n dX3_readNumber_108 rfl rfl ?_
      refine z_cv2 (ci := 3) (nf := 10) (y := mX3_refuse) dX3_readNumber_109 ml_X3_53 iv_X3_refuse (Nat.le_of_ble_eq_true rfl) rfl (by decide) rfl (Nat.le_of_ble_eq_true rfl) (Nat.le_of_ble_eq_true rfl) (Nat.le_of_ble_eq_true rfl) (c_X3_refuse hst N 2 (nI s)) rfl ?_
      refine z_if_eq (tgt := 119) dX3_readNumber_112 (by decide) rfl (fun g => ?_) (fun g => ?_)
      · rw [← hQ]
        refine z_iconst (v := 0) dX3_readNumber_119 (by decide) rfl ?_
        exact z_zreturn dX3_readNumber_120 rfl rfl (Or.inl ⟨2, s, q, rfl, (hE5.mu (by unfold St5; omega)).mu (by unfold St5; omega), rfl, rfl, e, n5, hle⟩) (Nat.le_of_ble_eq_true rfl) (Nat.le_of_ble_eq_true rfl)
      · exact absurd rfl g
    refine z_aload_n dX3_readNumber_75 rfl rfl ?_
    refine z_gi3 (j := 5) dX3_readNumber_76 (by decide) fl_X3_39 rfl rfl rfl ?_
    refine z_iload_n dX3_readNumber_79 rfl rfl ?_
    refine z_icmp_ne (tgt := 90) dX3_readNumber_80 (by decide) rfl (fun g1 => ?_) (fun g1 => ?_)
    · rw [n5] at g1
      have hne : e ≠ s := fun q => g1 (by rw [q])
      generalize hV : vaN b s (e - s) = V at hQ n6 bad
      rw [if_neg hne] at bad
      refine z_aload_n dX3_readNumber_90 rfl rfl ?_
      refine z_gi3 (j := 6) dX3_readNumber_91 (by decide) fl_X3_112 rfl rfl rfl ?_
      refine z_iload_n dX3_readNumber_94 rfl rfl ?_
      refine z_icmp_lt (tgt := 106) dX3_readNumber_95 (by decide) rfl (fun g2 => ?_) (fun g2 => ?_)
      · rw [n6] at g2
        have := lt_nn g2 (by omega) (by omega)
        exact bad (if_neg (by omega))
      · rw [n6] at g2
        have hl := nlt_nn g2 (by omega) (by omega)
        refine z_aload_n dX3_readNumber_98 rfl rfl ?_
        refine z_gi3 (j := 6) dX3_readNumber_99 (by decide) fl_X3_112 rfl rfl rfl ?_
        refine z_iload_n dX3_readNumber_102 rfl rfl ?_
        refine z_icmp_le (tgt := 115) dX3_readNumber_103 (by decide) rfl (fun g3 => ?_) (fun g3 => ?_)
        · rw [n6] at g3
          have hh := (hx _ (by omega)).mp g3
          rw [← hQ]
          refine z_iconst (v := 1) dX3_readNumber_115 (by decide) rfl ?_
          refine z_goto (tgt := 120) dX3_readNumber_116 (by decide) ?_
          exact z_zreturn dX3_readNumber_120 rfl rfl (Or.inr ⟨(e, V), by rw [if_neg hne, if_pos (by omega)], rfl, hE, n5, by rw [n6]; congr 1; omega⟩) (Nat.le_of_ble_eq_true rfl) (Nat.le_of_ble_eq_true rfl)
        · rw [n6] at g3
          have hh : ¬ min 1000 V < h1 := fun q => g3 ((hx _ (by omega)).mpr q)
          exact bad (if_neg (by omega))
    · rw [n5] at g1
      have he : e = s := (nI_eq (by omega) (by omega)).mp g1
      refine z_aload_n dX3_readNumber_83 rfl rfl ?_
      refine z_iconst (v := 1) dX3_readNumber_84 (by decide) rfl ?_
      refine z_iload_n dX3_readNumber_85 rfl rfl ?_
      refine z_cv2 (ci := 3) (nf := 10) (y := mX3_refuse) dX3_readNumber_86 ml_X3_53 iv_X3_refuse (Nat.le_of_ble_eq_true rfl) rfl (by decide) rfl (Nat.le_of_ble_eq_true rfl) (Nat.le_of_ble_eq_true rfl) (Nat.le_of_ble_eq_true rfl) (c_X3_refuse hst N 1 (nI s)) rfl ?_
      rw [← hQ]
      exact z_zreturn dX3_readNumber_89 rfl rfl (Or.inl ⟨1, s, if_pos he, rfl, (hE5.mu (by unfold St5; omega)).mu (by unfold St5; omega), rfl, rfl, e, n5, hle⟩) (Nat.le_of_ble_eq_true rfl) (Nat.le_of_ble_eq_true rfl)
  have hTk := hT
  obtain ⟨t1, t2, t3⟩ := hT
  have key : ∀ y, ∀ (N : Mem), s ≤ y → y ≤ n → Eqx (fun a b => a = 1 ∧ (b = 5 ∨ b = 6)) M N → N 1 5 = nI y → N 1 6 = nI (min 1000 (vaN b s (y - s))) → run (isDg b) n y = run (isDg b) n s → Zz (zx l E mX3_readNumber 1 Q) 0 0 14 [some (.ref 1), some (.int (nI lo)), some (.int x), some (.int (nI s))] [] N := by
    refine run_ind (p := isDg b) (n := n) ?_ ?_
    · intro y hy N hsy hyn hE n5 n6 hrr
      rw [run_stop hy] at hrr
      have n4 : N 1 4 = nI n := by rw [hE 1 4 (by omega)]; exact t1
      have out := fin N hE (by rw [n5, hrr]) (by rw [n6, hrr])
      refine z_aload_n dX3_readNumber_14 rfl rfl ?_
      refine z_gi3 (j := 5) dX3_readNumber_15 (by decide) fl_X3_39 rfl rfl rfl ?_
      refine z_aload_n dX3_readNumber_18 rfl rfl ?_
      refine z_gi3 (j := 4) dX3_readNumber_19 (by decide) fl_X3_36 rfl rfl rfl ?_
      refine z_icmp_ge (tgt := 75) dX3_readNumber_22 (by decide) rfl (fun g1 => ?_) (fun g1 => ?_)
      · exact out
      · rw [n4, n5] at g1
        have hlt := nle_nn g1 (by omega) (by omega)
        refine z_aload_n dX3_readNumber_25 rfl rfl ?_
        refine z_cv0 (ci := 3) (nf := 10) (y := mX3_isDigitHere) dX3_readNumber_26 ml_X3_142 iv_X3_isDigitHere (Nat.le_of_ble_eq_true rfl) rfl (by decide) rfl (Nat.le_of_ble_eq_true rfl) (Nat.le_of_ble_eq_true rfl) (Nat.le_of_ble_eq_true rfl) (c_X3_isDigitHere hst N b n y (hTk.keep (hE.mono (fun a b q => by unfold St5; omega))) n5 hyn) rfl ?_
        rw [decide_eq_true hlt]
        have hd : isDg b y = false := by
          cases q : isDg b y
          · rfl
          · exact absurd ⟨hlt, q⟩ hy
        rw [hd]
        refine z_if_eq (tgt := 75) dX3_readNumber_29 (by decide) rfl (fun g2 => ?_) (fun g2 => ?_)
        · exact out
        · exact absurd rfl g2
    · intro y q1 q2 ih N hsy hyn hE n5 n6 hrr
      have n4 : N 1 4 = nI n := by rw [hE 1 4 (by omega)]; exact t1
      have n7 : N 7 y = nI (b y) := by rw [hE 7 y (by omega)]; exact (t3 y q1).1
      obtain ⟨d1, d2⟩ : 48 ≤ b y ∧ b y ≤ 57 := of_decide_eq_true q2
      rw [run_go q1 q2] at hrr
      refine z_aload_n dX3_readNumber_14 rfl rfl ?_
      refine z_gi3 (j := 5) dX3_readNumber_15 (by decide) fl_X3_39 rfl rfl rfl ?_
      refine z_aload_n dX3_readNumber_18 rfl rfl ?_
      refine z_gi3 (j := 4) dX3_readNumber_19 (by decide) fl_X3_36 rfl rfl rfl ?_
      refine z_icmp_ge (tgt := 75) dX3_readNumber_22 (by decide) rfl (fun g1 => ?_) (fun g1 => ?_)
      · rw [n4, n5] at g1
        exact absurd (le_nn g1 (by omega) (by omega)) (by omega)
      · refine z_aload_n dX3_readNumber_25 rfl rfl ?_
        refine z_cv0 (ci := 3) (nf := 10) (y := mX3_isDigitHere) dX3_readNumber_26 ml_X3_142 iv_X3_isDigitHere (Nat.le_of_ble_eq_true rfl) rfl (by decide) rfl (Nat.le_of_ble_eq_true rfl) (Nat.le_of_ble_eq_true rfl) (Nat.le_of_ble_eq_true rfl) (c_X3_isDigitHere hst N b n y (hTk.keep (hE.mono (fun a b q => by unfold St5; omega))) n5 hyn) rfl ?_
        rw [decide_eq_true q1, q2]
        refine z_if_eq (tgt := 75) dX3_readNumber_29 (by decide) rfl (fun g2 => ?_) (fun g2 => ?_)
        · exact absurd g2 (by decide)
        · refine z_aload_n dX3_readNumber_32 rfl rfl ?_
          refine z_sipush (v := 1000) dX3_readNumber_33 (by decide) rfl ?_
          refine z_aload_n dX3_readNumber_36 rfl rfl ?_
          refine z_gi3 (j := 6) dX3_readNumber_37 (by decide) fl_X3_112 rfl rfl rfl ?_
          refine z_bipush (v := 10) dX3_readNumber_40 (by decide) rfl ?_
          refine z_imul dX3_readNumber_42 rfl ?_
          refine z_aload_n dX3_readNumber_43 rfl rfl ?_
          refine z_gr3 (j := 3) dX3_readNumber_44 (by decide) fl_X3_25 rfl rfl rfl ?_
          refine z_aload_n dX3_readNumber_47 rfl rfl ?_
          refine z_gi3 (j := 5) dX3_readNumber_48 (by decide) fl_X3_39 rfl rfl rfl ?_
          refine z_iald dX3_readNumber_51 (by first | rfl | exact knd_h (by omega) | exact knd_s (by omega)) n5 (by omega) (by decide) rfl ?_
          refine z_tp (b := (nI (b y))) n7 ?_
          refine z_iadd dX3_readNumber_52 rfl ?_
          refine z_bipush (v := 48) dX3_readNumber_53 (by decide) rfl ?_
          refine z_isub dX3_readNumber_55 rfl ?_
          generalize hw : min 1000 (vaN b s (y - s)) = w at n6
          refine z_tp (b := (nI (w * 10 + (b y - 48)))) (by rw [n6, show (10 : Int32) = nI 10 from rfl, show (48 : Int32) = nI 48 from rfl, pk_mul, nI_add, pk_sub (by omega)]; congr 1; omega) ?_
          refine z_mmin dX3_readNumber_56 ml_X3_145 (Nat.le_of_ble_eq_true rfl) (Nat.le_of_ble_eq_true rfl) (Nat.le_of_ble_eq_true rfl) (Nat.le_of_ble_eq_true rfl) rfl ?_
          refine z_tp (b := (nI (min 1000 (w * 10 + (b y - 48))))) (min_i (by omega)) ?_
          refine z_pi3 (j := 6) dX3_readNumber_59 (by decide) fl_X3_112 rfl rfl rfl rfl rfl ?_
          refine z_aload_n dX3_readNumber_62 rfl rfl ?_
          refine z_dup dX3_readNumber_63 rfl rfl ?_
          refine z_gi3 (j := 5) dX3_readNumber_64 (by decide) fl_X3_39 rfl rfl rfl ?_
          refine z_iconst (v := 1) dX3_readNumber_67 (by decide) rfl ?_
          refine z_iadd dX3_readNumber_68 rfl ?_
          refine z_pi3 (j := 5) dX3_readNumber_69 (by decide) fl_X3_39 rfl rfl rfl rfl rfl ?_
          refine z_goto (tgt := 14) dX3_readNumber_72 (by decide) ?_
          refine ih _ (by omega) (by omega) ((hE.mu (by omega)).mu (by omega)) (by show N 1 5 + 1 = _; rw [n5, nI_1]) ?_ hrr
          show nI (min 1000 (w * 10 + (b y - 48))) = _
          rw [show y + 1 - s = (y - s) + 1 by omega, vaN, show s + (y - s) = y by omega, ← hw, min_step (by omega)]
  exact key s _ (Nat.le_refl s) hr ((Eqx.rf.mu (by omega)).mu (by omega)) rfl (by rw [Nat.sub_self]; rfl) rfl
