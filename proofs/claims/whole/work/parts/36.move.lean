/-! Site.add, shift and move -/
def addC (M : Mem) (n : Nat) : Mem := mu (mu (mu (mu (mu (fil M (n + 17) 0 7 (M 6)) 55 n (M 6 0)) 56 n (M 6 1)) 9 n (nI n)) 2 3 (nI (n + 1))) 2 4 0
set_option maxHeartbeats 4000000 in
theorem c_X2_add {l : Launch} {E : EnT} (hst : l.stackTraces = false) (M : Mem) (n : Nat) (hn : M 2 3 = nI n) (h16 : n < 16) : Mm l E mX2_add 1 0 0 [.ref 2, .ref 6] M (Rt (some (.int (nI n))) (addC M n)) := by
  refine Mm_go hst (by decide) rfl (Nat.le_of_ble_eq_true rfl) [some (.ref 2), some (.ref 6), none] rfl ?_
  refine z_aload_n dX2_add_0 rfl rfl ?_
  refine z_gi2 (j := 3) dX2_add_1 (by decide) fl_X2_27 rfl rfl rfl ?_
  refine z_tp (b := (nI n)) hn ?_
  refine z_ist2 dX2_add_4 (Nat.le_of_ble_eq_true rfl) rfl ?_
  refine z_aload_n dX2_add_5 rfl rfl ?_
  refine z_gr2 (j := 0) dX2_add_6 (by decide) fl_X2_11 rfl rfl rfl ?_
  refine z_iload_n dX2_add_9 rfl rfl ?_
  refine z_aldW dX2_add_10 rfl rfl (by omega) (by decide) rfl ?_
  refine z_aload_n dX2_add_11 rfl rfl ?_
  refine z_cn1 (ci := 4) (nf := 7) (y := mX4_copyFrom) dX2_add_12 ml_X2_42 iv_X4_copyFrom (Nat.le_of_ble_eq_true rfl) rfl (by decide) (by first | assumption | rfl | exact knd_w (by omega)) (Nat.le_of_ble_eq_true rfl) (Nat.le_of_ble_eq_true rfl) (Nat.le_of_ble_eq_true rfl) (c_X4_copyFrom hst M (n + 17) (knd_w (by omega)) (by omega)) rfl ?_
  have e6 : ∀ i, fil M (n + 17) 0 7 (M 6) 6 i = M 6 i := fun i => fil_o (by omega)
  have e2 : fil M (n + 17) 0 7 (M 6) 2 3 = nI n := by rw [fil_o (by omega)]; exact hn
  refine z_aload_n dX2_add_15 rfl rfl ?_
  refine z_gr2 (j := 2) dX2_add_16 (by decide) fl_X2_23 rfl rfl rfl ?_
  refine z_iconst (v := 0) dX2_add_19 (by decide) rfl ?_
  refine z_aldR dX2_add_20 rfl (show (0 : Int32) = nI 0 from rfl) (by omega) (by decide) rfl ?_
  refine z_rowH dX2_add_21 fl_X2_46 (by omega) rfl ?_
  refine z_iload_n dX2_add_24 rfl rfl ?_
  refine z_aload_n dX2_add_25 rfl rfl ?_
  refine z_gi4 (j := 0) dX2_add_26 (by decide) fl_X2_49 (by first | assumption | rfl | exact knd_w (by omega)) rfl rfl ?_
  refine z_tp (b := (M 6 0)) (e6 0) ?_
  refine z_iast dX2_add_29 (by first | rfl | exact knd_h (by omega) | exact knd_s (by omega)) rfl (by omega) (by decide) rfl ?_
  refine z_aload_n dX2_add_30 rfl rfl ?_
  refine z_gr2 (j := 2) dX2_add_31 (by decide) fl_X2_23 rfl rfl rfl ?_
  refine z_iconst (v := 1) dX2_add_34 (by decide) rfl ?_
  refine z_aldR dX2_add_35 rfl (show (1 : Int32) = nI 1 from rfl) (by omega) (by decide) rfl ?_
  refine z_rowH dX2_add_36 fl_X2_46 (by omega) rfl ?_
  refine z_iload_n dX2_add_39 rfl rfl ?_
  refine z_aload_n dX2_add_40 rfl rfl ?_
  refine z_gi4 (j := 1) dX2_add_41 (by decide) fl_X2_52 (by first | assumption | rfl | exact knd_w (by omega)) rfl rfl ?_
  refine z_tp (b := (M 6 1)) (e6 1) ?_
  refine z_iast dX2_add_44 (by first | rfl | exact knd_h (by omega) | exact knd_s (by omega)) rfl (by omega) (by decide) rfl ?_
  refine z_aload_n dX2_add_45 rfl rfl ?_
  refine z_gr2 (j := 1) dX2_add_46 (by decide) fl_X2_17 rfl rfl rfl ?_
  refine z_iload_n dX2_add_49 rfl rfl ?_
  refine z_iload_n dX2_add_50 rfl rfl ?_
  refine z_iast dX2_add_51 (by first | rfl | exact knd_h (by omega) | exact knd_s (by omega)) rfl (by omega) (by decide) rfl ?_
  refine z_aload_n dX2_add_52 rfl rfl ?_
  refine z_dup dX2_add_53 rfl rfl ?_
  refine z_gi2 (j := 3) dX2_add_54 (by decide) fl_X2_27 rfl rfl rfl ?_
  refine z_iconst (v := 1) dX2_add_57 (by decide) rfl ?_
  refine z_iadd dX2_add_58 rfl ?_
  refine z_pi2 (j := 3) dX2_add_59 (by decide) fl_X2_27 rfl rfl rfl rfl rfl ?_
  refine z_aload_n dX2_add_62 rfl rfl ?_
  refine z_iconst (v := 0) dX2_add_63 (by decide) rfl ?_
  refine z_pi2 (j := 4) dX2_add_64 (by decide) fl_X2_31 rfl rfl rfl rfl rfl ?_
  refine z_mem (N := addC M n) ?_ ?_
  · unfold addC
    rw [← nI_1 n, ← e2]; rfl
  refine z_iload_n dX2_add_67 rfl rfl ?_
  exact z_ireturn dX2_add_68 rfl ⟨rfl, rfl⟩ (Nat.le_of_ble_eq_true rfl) (Nat.le_of_ble_eq_true rfl)
/-- where w stands first among f 0 .. f (n - 1); n if nowhere -/
def posN (f : Nat → Int32) (w : Int32) : Nat → Nat
  | 0 => 0
  | n + 1 => if posN f w n < n then posN f w n else if f n = w then n else n + 1
theorem posN_le {f : Nat → Int32} {w : Int32} : ∀ {n : Nat}, posN f w n ≤ n
  | 0 => Nat.le_refl 0
  | n + 1 => by
    have := @posN_le f w n
    unfold posN
    split
    · omega
    · split <;> omega
theorem posN_ne {f : Nat → Int32} {w : Int32} : ∀ {n i : Nat}, i < posN f w n → f i ≠ w
  | 0, i, h => absurd h (Nat.not_lt_zero i)
  | n + 1, i, h => by
    unfold posN at h
    have hl := @posN_le f w n
    split at h
    · exact posN_ne h
    · split at h
      · exact posN_ne (n := n) (by omega)
      · rename_i h1 h2
        rcases Nat.lt_or_ge i n with q | q
        · exact posN_ne (n := n) (by omega)
        · have : i = n := by omega
          subst this; exact h2
theorem posN_eq {f : Nat → Int32} {w : Int32} : ∀ {n : Nat}, posN f w n < n → f (posN f w n) = w
  | 0, h => absurd h (Nat.not_lt_zero _)
  | n + 1, h => by
    unfold posN at h ⊢
    split
    · rename_i q; exact posN_eq q
    · split
      · assumption
      · rename_i h1 h2
        rw [if_neg h1, if_neg h2] at h; omega
theorem posN_of {f : Nat → Int32} {w : Int32} {n p : Nat} (hp : p < n) (h1 : f p = w) (h2 : ∀ i, i < p → f i ≠ w) : posN f w n = p := by
  rcases Nat.lt_or_ge (posN f w n) p with q | q
  · exact absurd (posN_eq (Nat.lt_trans q hp)) (h2 _ q)
  · rcases Nat.lt_or_ge p (posN f w n) with r | r
    · exact absurd h1 (posN_ne r)
    · omega
/-- f with the value w taken from place p and put to place k -/
def mvN (f : Nat → Int32) (w : Int32) (p k : Nat) : Nat → Int32 := fun i => if i = k then w else if p ≤ i ∧ i < k then f (i + 1) else if k < i ∧ i ≤ p then f (i - 1) else f i
def mcu (M : Mem) (k : Nat) (f : Nat → Int32) : Mem := fun a => if a = k then f else M a
theorem mcu_k {M : Mem} {k : Nat} {f : Nat → Int32} : mcu M k f k = f := if_pos rfl
theorem mcu_o {M : Mem} {k a : Nat} {f : Nat → Int32} (h : a ≠ k) : mcu M k f a = M a := if_neg h
theorem mcu_self {M : Mem} {k : Nat} : mcu M k (M k) = M := by
  funext a; unfold mcu; split
  · rename_i h; rw [h]
  · rfl
theorem mu_mcu {M : Mem} {k i : Nat} {f : Nat → Int32} {v : Int32} : mu (mcu M k f) k i v = mcu M k (upd f i v) := by
  funext a; unfold mu mcu
  split
  · rw [if_pos rfl]
  · rfl
theorem mcu_cg {M : Mem} {k : Nat} {f g : Nat → Int32} (h : ∀ i, f i = g i) : mcu M k f = mcu M k g := by rw [funext h]
set_option maxHeartbeats 4000000 in
theorem c_X2_shift {l : Launch} {E : EnT} (hst : l.stackTraces = false) (M : Mem) (n j k : Nat) (hn : M 2 3 = nI n) (h16 : n ≤ 16) (hk : k < n) (hp : posN (M 9) (nI j) n < n) : Mm l E mX2_shift 0 0 0 [.ref 2, .int (nI j), .int (nI k)] M (Rt (some (.int (nI (posN (M 9) (nI j) n)))) (mcu M 9 (mvN (M 9) (nI j) (posN (M 9) (nI j) n) k))) := by
  refine Mm_go hst (by decide) rfl (Nat.le_of_ble_eq_true rfl) [some (.ref 2), some (.int (nI j)), some (.int (nI k)), none, none] rfl ?_
  refine z_iconst (v := 0) dX2_shift_0 (by decide) rfl ?_
  refine z_ist3 dX2_shift_1 (Nat.le_of_ble_eq_true rfl) rfl ?_
  generalize hP : posN (M 9) (nI j) n = p at hp ⊢
  have h1 : ∀ i, i < p → M 9 i ≠ nI j := fun i hi => posN_ne (n := n) (by rw [hP]; exact hi)
  have h2 : M 9 p = nI j := by rw [← hP]; exact posN_eq (by rw [hP]; exact hp)
  have h0 : M 9 = mcu M 9 (M 9) 9 := mcu_k.symm
  -- down
  have dn : ∀ (t i : Nat), k + t = i → i ≤ p → ∀ (u : Int32), Zz (zx l E mX2_shift 0 (Rt (some (.int (nI p))) (mcu M 9 (mvN (M 9) (nI j) p k)))) 0 0 62 [some (.ref 2), some (.int (nI j)), some (.int (nI k)), some (.int (nI p)), some (.int (nI i))] [] (mcu M 9 (fun z => if i < z ∧ z ≤ p then M 9 (z - 1) else M 9 z)) := by
    intro t
    induction t with
    | zero =>
      intro i hi hip u
      have e : i = k := by omega
      subst e
      refine z_iload dX2_shift_62 rfl rfl ?_
      refine z_iload_n dX2_shift_64 rfl rfl ?_
      refine z_icmp_le (tgt := 90) dX2_shift_65 (by decide) rfl (fun hc => ?_) (fun hc => ?_)
      · refine z_aload_n dX2_shift_90 rfl rfl ?_
        refine z_gr2 (j := 1) dX2_shift_91 (by decide) fl_X2_17 rfl rfl rfl ?_
        refine z_iload_n dX2_shift_94 rfl rfl ?_
        refine z_iload_n dX2_shift_95 rfl rfl ?_
        refine z_iast dX2_shift_96 (by first | rfl | exact knd_h (by omega) | exact knd_s (by omega)) rfl (by omega) (by decide) rfl ?_
        refine z_mem (N := mcu M 9 (mvN (M 9) (nI j) p i)) ?_ ?_
        · rw [mu_mcu]
          refine mcu_cg (fun z => ?_)
          simp only [upd, mvN]
          split
          · rfl
          · rw [if_neg (show ¬ (p ≤ z ∧ z < i) by omega)]
        refine z_iload_n dX2_shift_97 rfl rfl ?_
        exact z_ireturn dX2_shift_98 rfl ⟨rfl, rfl⟩ (Nat.le_of_ble_eq_true rfl) (Nat.le_of_ble_eq_true rfl)
      · exact absurd (nI_le (Nat.le_refl _) (by omega)) hc
    | succ t ih =>
      intro i hi hip u
      refine z_iload dX2_shift_62 rfl rfl ?_
      refine z_iload_n dX2_shift_64 rfl rfl ?_
      refine z_icmp_le (tgt := 90) dX2_shift_65 (by decide) rfl (fun hc => ?_) (fun hc => ?_)
      · exact absurd (le_nn hc (by omega) (by omega)) (by omega)
      · refine z_aload_n dX2_shift_68 rfl rfl ?_
        refine z_gr2 (j := 1) dX2_shift_69 (by decide) fl_X2_17 rfl rfl rfl ?_
        refine z_iload dX2_shift_72 rfl rfl ?_
        refine z_aload_n dX2_shift_74 rfl rfl ?_
        refine z_gr2 (j := 1) dX2_shift_75 (by decide) fl_X2_17 rfl rfl rfl ?_
        refine z_iload dX2_shift_78 rfl rfl ?_
        refine z_iconst (v := 1) dX2_shift_80 (by decide) rfl ?_
        refine z_isub dX2_shift_81 rfl ?_
        refine z_iald dX2_shift_82 (by first | rfl | exact knd_h (by omega) | exact knd_s (by omega)) (show nI i - 1 = nI (i - 1) by rw [show (1 : Int32) = nI 1 from rfl, pk_sub (by omega)]) (by omega) (by decide) rfl ?_
        refine z_iast dX2_shift_83 (by first | rfl | exact knd_h (by omega) | exact knd_s (by omega)) rfl (by omega) (by decide) rfl ?_
        refine z_mem (N := mcu M 9 (fun z => if i - 1 < z ∧ z ≤ p then M 9 (z - 1) else M 9 z)) ?_ ?_
        · rw [mu_mcu, mcu_k]
          refine mcu_cg (fun z => ?_)
          simp only [upd]
          split
          · rename_i q; subst q
            rw [if_neg (by omega), if_pos (by omega)]
          · by_cases q : i < z ∧ z ≤ p
            · rw [if_pos q, if_pos (by omega)]
            · rw [if_neg q, if_neg (by omega)]
        refine z_inc4 dX2_shift_84 (Nat.le_of_ble_eq_true rfl) (show nI i + Int32.ofInt (-1) = nI (i - 1) by rw [show i = (i - 1) + 1 by omega]; exact pk_m1 _) rfl ?_
        refine z_goto (tgt := 62) dX2_shift_87 (by decide) ?_
        exact ih (i - 1) (by omega) (by omega) u
  have up : ∀ (t i : Nat), i + t = k → p ≤ i → Zz (zx l E mX2_shift 0 (Rt (some (.int (nI p))) (mcu M 9 (mvN (M 9) (nI j) p k)))) 0 0 31 [some (.ref 2), some (.int (nI j)), some (.int (nI k)), some (.int (nI p)), some (.int (nI i))] [] (mcu M 9 (fun z => if p ≤ z ∧ z < i then M 9 (z + 1) else M 9 z)) := by
    intro t
    induction t with
    | zero =>
      intro i hi hip
      have e : i = k := by omega
      subst e
      refine z_iload dX2_shift_31 rfl rfl ?_
      refine z_iload_n dX2_shift_33 rfl rfl ?_
      refine z_icmp_ge (tgt := 59) dX2_shift_34 (by decide) rfl (fun hc => ?_) (fun hc => ?_)
      · refine z_iload_n dX2_shift_59 rfl rfl ?_
        refine z_ist4 dX2_shift_60 (Nat.le_of_ble_eq_true rfl) rfl ?_
        refine z_iload dX2_shift_62 rfl rfl ?_
        refine z_iload_n dX2_shift_64 rfl rfl ?_
        refine z_icmp_le (tgt := 90) dX2_shift_65 (by decide) rfl (fun hd => ?_) (fun hd => ?_)
        · refine z_aload_n dX2_shift_90 rfl rfl ?_
          refine z_gr2 (j := 1) dX2_shift_91 (by decide) fl_X2_17 rfl rfl rfl ?_
          refine z_iload_n dX2_shift_94 rfl rfl ?_
          refine z_iload_n dX2_shift_95 rfl rfl ?_
          refine z_iast dX2_shift_96 (by first | rfl | exact knd_h (by omega) | exact knd_s (by omega)) rfl (by omega) (by decide) rfl ?_
          refine z_mem (N := mcu M 9 (mvN (M 9) (nI j) p i)) ?_ ?_
          · rw [mu_mcu]
            refine mcu_cg (fun z => ?_)
            simp only [upd, mvN]
            split
            · rfl
            · by_cases q : p ≤ z ∧ z < i
              · rw [if_pos q, if_pos q]
              · rw [if_neg q, if_neg q, if_neg (by omega)]
          refine z_iload_n dX2_shift_97 rfl rfl ?_
          exact z_ireturn dX2_shift_98 rfl ⟨rfl, rfl⟩ (Nat.le_of_ble_eq_true rfl) (Nat.le_of_ble_eq_true rfl)
        · exact absurd (nI_le hip (by omega)) hd
      · exact absurd (nI_le (Nat.le_refl _) (by omega)) hc
    | succ t ih =>
      intro i hi hip
      refine z_iload dX2_shift_31 rfl rfl ?_
      refine z_iload_n dX2_shift_33 rfl rfl ?_
      refine z_icmp_ge (tgt := 59) dX2_shift_34 (by decide) rfl (fun hc => ?_) (fun hc => ?_)
      · exact absurd (le_nn hc (by omega) (by omega)) (by omega)
      · refine z_aload_n dX2_shift_37 rfl rfl ?_
        refine z_gr2 (j := 1) dX2_shift_38 (by decide) fl_X2_17 rfl rfl rfl ?_
        refine z_iload dX2_shift_41 rfl rfl ?_
        refine z_aload_n dX2_shift_43 rfl rfl ?_
        refine z_gr2 (j := 1) dX2_shift_44 (by decide) fl_X2_17 rfl rfl rfl ?_
        refine z_iload dX2_shift_47 rfl rfl ?_
        refine z_iconst (v := 1) dX2_shift_49 (by decide) rfl ?_
        refine z_iadd dX2_shift_50 rfl ?_
        refine z_iald dX2_shift_51 (by first | rfl | exact knd_h (by omega) | exact knd_s (by omega)) (nI_1 i) (by omega) (by decide) rfl ?_
        refine z_iast dX2_shift_52 (by first | rfl | exact knd_h (by omega) | exact knd_s (by omega)) rfl (by omega) (by decide) rfl ?_
        refine z_mem (N := mcu M 9 (fun z => if p ≤ z ∧ z < i + 1 then M 9 (z + 1) else M 9 z)) ?_ ?_
        · rw [mu_mcu, mcu_k]
          refine mcu_cg (fun z => ?_)
          simp only [upd]
          split
          · rename_i q; subst q
            rw [if_neg (by omega), if_pos (by omega)]
          · by_cases q : p ≤ z ∧ z < i
            · rw [if_pos q, if_pos (by omega)]
            · rw [if_neg q, if_neg (by omega)]
        first | refine z_iu4 dX2_shift_53 (Nat.le_of_ble_eq_true rfl) rfl ?_ | refine z_inc4 dX2_shift_53 (Nat.le_of_ble_eq_true rfl) rfl rfl ?_
        refine z_goto (tgt := 31) dX2_shift_56 (by decide) ?_
        exact ih (i + 1) (by omega) (by omega)
  have en : Zz (zx l E mX2_shift 0 (Rt (some (.int (nI p))) (mcu M 9 (mvN (M 9) (nI j) p k)))) 0 0 28 [some (.ref 2), some (.int (nI j)), some (.int (nI k)), some (.int (nI p)), none] [] M := by
    refine z_iload_n dX2_shift_28 rfl rfl ?_
    refine z_ist4 dX2_shift_29 (Nat.le_of_ble_eq_true rfl) rfl ?_
    rcases Nat.lt_or_ge k p with q | q
    · refine z_iload dX2_shift_31 rfl rfl ?_
      refine z_iload_n dX2_shift_33 rfl rfl ?_
      refine z_icmp_ge (tgt := 59) dX2_shift_34 (by decide) rfl (fun hc => ?_) (fun hc => ?_)
      · refine z_iload_n dX2_shift_59 rfl rfl ?_
        refine z_ist4 dX2_shift_60 (Nat.le_of_ble_eq_true rfl) rfl ?_
        refine z_mem (N := mcu M 9 (fun z => if p < z ∧ z ≤ p then M 9 (z - 1) else M 9 z)) ?_ (dn (p - k) p (by omega) (by omega) 0)
        conv => lhs; rw [← mcu_self (M := M) (k := 9)]
        exact mcu_cg (fun z => by rw [if_neg (by omega)])
      · exact absurd (nI_le (by omega) (by omega)) hc
    · refine z_mem (N := mcu M 9 (fun z => if p ≤ z ∧ z < p then M 9 (z + 1) else M 9 z)) ?_ (up (k - p) p (by omega) (by omega))
      conv => lhs; rw [← mcu_self (M := M) (k := 9)]
      exact mcu_cg (fun z => by rw [if_neg (by omega)])
  have en1 : M 2 3 - 1 = nI (n - 1) := by rw [hn, show (1 : Int32) = nI 1 from rfl, pk_sub (by omega)]
  have fnd : ∀ (t i : Nat), i + t = p → Zz (zx l E mX2_shift 0 (Rt (some (.int (nI p))) (mcu M 9 (mvN (M 9) (nI j) p k)))) 0 0 2 [some (.ref 2), some (.int (nI j)), some (.int (nI k)), some (.int (nI i)), none] [] M := by
    intro t
    induction t with
    | zero =>
      intro i hi
      have e : i = p := by omega
      subst e
      refine z_iload_n dX2_shift_2 rfl rfl ?_
      refine z_aload_n dX2_shift_3 rfl rfl ?_
      refine z_gi2 (j := 3) dX2_shift_4 (by decide) fl_X2_27 rfl rfl rfl ?_
      refine z_iconst (v := 1) dX2_shift_7 (by decide) rfl ?_
      refine z_isub dX2_shift_8 rfl ?_
      refine z_icmp_ge (tgt := 28) dX2_shift_9 (by decide) rfl (fun hc => ?_) (fun hc => ?_)
      · exact en
      · refine z_aload_n dX2_shift_12 rfl rfl ?_
        refine z_gr2 (j := 1) dX2_shift_13 (by decide) fl_X2_17 rfl rfl rfl ?_
        refine z_iload_n dX2_shift_16 rfl rfl ?_
        refine z_iald dX2_shift_17 (by first | rfl | exact knd_h (by omega) | exact knd_s (by omega)) rfl (by omega) (by decide) rfl ?_
        refine z_iload_n dX2_shift_18 rfl rfl ?_
        refine z_icmp_eq (tgt := 28) dX2_shift_19 (by decide) rfl (fun hd => ?_) (fun hd => ?_)
        · exact en
        · exact absurd h2 hd
    | succ t ih =>
      intro i hi
      refine z_iload_n dX2_shift_2 rfl rfl ?_
      refine z_aload_n dX2_shift_3 rfl rfl ?_
      refine z_gi2 (j := 3) dX2_shift_4 (by decide) fl_X2_27 rfl rfl rfl ?_
      refine z_iconst (v := 1) dX2_shift_7 (by decide) rfl ?_
      refine z_isub dX2_shift_8 rfl ?_
      refine z_icmp_ge (tgt := 28) dX2_shift_9 (by decide) rfl (fun hc => ?_) (fun hc => ?_)
      · rw [en1] at hc
        exact absurd (le_nn hc (by omega) (by omega)) (by omega)
      · refine z_aload_n dX2_shift_12 rfl rfl ?_
        refine z_gr2 (j := 1) dX2_shift_13 (by decide) fl_X2_17 rfl rfl rfl ?_
        refine z_iload_n dX2_shift_16 rfl rfl ?_
        refine z_iald dX2_shift_17 (by first | rfl | exact knd_h (by omega) | exact knd_s (by omega)) rfl (by omega) (by decide) rfl ?_
        refine z_iload_n dX2_shift_18 rfl rfl ?_
        refine z_icmp_eq (tgt := 28) dX2_shift_19 (by decide) rfl (fun hd => ?_) (fun hd => ?_)
        · exact absurd hd (h1 i (by omega))
        · first | refine z_iu3 dX2_shift_22 (Nat.le_of_ble_eq_true rfl) rfl ?_ | refine z_inc3 dX2_shift_22 (Nat.le_of_ble_eq_true rfl) rfl rfl ?_
          refine z_goto (tgt := 2) dX2_shift_25 (by decide) ?_
          exact ih (i + 1) (by omega)
  exact fnd p 0 (by omega)
def movC (M : Mem) (w k : Int32) (n : Nat) : (Option Value ⊕ String) × Mem :=
  if ixB w n then (if ixB k n then (.inl (some (.int (nI (posN (M 9) w n)))), mcu M 9 (mvN (M 9) w (posN (M 9) w n) k.toNatClampNeg)) else (.inr xIA, M)) else (.inr xIO, M)
set_option maxHeartbeats 4000000 in
theorem c_X6_move {l : Launch} {E : EnT} (hst : l.stackTraces = false) (w k : Int32) (M : Mem) (n : Nat) (hn : M 2 3 = nI n) (h16 : n ≤ 16) (hp : ∀ j, j < n → posN (M 9) (nI j) n < n) : Mm l E mX6_move 6 1 6 [.ref 0, .int w, .int k] M (Rx (movC M w k n).1 (movC M w k n).2) := by
  refine Mm_go hst (by decide) rfl (Nat.le_of_ble_eq_true rfl) [some (.ref 0), some (.int w), some (.int k)] rfl ?_
  refine z_aload_n dX6_move_0 rfl rfl ?_
  refine z_gr6 (j := 1) dX6_move_1 (by decide) fl_X6_19 rfl rfl rfl ?_
  refine z_iload_n dX6_move_4 rfl rfl ?_
  refine z_cv1 (ci := 2) (nf := 11) (y := mX2_hasWork) dX6_move_5 ml_X6_85 iv_X2_hasWork (Nat.le_of_ble_eq_true rfl) rfl (by decide) rfl (Nat.le_of_ble_eq_true rfl) (Nat.le_of_ble_eq_true rfl) (Nat.le_of_ble_eq_true rfl) (c_X2_hasWork hst w M n hn h16) rfl ?_
  rcases ixB_cases w (n := n) (by omega) with ⟨hb, h⟩ | ⟨j, hj, rfl, hb⟩
  · rw [hb]
    refine z_if_ne (tgt := 21) dX6_move_8 (by decide) rfl (fun h1 => ?_) (fun h1 => ?_)
    · exact absurd rfl h1
    · exact z_throw (i := 10) rfl (Nat.le_of_ble_eq_true rfl) xok_IO (List.mem_of_getElem? (i := 18) rfl) dX6_move_11 dX6_move_14 dX6_move_15 dX6_move_17 dX6_move_20 rfl rfl ⟨by simp [movC, hb]; rfl, by simp [movC, hb]⟩
  · rw [hb]
    refine z_if_ne (tgt := 21) dX6_move_8 (by decide) rfl (fun h1 => ?_) (fun h1 => ?_)
    · rcases ixB_cases k (n := n) (by omega) with ⟨hk, h2⟩ | ⟨i, hi, rfl, hk⟩
      · refine z_iload_n dX6_move_21 rfl rfl ?_
        refine z_if_lt (tgt := 36) dX6_move_22 (by decide) rfl (fun h3 => ?_) (fun h3 => ?_)
        · exact z_throw (i := 14) rfl (Nat.le_of_ble_eq_true rfl) xok_IA (List.mem_of_getElem? (i := 22) rfl) dX6_move_36 dX6_move_39 dX6_move_40 dX6_move_42 dX6_move_45 rfl rfl ⟨by simp [movC, hb, hk]; rfl, by simp [movC, hb, hk]⟩
        · refine z_iload_n dX6_move_25 rfl rfl ?_
          refine z_aload_n dX6_move_26 rfl rfl ?_
          refine z_gr6 (j := 1) dX6_move_27 (by decide) fl_X6_19 rfl rfl rfl ?_
          refine z_gi2 (j := 3) dX6_move_30 (by decide) fl_X6_62 rfl rfl rfl ?_
          refine z_icmp_lt (tgt := 46) dX6_move_33 (by decide) rfl (fun h4 => ?_) (fun h4 => ?_)
          · rw [hn] at h4
            exact absurd (h2.resolve_left h3) (i32_nle h4)
          · exact z_throw (i := 14) rfl (Nat.le_of_ble_eq_true rfl) xok_IA (List.mem_of_getElem? (i := 22) rfl) dX6_move_36 dX6_move_39 dX6_move_40 dX6_move_42 dX6_move_45 rfl rfl ⟨by simp [movC, hb, hk]; rfl, by simp [movC, hb, hk]⟩
      · refine z_iload_n dX6_move_21 rfl rfl ?_
        refine z_if_lt (tgt := 36) dX6_move_22 (by decide) rfl (fun h3 => ?_) (fun h3 => ?_)
        · exact absurd h3 (nI_pos (by omega))
        · refine z_iload_n dX6_move_25 rfl rfl ?_
          refine z_aload_n dX6_move_26 rfl rfl ?_
          refine z_gr6 (j := 1) dX6_move_27 (by decide) fl_X6_19 rfl rfl rfl ?_
          refine z_gi2 (j := 3) dX6_move_30 (by decide) fl_X6_62 rfl rfl rfl ?_
          refine z_icmp_lt (tgt := 46) dX6_move_33 (by decide) rfl (fun h4 => ?_) (fun h4 => ?_)
          · refine z_aload_n dX6_move_46 rfl rfl ?_
            refine z_gr6 (j := 1) dX6_move_47 (by decide) fl_X6_19 rfl rfl rfl ?_
            refine z_iload_n dX6_move_50 rfl rfl ?_
            refine z_iload_n dX6_move_51 rfl rfl ?_
            refine z_cv2 (ci := 2) (nf := 11) (y := mX2_shift) dX6_move_52 ml_X6_174 iv_X2_shift (Nat.le_of_ble_eq_true rfl) rfl (by decide) rfl (Nat.le_of_ble_eq_true rfl) (Nat.le_of_ble_eq_true rfl) (Nat.le_of_ble_eq_true rfl) (c_X2_shift hst M n j i hn h16 hi (hp j hj)) rfl ?_
            exact z_ireturn dX6_move_55 rfl ⟨by unfold movC; rw [if_pos hb, if_pos hk], by unfold movC; rw [if_pos hb, if_pos hk, nI_clamp (by omega)]⟩ (Nat.le_of_ble_eq_true rfl) (Nat.le_of_ble_eq_true rfl)
          · exact absurd (by rw [hn]; exact nI_lt hi (by omega)) h4
    · exact absurd h1 (by decide)
/-- how many of its copy the reference has read when it comes to place t -/
def mvc (p k t : Nat) : Nat := if (if t ≤ k then t else t - 1) ≤ p then (if t ≤ k then t else t - 1) else (if t ≤ k then t else t - 1) + 1
theorem mvc_lo {p k t : Nat} (h : t ≤ k) : mvc p k t = if t ≤ p then t else t + 1 := by unfold mvc; rw [if_pos h]
theorem mvc_hi {p k t : Nat} (h : ¬ t + 1 ≤ k) : mvc p k (t + 1) = if t ≤ p then t else t + 1 := by unfold mvc; rw [if_neg h, Nat.add_sub_cancel]
theorem mvc_le {p k t : Nat} : mvc p k t ≤ t + 1 := by unfold mvc; split <;> split <;> omega
/-- the reference's walk over its copy: n, and the order written so far -/
def movM (M : Mem) (w k : Int32) (n : Nat) : Int32 × Mem :=
  if ixB w n then (if ixB k n then (nI (posN (M 107) w n), mcu (fil (mu M 99 0 0) 113 0 n (M 107)) 107 (fun i => if i < n then mvN (M 107) w (posN (M 107) w n) k.toNatClampNeg i else M 107 i)) else (0, mu (mu M 99 0 0) 99 0 2)) else (0, mu (mu M 99 0 0) 99 0 1)
set_option maxHeartbeats 8000000 in
theorem c_X7_move {l : Launch} {E : EnT} (hst : l.stackTraces = false) (w k : Int32) (M0 : Mem) (n : Nat) (hn0 : M0 99 14 = nI n) (h16 : n ≤ 16) (hp0 : ∀ j, j < n → posN (M0 107) (nI j) n < n) (hu0 : ∀ a b, a < n → b < n → M0 107 a = M0 107 b → a = b) : Mm l E mX7_move 1 0 0 [.ref 99, .int w, .int k] M0 (Rt (some (.int (movM M0 w k n).1)) (movM M0 w k n).2) := by
  refine Mm_go hst (by decide) rfl (Nat.le_of_ble_eq_true rfl) [some (.ref 99), some (.int w), some (.int k), none, none, none] rfl ?_
  refine z_aload_n dX7_move_0 rfl rfl ?_
  refine z_iconst (v := 0) dX7_move_1 (by decide) rfl ?_
  refine z_pi7 (j := 0) dX7_move_2 (by decide) fl_X7_79 rfl rfl rfl rfl rfl ?_
  refine z_aload_n dX7_move_5 rfl rfl ?_
  refine z_aload_n dX7_move_6 rfl rfl ?_
  refine z_iload_n dX7_move_7 rfl rfl ?_
  refine z_cv1 (ci := 7) (nf := 32) (y := mX7_isWork) dX7_move_8 ml_X7_164 iv_X7_isWork (Nat.le_of_ble_eq_true rfl) rfl (by decide) rfl (Nat.le_of_ble_eq_true rfl) (Nat.le_of_ble_eq_true rfl) (Nat.le_of_ble_eq_true rfl) (c_X7_isWork hst w (mu M0 99 0 0) n hn0 h16) rfl ?_
  rcases ixB_cases w (n := n) (by omega) with ⟨hb, h⟩ | ⟨j, hj, rfl, hb⟩
  · rw [hb]
    refine z_if_ne (tgt := 18) dX7_move_11 (by decide) rfl (fun h1 => ?_) (fun h1 => ?_)
    · exact absurd rfl h1
    · refine z_iconst (v := 1) dX7_move_14 (by decide) rfl ?_
      refine z_goto (tgt := 19) dX7_move_15 (by decide) ?_
      refine z_iconst (v := 1) dX7_move_19 (by decide) rfl ?_
      refine z_cv2 (ci := 7) (nf := 32) (y := mX7_bad) dX7_move_20 ml_X7_154 iv_X7_bad (Nat.le_of_ble_eq_true rfl) rfl (by decide) rfl (Nat.le_of_ble_eq_true rfl) (Nat.le_of_ble_eq_true rfl) (Nat.le_of_ble_eq_true rfl) (c_X7_bad1 hst 1 _) rfl ?_
      refine z_if_ne (tgt := 51) dX7_move_23 (by decide) rfl (fun h2 => ?_) (fun h2 => ?_)
      · refine z_iconst (v := 0) dX7_move_51 (by decide) rfl ?_
        exact z_ireturn dX7_move_52 rfl ⟨by simp [movM, hb], by simp [movM, hb]⟩ (Nat.le_of_ble_eq_true rfl) (Nat.le_of_ble_eq_true rfl)
      · exact absurd h2 (by decide)
  · rw [hb]
    refine z_if_ne (tgt := 18) dX7_move_11 (by decide) rfl (fun h1 => ?_) (fun h1 => ?_)
    · refine z_iconst (v := 0) dX7_move_18 (by decide) rfl ?_
      refine z_iconst (v := 1) dX7_move_19 (by decide) rfl ?_
      refine z_cv2 (ci := 7) (nf := 32) (y := mX7_bad) dX7_move_20 ml_X7_154 iv_X7_bad (Nat.le_of_ble_eq_true rfl) rfl (by decide) rfl (Nat.le_of_ble_eq_true rfl) (Nat.le_of_ble_eq_true rfl) (Nat.le_of_ble_eq_true rfl) (c_X7_bad0 hst 1 _) rfl ?_
      refine z_if_ne (tgt := 51) dX7_move_23 (by decide) rfl (fun h2 => ?_) (fun h2 => ?_)
      · exact absurd rfl h2
      · rcases ixB_cases k (n := n) (by omega) with ⟨hk, h3⟩ | ⟨i, hi, rfl, hk⟩
        · have bd : Zz (zx l E mX7_move 1 (Rt (some (.int (movM M0 (nI j) k n).1)) (movM M0 (nI j) k n).2)) 0 0 39 [some (.ref 99), some (.int (nI j)), some (.int k), none, none, none] [.ref 99] (mu M0 99 0 0) := by
            refine z_iconst (v := 1) dX7_move_39 (by decide) rfl ?_
            refine z_goto (tgt := 44) dX7_move_40 (by decide) ?_
            refine z_iconst (v := 2) dX7_move_44 (by decide) rfl ?_
            refine z_cv2 (ci := 7) (nf := 32) (y := mX7_bad) dX7_move_45 ml_X7_154 iv_X7_bad (Nat.le_of_ble_eq_true rfl) rfl (by decide) rfl (Nat.le_of_ble_eq_true rfl) (Nat.le_of_ble_eq_true rfl) (Nat.le_of_ble_eq_true rfl) (c_X7_bad1 hst 2 _) rfl ?_
            refine z_if_eq (tgt := 53) dX7_move_48 (by decide) rfl (fun h5 => ?_) (fun h5 => ?_)
            · exact absurd h5 (by decide)
            · refine z_iconst (v := 0) dX7_move_51 (by decide) rfl ?_
              exact z_ireturn dX7_move_52 rfl ⟨by simp [movM, hb, hk], by simp [movM, hb, hk]⟩ (Nat.le_of_ble_eq_true rfl) (Nat.le_of_ble_eq_true rfl)
          refine z_aload_n dX7_move_26 rfl rfl ?_
          refine z_iload_n dX7_move_27 rfl rfl ?_
          refine z_if_lt (tgt := 39) dX7_move_28 (by decide) rfl (fun h4 => ?_) (fun h4 => ?_)
          · exact bd
          · refine z_iload_n dX7_move_31 rfl rfl ?_
            refine z_aload_n dX7_move_32 rfl rfl ?_
            refine z_gi7 (j := 14) dX7_move_33 (by decide) fl_X7_144 rfl rfl rfl ?_
            refine z_icmp_lt (tgt := 43) dX7_move_36 (by decide) rfl (fun h5 => ?_) (fun h5 => ?_)
            · rw [show mu M0 99 0 0 99 14 = nI n from hn0] at h5
              exact absurd (h3.resolve_left h4) (i32_nle h5)
            · exact bd
        · refine z_aload_n dX7_move_26 rfl rfl ?_
          refine z_iload_n dX7_move_27 rfl rfl ?_
          refine z_if_lt (tgt := 39) dX7_move_28 (by decide) rfl (fun h4 => ?_) (fun h4 => ?_)
          · exact absurd h4 (nI_pos (by omega))
          · refine z_iload_n dX7_move_31 rfl rfl ?_
            refine z_aload_n dX7_move_32 rfl rfl ?_
            refine z_gi7 (j := 14) dX7_move_33 (by decide) fl_X7_144 rfl rfl rfl ?_
            refine z_icmp_lt (tgt := 43) dX7_move_36 (by decide) rfl (fun h5 => ?_) (fun h5 => ?_)
            · refine z_iconst (v := 0) dX7_move_43 (by decide) rfl ?_
              refine z_iconst (v := 2) dX7_move_44 (by decide) rfl ?_
              refine z_cv2 (ci := 7) (nf := 32) (y := mX7_bad) dX7_move_45 ml_X7_154 iv_X7_bad (Nat.le_of_ble_eq_true rfl) rfl (by decide) rfl (Nat.le_of_ble_eq_true rfl) (Nat.le_of_ble_eq_true rfl) (Nat.le_of_ble_eq_true rfl) (c_X7_bad0 hst 2 _) rfl ?_
              refine z_if_eq (tgt := 53) dX7_move_48 (by decide) rfl (fun h6 => ?_) (fun h6 => ?_)
              · have hR : movM M0 (nI j) (nI i) n = (nI (posN (mu M0 99 0 0 107) (nI j) n), mcu (fil (mu M0 99 0 0) 113 0 n (mu M0 99 0 0 107)) 107 (fun z => if z < n then mvN (mu M0 99 0 0 107) (nI j) (posN (mu M0 99 0 0 107) (nI j) n) i z else mu M0 99 0 0 107 z)) := by
                  unfold movM; rw [if_pos hb, if_pos hk, nI_clamp (show i < 2 ^ 31 by omega)]; rfl
                rw [hR]
                have hn : mu M0 99 0 0 99 14 = nI n := hn0
                have hp := hp0 j hj
                rw [show M0 107 = mu M0 99 0 0 107 from rfl] at hp
                have hu : ∀ a b, a < n → b < n → mu M0 99 0 0 107 a = mu M0 99 0 0 107 b → a = b := hu0
                generalize mu M0 99 0 0 = M at hn hp hu ⊢
                generalize hP : posN (M 107) (nI j) n = p at hp ⊢
                have q1 : ∀ i, i < p → M 107 i ≠ nI j := fun i hi => posN_ne (n := n) (by rw [hP]; exact hi)
                have q2 : M 107 p = nI j := by rw [← hP]; exact posN_eq (by rw [hP]; exact hp)
                have q3 : ∀ i, i < n → i ≠ p → M 107 i ≠ nI j := fun z hz hne q => hne (hu z p hz hp (q.trans q2.symm))
                -- third loop: place t, with n read so far
                have put : ∀ (r t : Nat), t + r = n → Zz (zx l E mX7_move 1 (Rt (some (.int (nI p))) (mcu (fil M 113 0 n (M 107)) 107 (fun z => if z < n then mvN (M 107) (nI j) p i z else M 107 z)))) 0 0 109 [some (.ref 99), some (.int (nI j)), some (.int (nI i)), some (.int (nI p)), some (.int (nI (mvc p i t))), some (.int (nI t))] [] (mcu (fil M 113 0 n (M 107)) 107 (fun z => if z < t then mvN (M 107) (nI j) p i z else M 107 z)) := by
                  intro r
                  have e113 : ∀ t z, z < n → mcu (fil M 113 0 n (M 107)) 107 (fun z => if z < t then mvN (M 107) (nI j) p i z else M 107 z) 113 z = M 107 z := fun t z hz => by rw [mcu_o (by decide), fil_i (by omega) (by omega)]; rfl
                  have e99 : ∀ t, mcu (fil M 113 0 n (M 107)) 107 (fun z => if z < t then mvN (M 107) (nI j) p i z else M 107 z) 99 14 = nI n := fun t => hn
                  have st : ∀ t v, v = mvN (M 107) (nI j) p i t → mu (mcu (fil M 113 0 n (M 107)) 107 (fun z => if z < t then mvN (M 107) (nI j) p i z else M 107 z)) 107 t v = mcu (fil M 113 0 n (M 107)) 107 (fun z => if z < t + 1 then mvN (M 107) (nI j) p i z else M 107 z) := fun t v hv => by
                    rw [mu_mcu]
                    refine mcu_cg (fun z => ?_)
                    simp only [upd]
                    split
                    · rename_i q; subst q; rw [if_pos (by omega), hv]
                    · by_cases q : z < t
                      · rw [if_pos q, if_pos (by omega)]
                      · rw [if_neg q, if_neg (by omega)]
                  induction r with
                  | zero =>
                    intro t ht
                    have e : t = n := by omega
                    subst e
                    refine z_iload dX7_move_109 rfl rfl ?_
                    refine z_aload_n dX7_move_111 rfl rfl ?_
                    refine z_gi7 (j := 14) dX7_move_112 (by decide) fl_X7_144 rfl rfl rfl ?_
                    refine z_icmp_ge (tgt := 179) dX7_move_115 (by decide) rfl (fun hc => ?_) (fun hc => ?_)
                    · refine z_iload_n dX7_move_179 rfl rfl ?_
                      exact z_ireturn dX7_move_180 rfl ⟨rfl, rfl⟩ (Nat.le_of_ble_eq_true rfl) (Nat.le_of_ble_eq_true rfl)
                    · exact absurd (by rw [e99]; exact nI_le (Nat.le_refl _) (by omega)) hc
                  | succ r ih =>
                    intro t ht
                    have ih1 := ih (t + 1) (by omega)
                    refine z_iload dX7_move_109 rfl rfl ?_
                    refine z_aload_n dX7_move_111 rfl rfl ?_
                    refine z_gi7 (j := 14) dX7_move_112 (by decide) fl_X7_144 rfl rfl rfl ?_
                    refine z_icmp_ge (tgt := 179) dX7_move_115 (by decide) rfl (fun hc => ?_) (fun hc => ?_)
                    · exact absurd hc (by rw [e99]; exact nI_ge (by omega) (by omega))
                    · rcases Nat.lt_trichotomy t i with q | q | q
                      · -- ahead of the place: m = t
                        refine z_iload dX7_move_118 rfl rfl ?_
                        refine z_iload_n dX7_move_120 rfl rfl ?_
                        refine z_icmp_ne (tgt := 135) dX7_move_121 (by decide) rfl (fun hd => ?_) (fun hd => ?_)
                        · have hm : mvc p i t = if t ≤ p then t else t + 1 := mvc_lo (by omega)
                          have hm1 : mvc p i (t + 1) = if t + 1 ≤ p then t + 1 else t + 2 := mvc_lo (by omega)
                          rcases Nat.lt_trichotomy t p with g | g | g
                          · rw [hm, if_pos (by omega)]; rw [hm1, if_pos (by omega)] at ih1
                            refine z_iload dX7_move_135 rfl rfl ?_
                            refine z_aload_n dX7_move_137 rfl rfl ?_
                            refine z_gr7 (j := 24) dX7_move_138 (by decide) fl_X7_61 rfl rfl rfl ?_
                            refine z_iload dX7_move_141 rfl rfl ?_
                            refine z_iald dX7_move_143 (by first | rfl | exact knd_h (by omega) | exact knd_s (by omega)) rfl (by omega) (by decide) rfl ?_
                            refine z_iload_n dX7_move_144 rfl rfl ?_
                            refine z_icmp_ne (tgt := 152) dX7_move_145 (by decide) rfl (fun he => ?_) (fun he => ?_)
                            · refine z_iconst (v := 0) dX7_move_152 (by decide) rfl ?_
                              refine z_iadd dX7_move_153 rfl ?_
                              refine z_tp (b := (nI t)) (Int32.add_zero _) ?_
                              refine z_ist4 dX7_move_154 (Nat.le_of_ble_eq_true rfl) rfl ?_
                              refine z_aload_n dX7_move_156 rfl rfl ?_
                              refine z_gr7 (j := 13) dX7_move_157 (by decide) fl_X7_36 rfl rfl rfl ?_
                              refine z_iload dX7_move_160 rfl rfl ?_
                              refine z_aload_n dX7_move_162 rfl rfl ?_
                              refine z_gr7 (j := 24) dX7_move_163 (by decide) fl_X7_61 rfl rfl rfl ?_
                              refine z_iload dX7_move_166 rfl rfl ?_
                              refine z_iald dX7_move_168 (by first | rfl | exact knd_h (by omega) | exact knd_s (by omega)) rfl (by omega) (by decide) rfl ?_
                              refine z_iast dX7_move_169 (by first | rfl | exact knd_h (by omega) | exact knd_s (by omega)) rfl (by omega) (by decide) rfl ?_
                              refine z_mem (N := _) (st t _ ?_) ?_
                              · rw [e113 t t (by omega)]; unfold mvN; rw [if_neg (by omega), if_neg (by omega), if_neg (by omega)]
                              first | refine z_iu4 dX7_move_170 (Nat.le_of_ble_eq_true rfl) rfl ?_ | refine z_inc4 dX7_move_170 (Nat.le_of_ble_eq_true rfl) rfl rfl ?_
                              first | refine z_iu5 dX7_move_173 (Nat.le_of_ble_eq_true rfl) rfl ?_ | refine z_inc5 dX7_move_173 (Nat.le_of_ble_eq_true rfl) rfl rfl ?_
                              refine z_goto (tgt := 109) dX7_move_176 (by decide) ?_
                              exact ih1
                            · exact absurd (by rw [← he]; exact (e113 t t (by omega)).symm) (q3 t (by omega) (by omega))
                          · subst g
                            rw [hm, if_pos (by omega)]; rw [hm1, if_neg (by omega)] at ih1
                            refine z_iload dX7_move_135 rfl rfl ?_
                            refine z_aload_n dX7_move_137 rfl rfl ?_
                            refine z_gr7 (j := 24) dX7_move_138 (by decide) fl_X7_61 rfl rfl rfl ?_
                            refine z_iload dX7_move_141 rfl rfl ?_
                            refine z_iald dX7_move_143 (by first | rfl | exact knd_h (by omega) | exact knd_s (by omega)) rfl (by omega) (by decide) rfl ?_
                            refine z_iload_n dX7_move_144 rfl rfl ?_
                            refine z_icmp_ne (tgt := 152) dX7_move_145 (by decide) rfl (fun he => ?_) (fun he => ?_)
                            · exact absurd ((e113 t t (by omega)).trans q2) he
                            · refine z_iconst (v := 1) dX7_move_148 (by decide) rfl ?_
                              refine z_goto (tgt := 153) dX7_move_149 (by decide) ?_
                              refine z_iadd dX7_move_153 rfl ?_
                              refine z_tp (b := (nI (t + 1))) (nI_1 t) ?_
                              refine z_ist4 dX7_move_154 (Nat.le_of_ble_eq_true rfl) rfl ?_
                              refine z_aload_n dX7_move_156 rfl rfl ?_
                              refine z_gr7 (j := 13) dX7_move_157 (by decide) fl_X7_36 rfl rfl rfl ?_
                              refine z_iload dX7_move_160 rfl rfl ?_
                              refine z_aload_n dX7_move_162 rfl rfl ?_
                              refine z_gr7 (j := 24) dX7_move_163 (by decide) fl_X7_61 rfl rfl rfl ?_
                              refine z_iload dX7_move_166 rfl rfl ?_
                              refine z_iald dX7_move_168 (by first | rfl | exact knd_h (by omega) | exact knd_s (by omega)) rfl (by omega) (by decide) rfl ?_
                              refine z_iast dX7_move_169 (by first | rfl | exact knd_h (by omega) | exact knd_s (by omega)) rfl (by omega) (by decide) rfl ?_
                              refine z_mem (N := _) (st t _ ?_) ?_
                              · rw [e113 t (t + 1) (by omega)]; unfold mvN; rw [if_neg (by omega), if_pos (by omega)]
                              first | refine z_iu4 dX7_move_170 (Nat.le_of_ble_eq_true rfl) rfl ?_ | refine z_inc4 dX7_move_170 (Nat.le_of_ble_eq_true rfl) rfl rfl ?_
                              first | refine z_iu5 dX7_move_173 (Nat.le_of_ble_eq_true rfl) rfl ?_ | refine z_inc5 dX7_move_173 (Nat.le_of_ble_eq_true rfl) rfl rfl ?_
                              refine z_goto (tgt := 109) dX7_move_176 (by decide) ?_
                              exact ih1
                          · rw [hm, if_neg (by omega)]; rw [hm1, if_neg (by omega)] at ih1
                            refine z_iload dX7_move_135 rfl rfl ?_
                            refine z_aload_n dX7_move_137 rfl rfl ?_
                            refine z_gr7 (j := 24) dX7_move_138 (by decide) fl_X7_61 rfl rfl rfl ?_
                            refine z_iload dX7_move_141 rfl rfl ?_
                            refine z_iald dX7_move_143 (by first | rfl | exact knd_h (by omega) | exact knd_s (by omega)) rfl (by omega) (by decide) rfl ?_
                            refine z_iload_n dX7_move_144 rfl rfl ?_
                            refine z_icmp_ne (tgt := 152) dX7_move_145 (by decide) rfl (fun he => ?_) (fun he => ?_)
                            · refine z_iconst (v := 0) dX7_move_152 (by decide) rfl ?_
                              refine z_iadd dX7_move_153 rfl ?_
                              refine z_tp (b := (nI (t + 1))) (Int32.add_zero _) ?_
                              refine z_ist4 dX7_move_154 (Nat.le_of_ble_eq_true rfl) rfl ?_
                              refine z_aload_n dX7_move_156 rfl rfl ?_
                              refine z_gr7 (j := 13) dX7_move_157 (by decide) fl_X7_36 rfl rfl rfl ?_
                              refine z_iload dX7_move_160 rfl rfl ?_
                              refine z_aload_n dX7_move_162 rfl rfl ?_
                              refine z_gr7 (j := 24) dX7_move_163 (by decide) fl_X7_61 rfl rfl rfl ?_
                              refine z_iload dX7_move_166 rfl rfl ?_
                              refine z_iald dX7_move_168 (by first | rfl | exact knd_h (by omega) | exact knd_s (by omega)) rfl (by omega) (by decide) rfl ?_
                              refine z_iast dX7_move_169 (by first | rfl | exact knd_h (by omega) | exact knd_s (by omega)) rfl (by omega) (by decide) rfl ?_
                              refine z_mem (N := _) (st t _ ?_) ?_
                              · rw [e113 t (t + 1) (by omega)]; unfold mvN; rw [if_neg (by omega), if_pos (by omega)]
                              first | refine z_iu4 dX7_move_170 (Nat.le_of_ble_eq_true rfl) rfl ?_ | refine z_inc4 dX7_move_170 (Nat.le_of_ble_eq_true rfl) rfl rfl ?_
                              first | refine z_iu5 dX7_move_173 (Nat.le_of_ble_eq_true rfl) rfl ?_ | refine z_inc5 dX7_move_173 (Nat.le_of_ble_eq_true rfl) rfl rfl ?_
                              refine z_goto (tgt := 109) dX7_move_176 (by decide) ?_
                              exact ih1
                            · exact absurd (by rw [← he]; exact (e113 t (t + 1) (by omega)).symm) (q3 (t + 1) (by omega) (by omega))
                        · exact absurd ((nI_eq (show t < 2 ^ 31 by omega) (show i < 2 ^ 31 by omega)).mp hd) (by omega)
                      · subst q
                        refine z_iload dX7_move_118 rfl rfl ?_
                        refine z_iload_n dX7_move_120 rfl rfl ?_
                        refine z_icmp_ne (tgt := 135) dX7_move_121 (by decide) rfl (fun hd => ?_) (fun hd => ?_)
                        · exact absurd rfl hd
                        · rw [show mvc p t (t + 1) = mvc p t t from by rw [mvc_hi (by omega), mvc_lo (Nat.le_refl t)]] at ih1
                          refine z_aload_n dX7_move_124 rfl rfl ?_
                          refine z_gr7 (j := 13) dX7_move_125 (by decide) fl_X7_36 rfl rfl rfl ?_
                          refine z_iload dX7_move_128 rfl rfl ?_
                          refine z_iload_n dX7_move_130 rfl rfl ?_
                          refine z_iast dX7_move_131 (by first | rfl | exact knd_h (by omega) | exact knd_s (by omega)) rfl (by omega) (by decide) rfl ?_
                          refine z_mem (N := _) (st t _ ?_) ?_
                          · unfold mvN; rw [if_pos rfl]
                          refine z_goto (tgt := 173) dX7_move_132 (by decide) ?_
                          first | refine z_iu5 dX7_move_173 (Nat.le_of_ble_eq_true rfl) rfl ?_ | refine z_inc5 dX7_move_173 (Nat.le_of_ble_eq_true rfl) rfl rfl ?_
                          refine z_goto (tgt := 109) dX7_move_176 (by decide) ?_
                          exact ih1
                      · refine z_iload dX7_move_118 rfl rfl ?_
                        refine z_iload_n dX7_move_120 rfl rfl ?_
                        refine z_icmp_ne (tgt := 135) dX7_move_121 (by decide) rfl (fun hd => ?_) (fun hd => ?_)
                        · obtain ⟨s, rfl⟩ : ∃ s, t = s + 1 := ⟨t - 1, by omega⟩
                          have hm : mvc p i (s + 1) = if s ≤ p then s else s + 1 := mvc_hi (by omega)
                          have hm1 : mvc p i (s + 1 + 1) = if s + 1 ≤ p then s + 1 else s + 2 := mvc_hi (by omega)
                          rcases Nat.lt_trichotomy s p with g | g | g
                          · rw [hm, if_pos (by omega)]; rw [hm1, if_pos (by omega)] at ih1
                            refine z_iload dX7_move_135 rfl rfl ?_
                            refine z_aload_n dX7_move_137 rfl rfl ?_
                            refine z_gr7 (j := 24) dX7_move_138 (by decide) fl_X7_61 rfl rfl rfl ?_
                            refine z_iload dX7_move_141 rfl rfl ?_
                            refine z_iald dX7_move_143 (by first | rfl | exact knd_h (by omega) | exact knd_s (by omega)) rfl (by omega) (by decide) rfl ?_
                            refine z_iload_n dX7_move_144 rfl rfl ?_
                            refine z_icmp_ne (tgt := 152) dX7_move_145 (by decide) rfl (fun he => ?_) (fun he => ?_)
                            · refine z_iconst (v := 0) dX7_move_152 (by decide) rfl ?_
                              refine z_iadd dX7_move_153 rfl ?_
                              refine z_tp (b := (nI s)) (Int32.add_zero _) ?_
                              refine z_ist4 dX7_move_154 (Nat.le_of_ble_eq_true rfl) rfl ?_
                              refine z_aload_n dX7_move_156 rfl rfl ?_
                              refine z_gr7 (j := 13) dX7_move_157 (by decide) fl_X7_36 rfl rfl rfl ?_
                              refine z_iload dX7_move_160 rfl rfl ?_
                              refine z_aload_n dX7_move_162 rfl rfl ?_
                              refine z_gr7 (j := 24) dX7_move_163 (by decide) fl_X7_61 rfl rfl rfl ?_
                              refine z_iload dX7_move_166 rfl rfl ?_
                              refine z_iald dX7_move_168 (by first | rfl | exact knd_h (by omega) | exact knd_s (by omega)) rfl (by omega) (by decide) rfl ?_
                              refine z_iast dX7_move_169 (by first | rfl | exact knd_h (by omega) | exact knd_s (by omega)) rfl (by omega) (by decide) rfl ?_
                              refine z_mem (N := _) (st (s + 1) _ ?_) ?_
                              · rw [e113 (s + 1) s (by omega)]; unfold mvN; rw [if_neg (by omega), if_neg (by omega), if_pos (by omega), Nat.add_sub_cancel]
                              first | refine z_iu4 dX7_move_170 (Nat.le_of_ble_eq_true rfl) rfl ?_ | refine z_inc4 dX7_move_170 (Nat.le_of_ble_eq_true rfl) rfl rfl ?_
                              first | refine z_iu5 dX7_move_173 (Nat.le_of_ble_eq_true rfl) rfl ?_ | refine z_inc5 dX7_move_173 (Nat.le_of_ble_eq_true rfl) rfl rfl ?_
                              refine z_goto (tgt := 109) dX7_move_176 (by decide) ?_
                              exact ih1
                            · exact absurd (by rw [← he]; exact (e113 (s + 1) s (by omega)).symm) (q3 s (by omega) (by omega))
                          · subst g
                            rw [hm, if_pos (by omega)]; rw [hm1, if_neg (by omega)] at ih1
                            refine z_iload dX7_move_135 rfl rfl ?_
                            refine z_aload_n dX7_move_137 rfl rfl ?_
                            refine z_gr7 (j := 24) dX7_move_138 (by decide) fl_X7_61 rfl rfl rfl ?_
                            refine z_iload dX7_move_141 rfl rfl ?_
                            refine z_iald dX7_move_143 (by first | rfl | exact knd_h (by omega) | exact knd_s (by omega)) rfl (by omega) (by decide) rfl ?_
                            refine z_iload_n dX7_move_144 rfl rfl ?_
                            refine z_icmp_ne (tgt := 152) dX7_move_145 (by decide) rfl (fun he => ?_) (fun he => ?_)
                            · exact absurd ((e113 (s + 1) s (by omega)).trans q2) he
                            · refine z_iconst (v := 1) dX7_move_148 (by decide) rfl ?_
                              refine z_goto (tgt := 153) dX7_move_149 (by decide) ?_
                              refine z_iadd dX7_move_153 rfl ?_
                              refine z_tp (b := (nI (s + 1))) (nI_1 s) ?_
                              refine z_ist4 dX7_move_154 (Nat.le_of_ble_eq_true rfl) rfl ?_
                              refine z_aload_n dX7_move_156 rfl rfl ?_
                              refine z_gr7 (j := 13) dX7_move_157 (by decide) fl_X7_36 rfl rfl rfl ?_
                              refine z_iload dX7_move_160 rfl rfl ?_
                              refine z_aload_n dX7_move_162 rfl rfl ?_
                              refine z_gr7 (j := 24) dX7_move_163 (by decide) fl_X7_61 rfl rfl rfl ?_
                              refine z_iload dX7_move_166 rfl rfl ?_
                              refine z_iald dX7_move_168 (by first | rfl | exact knd_h (by omega) | exact knd_s (by omega)) rfl (by omega) (by decide) rfl ?_
                              refine z_iast dX7_move_169 (by first | rfl | exact knd_h (by omega) | exact knd_s (by omega)) rfl (by omega) (by decide) rfl ?_
                              refine z_mem (N := _) (st (s + 1) _ ?_) ?_
                              · rw [e113 (s + 1) (s + 1) (by omega)]; unfold mvN; rw [if_neg (by omega), if_neg (by omega), if_neg (by omega)]
                              first | refine z_iu4 dX7_move_170 (Nat.le_of_ble_eq_true rfl) rfl ?_ | refine z_inc4 dX7_move_170 (Nat.le_of_ble_eq_true rfl) rfl rfl ?_
                              first | refine z_iu5 dX7_move_173 (Nat.le_of_ble_eq_true rfl) rfl ?_ | refine z_inc5 dX7_move_173 (Nat.le_of_ble_eq_true rfl) rfl rfl ?_
                              refine z_goto (tgt := 109) dX7_move_176 (by decide) ?_
                              exact ih1
                          · rw [hm, if_neg (by omega)]; rw [hm1, if_neg (by omega)] at ih1
                            refine z_iload dX7_move_135 rfl rfl ?_
                            refine z_aload_n dX7_move_137 rfl rfl ?_
                            refine z_gr7 (j := 24) dX7_move_138 (by decide) fl_X7_61 rfl rfl rfl ?_
                            refine z_iload dX7_move_141 rfl rfl ?_
                            refine z_iald dX7_move_143 (by first | rfl | exact knd_h (by omega) | exact knd_s (by omega)) rfl (by omega) (by decide) rfl ?_
                            refine z_iload_n dX7_move_144 rfl rfl ?_
                            refine z_icmp_ne (tgt := 152) dX7_move_145 (by decide) rfl (fun he => ?_) (fun he => ?_)
                            · refine z_iconst (v := 0) dX7_move_152 (by decide) rfl ?_
                              refine z_iadd dX7_move_153 rfl ?_
                              refine z_tp (b := (nI (s + 1))) (Int32.add_zero _) ?_
                              refine z_ist4 dX7_move_154 (Nat.le_of_ble_eq_true rfl) rfl ?_
                              refine z_aload_n dX7_move_156 rfl rfl ?_
                              refine z_gr7 (j := 13) dX7_move_157 (by decide) fl_X7_36 rfl rfl rfl ?_
                              refine z_iload dX7_move_160 rfl rfl ?_
                              refine z_aload_n dX7_move_162 rfl rfl ?_
                              refine z_gr7 (j := 24) dX7_move_163 (by decide) fl_X7_61 rfl rfl rfl ?_
                              refine z_iload dX7_move_166 rfl rfl ?_
                              refine z_iald dX7_move_168 (by first | rfl | exact knd_h (by omega) | exact knd_s (by omega)) rfl (by omega) (by decide) rfl ?_
                              refine z_iast dX7_move_169 (by first | rfl | exact knd_h (by omega) | exact knd_s (by omega)) rfl (by omega) (by decide) rfl ?_
                              refine z_mem (N := _) (st (s + 1) _ ?_) ?_
                              · rw [e113 (s + 1) (s + 1) (by omega)]; unfold mvN; rw [if_neg (by omega), if_neg (by omega), if_neg (by omega)]
                              first | refine z_iu4 dX7_move_170 (Nat.le_of_ble_eq_true rfl) rfl ?_ | refine z_inc4 dX7_move_170 (Nat.le_of_ble_eq_true rfl) rfl rfl ?_
                              first | refine z_iu5 dX7_move_173 (Nat.le_of_ble_eq_true rfl) rfl ?_ | refine z_inc5 dX7_move_173 (Nat.le_of_ble_eq_true rfl) rfl rfl ?_
                              refine z_goto (tgt := 109) dX7_move_176 (by decide) ?_
                              exact ih1
                            · exact absurd (by rw [← he]; exact (e113 (s + 1) (s + 1) (by omega)).symm) (q3 (s + 1) (by omega) (by omega))
                        · exact absurd ((nI_eq (show t < 2 ^ 31 by omega) (show i < 2 ^ 31 by omega)).mp hd) (by omega)
                have cpy : ∀ (r t : Nat), t + r = n → Zz (zx l E mX7_move 1 (Rt (some (.int (nI p))) (mcu (fil M 113 0 n (M 107)) 107 (fun z => if z < n then mvN (M 107) (nI j) p i z else M 107 z)))) 0 0 74 [some (.ref 99), some (.int (nI j)), some (.int (nI i)), some (.int (nI p)), some (.int (nI t)), none] [] (fil M 113 0 t (M 107)) := by
                  intro r
                  induction r with
                  | zero =>
                    intro t ht
                    have e : t = n := by omega
                    subst e
                    refine z_iload dX7_move_74 rfl rfl ?_
                    refine z_aload_n dX7_move_76 rfl rfl ?_
                    refine z_gi7 (j := 14) dX7_move_77 (by decide) fl_X7_144 rfl rfl rfl ?_
                    refine z_icmp_ge (tgt := 103) dX7_move_80 (by decide) rfl (fun hc => ?_) (fun hc => ?_)
                    · refine z_iconst (v := 0) dX7_move_103 (by decide) rfl ?_
                      refine z_ist4 dX7_move_104 (Nat.le_of_ble_eq_true rfl) rfl ?_
                      refine z_iconst (v := 0) dX7_move_106 (by decide) rfl ?_
                      refine z_ist5 dX7_move_107 (Nat.le_of_ble_eq_true rfl) rfl ?_
                      have pt := put t 0 (by omega)
                      rw [show mvc p i 0 = 0 by rw [mvc_lo (by omega), if_pos (by omega)]] at pt
                      refine z_mem (N := _) ?_ pt
                      conv => lhs; rw [← mcu_self (M := fil M 113 0 t (M 107)) (k := 107)]
                      exact mcu_cg (fun z => by rw [if_neg (by omega)]; rfl)
                    · exact absurd (by rw [show fil M 113 0 t (M 107) 99 14 = nI t from hn]; exact nI_le (Nat.le_refl _) (by omega)) hc
                  | succ r ih =>
                    intro t ht
                    refine z_iload dX7_move_74 rfl rfl ?_
                    refine z_aload_n dX7_move_76 rfl rfl ?_
                    refine z_gi7 (j := 14) dX7_move_77 (by decide) fl_X7_144 rfl rfl rfl ?_
                    refine z_icmp_ge (tgt := 103) dX7_move_80 (by decide) rfl (fun hc => ?_) (fun hc => ?_)
                    · exact absurd hc (by rw [show fil M 113 0 t (M 107) 99 14 = nI n from hn]; exact nI_ge (by omega) (by omega))
                    · refine z_aload_n dX7_move_83 rfl rfl ?_
                      refine z_gr7 (j := 24) dX7_move_84 (by decide) fl_X7_61 rfl rfl rfl ?_
                      refine z_iload dX7_move_87 rfl rfl ?_
                      refine z_aload_n dX7_move_89 rfl rfl ?_
                      refine z_gr7 (j := 13) dX7_move_90 (by decide) fl_X7_36 rfl rfl rfl ?_
                      refine z_iload dX7_move_93 rfl rfl ?_
                      refine z_iald dX7_move_95 (by first | rfl | exact knd_h (by omega) | exact knd_s (by omega)) rfl (by omega) (by decide) rfl ?_
                      refine z_iast dX7_move_96 (by first | rfl | exact knd_h (by omega) | exact knd_s (by omega)) rfl (by omega) (by decide) rfl ?_
                      refine z_mem (N := fil M 113 0 (t + 1) (M 107)) (fil_s' rfl (by omega)) ?_
                      first | refine z_iu4 dX7_move_97 (Nat.le_of_ble_eq_true rfl) rfl ?_ | refine z_inc4 dX7_move_97 (Nat.le_of_ble_eq_true rfl) rfl rfl ?_
                      refine z_goto (tgt := 74) dX7_move_100 (by decide) ?_
                      exact ih (t + 1) (by omega)
                have fnd : ∀ (r t : Nat), t + r = p → Zz (zx l E mX7_move 1 (Rt (some (.int (nI p))) (mcu (fil M 113 0 n (M 107)) 107 (fun z => if z < n then mvN (M 107) (nI j) p i z else M 107 z)))) 0 0 55 [some (.ref 99), some (.int (nI j)), some (.int (nI i)), some (.int (nI t)), none, none] [] M := by
                  intro r
                  induction r with
                  | zero =>
                    intro t ht
                    have e : t = p := by omega
                    subst e
                    refine z_aload_n dX7_move_55 rfl rfl ?_
                    refine z_gr7 (j := 13) dX7_move_56 (by decide) fl_X7_36 rfl rfl rfl ?_
                    refine z_iload_n dX7_move_59 rfl rfl ?_
                    refine z_iald dX7_move_60 (by first | rfl | exact knd_h (by omega) | exact knd_s (by omega)) rfl (by omega) (by decide) rfl ?_
                    refine z_iload_n dX7_move_61 rfl rfl ?_
                    refine z_icmp_eq (tgt := 71) dX7_move_62 (by decide) rfl (fun hc => ?_) (fun hc => ?_)
                    · refine z_iconst (v := 0) dX7_move_71 (by decide) rfl ?_
                      refine z_ist4 dX7_move_72 (Nat.le_of_ble_eq_true rfl) rfl ?_
                      exact z_mem (N := fil M 113 0 0 (M 107)) fil_0.symm (cpy n 0 (by omega))
                    · exact absurd q2 hc
                  | succ r ih =>
                    intro t ht
                    refine z_aload_n dX7_move_55 rfl rfl ?_
                    refine z_gr7 (j := 13) dX7_move_56 (by decide) fl_X7_36 rfl rfl rfl ?_
                    refine z_iload_n dX7_move_59 rfl rfl ?_
                    refine z_iald dX7_move_60 (by first | rfl | exact knd_h (by omega) | exact knd_s (by omega)) rfl (by omega) (by decide) rfl ?_
                    refine z_iload_n dX7_move_61 rfl rfl ?_
                    refine z_icmp_eq (tgt := 71) dX7_move_62 (by decide) rfl (fun hc => ?_) (fun hc => ?_)
                    · exact absurd hc (q1 t (by omega))
                    · first | refine z_iu3 dX7_move_65 (Nat.le_of_ble_eq_true rfl) rfl ?_ | refine z_inc3 dX7_move_65 (Nat.le_of_ble_eq_true rfl) rfl rfl ?_
                      refine z_goto (tgt := 55) dX7_move_68 (by decide) ?_
                      exact ih (t + 1) (by omega)
                refine z_iconst (v := 0) dX7_move_53 (by decide) rfl ?_
                refine z_ist3 dX7_move_54 (Nat.le_of_ble_eq_true rfl) rfl ?_
                exact fnd p 0 (by omega)
              · exact absurd rfl h6
            · exact absurd (by rw [show mu M0 99 0 0 99 14 = nI n from hn0]; exact nI_lt hi (by omega)) h5
    · exact absurd h1 (by decide)
