/-! reading: what both sides do, over the bytes b 0 .. b (n - 1) -/
def adv (p : Nat → Bool) (n : Nat) : Nat → Nat → Nat
  | 0, a => a
  | f + 1, a => if a < n ∧ p a = true then adv p n f (a + 1) else a
def run (p : Nat → Bool) (n a : Nat) : Nat := adv p n (n - a) a
theorem run_stop {p : Nat → Bool} {n a : Nat} (h : ¬ (a < n ∧ p a = true)) : run p n a = a := by
  unfold run
  cases n - a with
  | zero => rfl
  | succ f => rw [adv, if_neg h]
theorem run_go {p : Nat → Bool} {n a : Nat} (h1 : a < n) (h2 : p a = true) : run p n a = run p n (a + 1) := by
  unfold run
  rw [show n - a = (n - (a + 1)) + 1 by omega, adv, if_pos ⟨h1, h2⟩]
theorem run_ind {p : Nat → Bool} {n : Nat} {Q : Nat → Prop} (h0 : ∀ a, ¬ (a < n ∧ p a = true) → Q a) (h1 : ∀ a, a < n → p a = true → Q (a + 1) → Q a) : ∀ a, Q a := by
  have key : ∀ f a, n - a ≤ f → Q a := by
    intro f
    induction f with
    | zero => intro a ha; exact h0 a (fun q => by omega)
    | succ f ih =>
      intro a ha
      by_cases q : a < n ∧ p a = true
      · exact h1 a q.1 q.2 (ih (a + 1) (by omega))
      · exact h0 a q
  exact fun a => key _ a (Nat.le_refl _)
theorem run_ge {p : Nat → Bool} {n : Nat} : ∀ a, a ≤ run p n a := run_ind (p := p) (n := n) (fun a h => by rw [run_stop h]; exact Nat.le_refl a) (fun a h1 h2 ih => by rw [run_go h1 h2]; omega)
theorem run_le {p : Nat → Bool} {n : Nat} : ∀ a, a ≤ n → run p n a ≤ n := run_ind (p := p) (n := n) (fun a h ha => by rw [run_stop h]; exact ha) (fun a h1 h2 ih _ => by rw [run_go h1 h2]; exact ih (by omega))
theorem run_end {p : Nat → Bool} {n : Nat} : ∀ a, ¬ (run p n a < n ∧ p (run p n a) = true) := run_ind (p := p) (n := n) (fun a h => by rw [run_stop h]; exact h) (fun a h1 h2 ih => by rw [run_go h1 h2]; exact ih)
theorem run_in {p : Nat → Bool} {n : Nat} : ∀ a i, a ≤ i → i < run p n a → i < n ∧ p i = true := run_ind (p := p) (n := n) (fun a h i h1 h2 => by rw [run_stop h] at h2; omega) (fun a h1 h2 ih i h3 h4 => by
  rw [run_go h1 h2] at h4
  by_cases e : i = a
  · subst e; exact ⟨h1, h2⟩
  · exact ih i (by omega) h4)
theorem run_idem {p : Nat → Bool} {n a : Nat} : run p n (run p n a) = run p n a := run_stop (run_end a)
/-- a run is where it stops -/
theorem run_eq {p : Nat → Bool} {n : Nat} : ∀ a e, a ≤ e → (∀ i, a ≤ i → i < e → i < n ∧ p i = true) → ¬ (e < n ∧ p e = true) → run p n a = e := run_ind (p := p) (n := n) (fun a h e h1 h2 h3 => by
  rw [run_stop h]
  rcases Nat.lt_or_ge a e with q | q
  · exact absurd (h2 a (Nat.le_refl a) q) h
  · omega) (fun a h1 h2 ih e h3 h4 h5 => by
  rw [run_go h1 h2]
  by_cases q : a = e
  · subst q; exact absurd ⟨h1, h2⟩ h5
  · exact ih e (by omega) (fun i h6 h7 => h4 i (by omega) h7) h5)
def isBl (b : Nat → Nat) : Nat → Bool := fun i => decide (b i = 32)
def isLe (b : Nat → Nat) : Nat → Bool := fun i => decide (97 ≤ b i ∧ b i ≤ 122)
def isDg (b : Nat → Nat) : Nat → Bool := fun i => decide (48 ≤ b i ∧ b i ≤ 57)
/-- the number that the digits from s to e - 1 write -/
def vaN (b : Nat → Nat) (s : Nat) : Nat → Nat
  | 0 => 0
  | k + 1 => vaN b s k * 10 + (b (s + k) - 48)
def numS (b : Nat → Nat) (n a lo h1 : Nat) : (Nat × Nat) ⊕ (Nat × Nat) :=
  if run (isDg b) n (run (isBl b) n a) = run (isBl b) n a then .inl (1, run (isBl b) n a)
  else if lo ≤ vaN b (run (isBl b) n a) (run (isDg b) n (run (isBl b) n a) - run (isBl b) n a) ∧ vaN b (run (isBl b) n a) (run (isDg b) n (run (isBl b) n a) - run (isBl b) n a) < h1 then .inr (run (isDg b) n (run (isBl b) n a), vaN b (run (isBl b) n a) (run (isDg b) n (run (isBl b) n a) - run (isBl b) n a))
  else .inl (2, run (isBl b) n a)
def sgnS (b : Nat → Nat) (n a c : Nat) : (Nat × Nat) ⊕ Nat := if run (isBl b) n a < n ∧ b (run (isBl b) n a) = c then .inr (run (isBl b) n a + 1) else .inl (1, run (isBl b) n a)
/-! the class's side -/
def TC (b : Nat → Nat) (n : Nat) (M : Mem) : Prop := M 1 4 = nI n ∧ n ≤ 200 ∧ ∀ i, i < n → M 7 i = nI (b i) ∧ b i < 256
/-- what a reading may change -/
def St5 (a b : Nat) : Prop := (a = 1 ∧ (b = 2 ∨ b = 5 ∨ b = 6 ∨ b = 7 ∨ b = 9)) ∨ a = 6
theorem TC.keep {b : Nat → Nat} {n : Nat} {M N : Mem} (h : TC b n M) (hE : Eqx St5 M N) : TC b n N := ⟨by rw [hE 1 4 (by unfold St5; omega)]; exact h.1, h.2.1, fun i hi => by rw [hE 7 i (by unfold St5; omega)]; exact h.2.2 i hi⟩
set_option maxHeartbeats 4000000 in
theorem c_X3_skipBlanks {l : Launch} {E : EnT} (hst : l.stackTraces = false) (M : Mem) (b : Nat → Nat) (n a : Nat) (hT : TC b n M) (ha : M 1 5 = nI a) (han : a ≤ n) : Mm l E mX3_skipBlanks 0 0 0 [.ref 1] M (Rt none (mu M 1 5 (nI (run (isBl b) n a)))) := by
  obtain ⟨t1, t2, t3⟩ := hT
  refine Mm_go hst (by decide) rfl (Nat.le_of_ble_eq_true rfl) [some (.ref 1)] rfl ?_
  have key : ∀ x, ∀ (N : Mem), x ≤ n → N = mu M 1 5 (nI x) → run (isBl b) n x = run (isBl b) n a → Zz (zx l E mX3_skipBlanks 0 (Rt none (mu M 1 5 (nI (run (isBl b) n a))))) 0 0 0 [some (.ref 1)] [] N := by
    refine run_ind (p := isBl b) (n := n) ?_ ?_
    · intro x hx N hxn hN hr
      have n4 : N 1 4 = nI n := by rw [hN]; exact t1
      have n5 : N 1 5 = nI x := by rw [hN]; rfl
      rw [run_stop hx] at hr
      refine z_aload_n dX3_skipBlanks_0 rfl rfl ?_
      refine z_gi3 (j := 5) dX3_skipBlanks_1 (by decide) fl_X3_39 rfl rfl rfl ?_
      refine z_aload_n dX3_skipBlanks_4 rfl rfl ?_
      refine z_gi3 (j := 4) dX3_skipBlanks_5 (by decide) fl_X3_36 rfl rfl rfl ?_
      refine z_icmp_ge (tgt := 38) dX3_skipBlanks_8 (by decide) rfl (fun h1 => ?_) (fun h1 => ?_)
      · exact z_return dX3_skipBlanks_38 rfl ⟨rfl, by rw [hN, hr]⟩ (Nat.le_of_ble_eq_true rfl) (Nat.le_of_ble_eq_true rfl)
      · rw [n4, n5] at h1
        have hlt := nle_nn h1 (by omega) (by omega)
        have n7 : N 7 x = nI (b x) := by rw [hN]; exact (t3 x hlt).1
        have := (t3 x hlt).2
        refine z_aload_n dX3_skipBlanks_11 rfl rfl ?_
        refine z_gr3 (j := 3) dX3_skipBlanks_12 (by decide) fl_X3_25 rfl rfl rfl ?_
        refine z_aload_n dX3_skipBlanks_15 rfl rfl ?_
        refine z_gi3 (j := 5) dX3_skipBlanks_16 (by decide) fl_X3_39 rfl rfl rfl ?_
        refine z_iald dX3_skipBlanks_19 (by first | rfl | exact knd_h (by omega) | exact knd_s (by omega)) n5 (by omega) (by decide) rfl ?_
        refine z_tp (b := (nI (b x))) n7 ?_
        refine z_bipush (v := 32) dX3_skipBlanks_20 (by decide) rfl ?_
        refine z_icmp_ne (tgt := 38) dX3_skipBlanks_22 (by decide) rfl (fun h2 => ?_) (fun h2 => ?_)
        · exact z_return dX3_skipBlanks_38 rfl ⟨rfl, by rw [hN, hr]⟩ (Nat.le_of_ble_eq_true rfl) (Nat.le_of_ble_eq_true rfl)
        · have q : b x = 32 := (nI_eq (by omega) (by decide)).mp h2
          exact absurd ⟨hlt, decide_eq_true q⟩ hx
    · intro x h1 h2 ih N hxn hN hr
      have n4 : N 1 4 = nI n := by rw [hN]; exact t1
      have n5 : N 1 5 = nI x := by rw [hN]; rfl
      rw [run_go h1 h2] at hr
      have q : b x = 32 := of_decide_eq_true h2
      refine z_aload_n dX3_skipBlanks_0 rfl rfl ?_
      refine z_gi3 (j := 5) dX3_skipBlanks_1 (by decide) fl_X3_39 rfl rfl rfl ?_
      refine z_aload_n dX3_skipBlanks_4 rfl rfl ?_
      refine z_gi3 (j := 4) dX3_skipBlanks_5 (by decide) fl_X3_36 rfl rfl rfl ?_
      refine z_icmp_ge (tgt := 38) dX3_skipBlanks_8 (by decide) rfl (fun h3 => ?_) (fun h3 => ?_)
      · rw [n4, n5] at h3
        exact absurd (le_nn h3 (by omega) (by omega)) (by omega)
      · have n7 : N 7 x = nI (b x) := by rw [hN]; exact (t3 x h1).1
        refine z_aload_n dX3_skipBlanks_11 rfl rfl ?_
        refine z_gr3 (j := 3) dX3_skipBlanks_12 (by decide) fl_X3_25 rfl rfl rfl ?_
        refine z_aload_n dX3_skipBlanks_15 rfl rfl ?_
        refine z_gi3 (j := 5) dX3_skipBlanks_16 (by decide) fl_X3_39 rfl rfl rfl ?_
        refine z_iald dX3_skipBlanks_19 (by first | rfl | exact knd_h (by omega) | exact knd_s (by omega)) n5 (by omega) (by decide) rfl ?_
        refine z_tp (b := (nI (b x))) n7 ?_
        refine z_bipush (v := 32) dX3_skipBlanks_20 (by decide) rfl ?_
        refine z_icmp_ne (tgt := 38) dX3_skipBlanks_22 (by decide) rfl (fun h4 => ?_) (fun h4 => ?_)
        · exact absurd (by rw [q]; rfl) h4
        · refine z_aload_n dX3_skipBlanks_25 rfl rfl ?_
          refine z_dup dX3_skipBlanks_26 rfl rfl ?_
          refine z_gi3 (j := 5) dX3_skipBlanks_27 (by decide) fl_X3_39 rfl rfl rfl ?_
          refine z_iconst (v := 1) dX3_skipBlanks_30 (by decide) rfl ?_
          refine z_iadd dX3_skipBlanks_31 rfl ?_
          refine z_pi3 (j := 5) dX3_skipBlanks_32 (by decide) fl_X3_39 rfl rfl rfl rfl rfl ?_
          refine z_goto (tgt := 0) dX3_skipBlanks_35 (by decide) ?_
          exact ih _ (by omega) (by rw [n5, hN, mu_mu, nI_1]) hr
  exact key a M han (mu_self ha).symm rfl
set_option maxHeartbeats 4000000 in
theorem c_X3_skipWord {l : Launch} {E : EnT} (hst : l.stackTraces = false) (M : Mem) (b : Nat → Nat) (n a : Nat) (hT : TC b n M) (ha : M 1 5 = nI a) (han : a ≤ n) : Mm l E mX3_skipWord 0 0 0 [.ref 1] M (Rt none (mu M 1 5 (nI (run (isLe b) n a)))) := by
  obtain ⟨t1, t2, t3⟩ := hT
  refine Mm_go hst (by decide) rfl (Nat.le_of_ble_eq_true rfl) [some (.ref 1)] rfl ?_
  have key : ∀ x, ∀ (N : Mem), x ≤ n → N = mu M 1 5 (nI x) → run (isLe b) n x = run (isLe b) n a → Zz (zx l E mX3_skipWord 0 (Rt none (mu M 1 5 (nI (run (isLe b) n a))))) 0 0 0 [some (.ref 1)] [] N := by
    refine run_ind (p := isLe b) (n := n) ?_ ?_
    · intro x hx N hxn hN hr
      have n4 : N 1 4 = nI n := by rw [hN]; exact t1
      have n5 : N 1 5 = nI x := by rw [hN]; rfl
      rw [run_stop hx] at hr
      refine z_aload_n dX3_skipWord_0 rfl rfl ?_
      refine z_gi3 (j := 5) dX3_skipWord_1 (by decide) fl_X3_39 rfl rfl rfl ?_
      refine z_aload_n dX3_skipWord_4 rfl rfl ?_
      refine z_gi3 (j := 4) dX3_skipWord_5 (by decide) fl_X3_36 rfl rfl rfl ?_
      refine z_icmp_ge (tgt := 52) dX3_skipWord_8 (by decide) rfl (fun h1 => ?_) (fun h1 => ?_)
      · exact z_return dX3_skipWord_52 rfl ⟨rfl, by rw [hN, hr]⟩ (Nat.le_of_ble_eq_true rfl) (Nat.le_of_ble_eq_true rfl)
      · rw [n4, n5] at h1
        have hlt := nle_nn h1 (by omega) (by omega)
        have n7 : N 7 x = nI (b x) := by rw [hN]; exact (t3 x hlt).1
        have := (t3 x hlt).2
        refine z_aload_n dX3_skipWord_11 rfl rfl ?_
        refine z_gr3 (j := 3) dX3_skipWord_12 (by decide) fl_X3_25 rfl rfl rfl ?_
        refine z_aload_n dX3_skipWord_15 rfl rfl ?_
        refine z_gi3 (j := 5) dX3_skipWord_16 (by decide) fl_X3_39 rfl rfl rfl ?_
        refine z_iald dX3_skipWord_19 (by first | rfl | exact knd_h (by omega) | exact knd_s (by omega)) n5 (by omega) (by decide) rfl ?_
        refine z_tp (b := (nI (b x))) n7 ?_
        refine z_bipush (v := 97) dX3_skipWord_20 (by decide) rfl ?_
        refine z_icmp_lt (tgt := 52) dX3_skipWord_22 (by decide) rfl (fun h2 => ?_) (fun h2 => ?_)
        · exact z_return dX3_skipWord_52 rfl ⟨rfl, by rw [hN, hr]⟩ (Nat.le_of_ble_eq_true rfl) (Nat.le_of_ble_eq_true rfl)
        · have q1 := nlt_nn (a := b x) (b := 97) h2 (by omega) (by decide)
          refine z_aload_n dX3_skipWord_25 rfl rfl ?_
          refine z_gr3 (j := 3) dX3_skipWord_26 (by decide) fl_X3_25 rfl rfl rfl ?_
          refine z_aload_n dX3_skipWord_29 rfl rfl ?_
          refine z_gi3 (j := 5) dX3_skipWord_30 (by decide) fl_X3_39 rfl rfl rfl ?_
          refine z_iald dX3_skipWord_33 (by first | rfl | exact knd_h (by omega) | exact knd_s (by omega)) n5 (by omega) (by decide) rfl ?_
          refine z_tp (b := (nI (b x))) n7 ?_
          refine z_bipush (v := 122) dX3_skipWord_34 (by decide) rfl ?_
          refine z_icmp_gt (tgt := 52) dX3_skipWord_36 (by decide) rfl (fun h3 => ?_) (fun h3 => ?_)
          · exact z_return dX3_skipWord_52 rfl ⟨rfl, by rw [hN, hr]⟩ (Nat.le_of_ble_eq_true rfl) (Nat.le_of_ble_eq_true rfl)
          · have q2 := nlt_nn (a := 122) (b := b x) h3 (by decide) (by omega)
            exact absurd ⟨hlt, decide_eq_true ⟨q1, q2⟩⟩ hx
    · intro x h1 h2 ih N hxn hN hr
      have n4 : N 1 4 = nI n := by rw [hN]; exact t1
      have n5 : N 1 5 = nI x := by rw [hN]; rfl
      rw [run_go h1 h2] at hr
      obtain ⟨q1, q2⟩ : 97 ≤ b x ∧ b x ≤ 122 := of_decide_eq_true h2
      refine z_aload_n dX3_skipWord_0 rfl rfl ?_
      refine z_gi3 (j := 5) dX3_skipWord_1 (by decide) fl_X3_39 rfl rfl rfl ?_
      refine z_aload_n dX3_skipWord_4 rfl rfl ?_
      refine z_gi3 (j := 4) dX3_skipWord_5 (by decide) fl_X3_36 rfl rfl rfl ?_
      refine z_icmp_ge (tgt := 52) dX3_skipWord_8 (by decide) rfl (fun h3 => ?_) (fun h3 => ?_)
      · rw [n4, n5] at h3
        exact absurd (le_nn h3 (by omega) (by omega)) (by omega)
      · have n7 : N 7 x = nI (b x) := by rw [hN]; exact (t3 x h1).1
        refine z_aload_n dX3_skipWord_11 rfl rfl ?_
        refine z_gr3 (j := 3) dX3_skipWord_12 (by decide) fl_X3_25 rfl rfl rfl ?_
        refine z_aload_n dX3_skipWord_15 rfl rfl ?_
        refine z_gi3 (j := 5) dX3_skipWord_16 (by decide) fl_X3_39 rfl rfl rfl ?_
        refine z_iald dX3_skipWord_19 (by first | rfl | exact knd_h (by omega) | exact knd_s (by omega)) n5 (by omega) (by decide) rfl ?_
        refine z_tp (b := (nI (b x))) n7 ?_
        refine z_bipush (v := 97) dX3_skipWord_20 (by decide) rfl ?_
        refine z_icmp_lt (tgt := 52) dX3_skipWord_22 (by decide) rfl (fun h4 => ?_) (fun h4 => ?_)
        · exact absurd (lt_nn (a := b x) (b := 97) h4 (by omega) (by decide)) (by omega)
        · refine z_aload_n dX3_skipWord_25 rfl rfl ?_
          refine z_gr3 (j := 3) dX3_skipWord_26 (by decide) fl_X3_25 rfl rfl rfl ?_
          refine z_aload_n dX3_skipWord_29 rfl rfl ?_
          refine z_gi3 (j := 5) dX3_skipWord_30 (by decide) fl_X3_39 rfl rfl rfl ?_
          refine z_iald dX3_skipWord_33 (by first | rfl | exact knd_h (by omega) | exact knd_s (by omega)) n5 (by omega) (by decide) rfl ?_
          refine z_tp (b := (nI (b x))) n7 ?_
          refine z_bipush (v := 122) dX3_skipWord_34 (by decide) rfl ?_
          refine z_icmp_gt (tgt := 52) dX3_skipWord_36 (by decide) rfl (fun h5 => ?_) (fun h5 => ?_)
          · exact absurd (lt_nn (a := 122) (b := b x) h5 (by decide) (by omega)) (by omega)
          · refine z_aload_n dX3_skipWord_39 rfl rfl ?_
            refine z_dup dX3_skipWord_40 rfl rfl ?_
            refine z_gi3 (j := 5) dX3_skipWord_41 (by decide) fl_X3_39 rfl rfl rfl ?_
            refine z_iconst (v := 1) dX3_skipWord_44 (by decide) rfl ?_
            refine z_iadd dX3_skipWord_45 rfl ?_
            refine z_pi3 (j := 5) dX3_skipWord_46 (by decide) fl_X3_39 rfl rfl rfl rfl rfl ?_
            refine z_goto (tgt := 0) dX3_skipWord_49 (by decide) ?_
            exact ih _ (by omega) (by rw [n5, hN, mu_mu, nI_1]) hr
  exact key a M han (mu_self ha).symm rfl
set_option maxHeartbeats 4000000 in
theorem c_X3_isDigitHere {l : Launch} {E : EnT} (hst : l.stackTraces = false) (M : Mem) (b : Nat → Nat) (n a : Nat) (hT : TC b n M) (ha : M 1 5 = nI a) (han : a ≤ n) : Mm l E mX3_isDigitHere 0 0 0 [.ref 1] M (Rt (some (.int (bI (decide (a < n) && isDg b a)))) M) := by
  obtain ⟨t1, t2, t3⟩ := hT
  refine Mm_go hst (by decide) rfl (Nat.le_of_ble_eq_true rfl) [some (.ref 1)] rfl ?_
  refine z_aload_n dX3_isDigitHere_0 rfl rfl ?_
  refine z_gi3 (j := 5) dX3_isDigitHere_1 (by decide) fl_X3_39 rfl rfl rfl ?_
  refine z_aload_n dX3_isDigitHere_4 rfl rfl ?_
  refine z_gi3 (j := 4) dX3_isDigitHere_5 (by decide) fl_X3_36 rfl rfl rfl ?_
  refine z_icmp_ge (tgt := 43) dX3_isDigitHere_8 (by decide) rfl (fun h1 => ?_) (fun h1 => ?_)
  · rw [t1, ha] at h1
    have := le_nn h1 (by omega) (by omega)
    rw [decide_eq_false (show ¬ a < n by omega)]
    refine z_iconst (v := 0) dX3_isDigitHere_43 (by decide) rfl ?_
    exact z_zreturn dX3_isDigitHere_44 rfl rfl ⟨rfl, rfl⟩ (Nat.le_of_ble_eq_true rfl) (Nat.le_of_ble_eq_true rfl)
  · rw [t1, ha] at h1
    have hlt := nle_nn h1 (by omega) (by omega)
    obtain ⟨n7, n8⟩ := t3 a hlt
    rw [decide_eq_true hlt]
    refine z_aload_n dX3_isDigitHere_11 rfl rfl ?_
    refine z_gr3 (j := 3) dX3_isDigitHere_12 (by decide) fl_X3_25 rfl rfl rfl ?_
    refine z_aload_n dX3_isDigitHere_15 rfl rfl ?_
    refine z_gi3 (j := 5) dX3_isDigitHere_16 (by decide) fl_X3_39 rfl rfl rfl ?_
    refine z_iald dX3_isDigitHere_19 (by first | rfl | exact knd_h (by omega) | exact knd_s (by omega)) ha (by omega) (by decide) rfl ?_
    refine z_tp (b := (nI (b a))) n7 ?_
    refine z_bipush (v := 48) dX3_isDigitHere_20 (by decide) rfl ?_
    refine z_icmp_lt (tgt := 43) dX3_isDigitHere_22 (by decide) rfl (fun h2 => ?_) (fun h2 => ?_)
    · have := lt_nn (a := b a) (b := 48) h2 (by omega) (by decide)
      rw [show isDg b a = false from decide_eq_false (by omega)]
      refine z_iconst (v := 0) dX3_isDigitHere_43 (by decide) rfl ?_
      exact z_zreturn dX3_isDigitHere_44 rfl rfl ⟨rfl, rfl⟩ (Nat.le_of_ble_eq_true rfl) (Nat.le_of_ble_eq_true rfl)
    · have := nlt_nn (a := b a) (b := 48) h2 (by omega) (by decide)
      refine z_aload_n dX3_isDigitHere_25 rfl rfl ?_
      refine z_gr3 (j := 3) dX3_isDigitHere_26 (by decide) fl_X3_25 rfl rfl rfl ?_
      refine z_aload_n dX3_isDigitHere_29 rfl rfl ?_
      refine z_gi3 (j := 5) dX3_isDigitHere_30 (by decide) fl_X3_39 rfl rfl rfl ?_
      refine z_iald dX3_isDigitHere_33 (by first | rfl | exact knd_h (by omega) | exact knd_s (by omega)) ha (by omega) (by decide) rfl ?_
      refine z_tp (b := (nI (b a))) n7 ?_
      refine z_bipush (v := 57) dX3_isDigitHere_34 (by decide) rfl ?_
      refine z_icmp_gt (tgt := 43) dX3_isDigitHere_36 (by decide) rfl (fun h3 => ?_) (fun h3 => ?_)
      · have := lt_nn (a := 57) (b := b a) h3 (by decide) (by omega)
        rw [show isDg b a = false from decide_eq_false (by omega)]
        refine z_iconst (v := 0) dX3_isDigitHere_43 (by decide) rfl ?_
        exact z_zreturn dX3_isDigitHere_44 rfl rfl ⟨rfl, rfl⟩ (Nat.le_of_ble_eq_true rfl) (Nat.le_of_ble_eq_true rfl)
      · have := nlt_nn (a := 57) (b := b a) h3 (by decide) (by omega)
        rw [show isDg b a = true from decide_eq_true (by omega)]
        refine z_iconst (v := 1) dX3_isDigitHere_39 (by decide) rfl ?_
        refine z_goto (tgt := 44) dX3_isDigitHere_40 (by decide) ?_
        exact z_zreturn dX3_isDigitHere_44 rfl rfl ⟨rfl, rfl⟩ (Nat.le_of_ble_eq_true rfl) (Nat.le_of_ble_eq_true rfl)
set_option maxHeartbeats 4000000 in
theorem c_X3_refuse {l : Launch} {E : EnT} (hst : l.stackTraces = false) (M : Mem) (k w : Int32) : Mm l E mX3_refuse 0 0 0 [.ref 1, .int k, .int w] M (Rt (some (.int 0)) (mu (mu M 1 9 k) 1 2 w)) := by
  refine Mm_go hst (by decide) rfl (Nat.le_of_ble_eq_true rfl) [some (.ref 1), some (.int k), some (.int w)] rfl ?_
  refine z_aload_n dX3_refuse_0 rfl rfl ?_
  refine z_iload_n dX3_refuse_1 rfl rfl ?_
  refine z_pi3 (j := 9) dX3_refuse_2 (by decide) fl_X3_42 rfl rfl rfl rfl rfl ?_
  refine z_aload_n dX3_refuse_5 rfl rfl ?_
  refine z_iload_n dX3_refuse_6 rfl rfl ?_
  refine z_pi3 (j := 2) dX3_refuse_7 (by decide) fl_X3_22 rfl rfl rfl rfl rfl ?_
  refine z_iconst (v := 0) dX3_refuse_10 (by decide) rfl ?_
  exact z_zreturn dX3_refuse_11 rfl rfl ⟨rfl, rfl⟩ (Nat.le_of_ble_eq_true rfl) (Nat.le_of_ble_eq_true rfl)
set_option maxHeartbeats 4000000 in
theorem c_X3_isRead {l : Launch} {E : EnT} (hst : l.stackTraces = false) (M : Mem) (c : Nat) (hc : c < 32) : Mm l E mX3_isRead 0 0 0 [.ref 1, .int (nI c)] M (Rt (some (.int (bI (bt (M 1 7) c)))) M) := by
  have A : (M 1 7 &&& ((1 : Int32) <<< (nI c &&& 31)) = 0) ↔ bt (M 1 7) c = false := by
    rw [b_eq0]
    constructor
    · intro h
      have := h c hc
      rw [b_and, b_one c hc c hc] at this
      simpa using this
    · intro h i hi
      rw [b_and, b_one c hc i hi]
      by_cases hio : i = c
      · subst hio; simp [h]
      · simp [hio]
  refine Mm_go hst (by decide) rfl (Nat.le_of_ble_eq_true rfl) [some (.ref 1), some (.int (nI c))] rfl ?_
  refine z_aload_n dX3_isRead_0 rfl rfl ?_
  refine z_gi3 (j := 7) dX3_isRead_1 (by decide) fl_X3_57 rfl rfl rfl ?_
  refine z_iconst (v := 1) dX3_isRead_4 (by decide) rfl ?_
  refine z_iload_n dX3_isRead_5 rfl rfl ?_
  refine z_ishl dX3_isRead_6 rfl ?_
  refine z_iand dX3_isRead_7 rfl ?_
  refine z_if_eq (tgt := 15) dX3_isRead_8 (by decide) rfl (fun h1 => ?_) (fun h1 => ?_)
  · rw [A.mp h1]
    refine z_iconst (v := 0) dX3_isRead_15 (by decide) rfl ?_
    exact z_zreturn dX3_isRead_16 rfl rfl ⟨rfl, rfl⟩ (Nat.le_of_ble_eq_true rfl) (Nat.le_of_ble_eq_true rfl)
  · have : bt (M 1 7) c = true := by
      cases h : bt (M 1 7) c
      · exact absurd (A.mpr h) h1
      · rfl
    rw [this]
    refine z_iconst (v := 1) dX3_isRead_11 (by decide) rfl ?_
    refine z_goto (tgt := 16) dX3_isRead_12 (by decide) ?_
    exact z_zreturn dX3_isRead_16 rfl rfl ⟨rfl, rfl⟩ (Nat.le_of_ble_eq_true rfl) (Nat.le_of_ble_eq_true rfl)
set_option maxHeartbeats 4000000 in
theorem c_X3_isNumberNext {l : Launch} {E : EnT} (hst : l.stackTraces = false) (M : Mem) (b : Nat → Nat) (n a : Nat) (hT : TC b n M) (ha : M 1 5 = nI a) (han : a ≤ n) : Mm l E mX3_isNumberNext 1 0 0 [.ref 1] M (Rt (some (.int (bI (decide (run (isBl b) n a < n) && isDg b (run (isBl b) n a))))) (mu M 1 5 (nI (run (isBl b) n a)))) := by
  refine Mm_go hst (by decide) rfl (Nat.le_of_ble_eq_true rfl) [some (.ref 1)] rfl ?_
  refine z_aload_n dX3_isNumberNext_0 rfl rfl ?_
  refine z_cn0 (ci := 3) (nf := 10) (y := mX3_skipBlanks) dX3_isNumberNext_1 ml_X3_33 iv_X3_skipBlanks (Nat.le_of_ble_eq_true rfl) rfl (by decide) rfl (Nat.le_of_ble_eq_true rfl) (Nat.le_of_ble_eq_true rfl) (Nat.le_of_ble_eq_true rfl) (c_X3_skipBlanks hst M b n a hT ha han) rfl ?_
  refine z_aload_n dX3_isNumberNext_4 rfl rfl ?_
  refine z_cv0 (ci := 3) (nf := 10) (y := mX3_isDigitHere) dX3_isNumberNext_5 ml_X3_142 iv_X3_isDigitHere (Nat.le_of_ble_eq_true rfl) rfl (by decide) rfl (Nat.le_of_ble_eq_true rfl) (Nat.le_of_ble_eq_true rfl) (Nat.le_of_ble_eq_true rfl) (c_X3_isDigitHere hst (mu M 1 5 (nI (run (isBl b) n a))) b n (run (isBl b) n a) (hT.keep (Eqx.rf.mu (by unfold St5; omega))) rfl (run_le a han)) rfl ?_
  cases (decide (run (isBl b) n a < n) && isDg b (run (isBl b) n a)) with
  | false =>
    exact z_zreturn dX3_isNumberNext_8 rfl rfl ⟨rfl, rfl⟩ (Nat.le_of_ble_eq_true rfl) (Nat.le_of_ble_eq_true rfl)
  | true =>
    exact z_zreturn dX3_isNumberNext_8 rfl rfl ⟨rfl, rfl⟩ (Nat.le_of_ble_eq_true rfl) (Nat.le_of_ble_eq_true rfl)
