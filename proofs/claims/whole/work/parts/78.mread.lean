/-! reading, the reference's side -/
def TM (b : Nat → Nat) (n : Nat) (M : Mem) : Prop := M 99 3 = nI n ∧ n ≤ 200 ∧ ∀ i, i < n → M 100 i &&& 255 = nI (b i) ∧ b i < 256
def bA (b : Nat → Nat) (n i : Nat) : Nat := if i < n then b i else 0
def Sw5 (wn a b : Nat) : Prop := (a = 99 ∧ (b = 4 ∨ b = 5 ∨ b = 6)) ∨ (101 ≤ a ∧ a ≤ 106 ∧ b = wn) ∨ a = 108
theorem TM.keep {b : Nat → Nat} {n wn : Nat} {M N : Mem} (h : TM b n M) (hE : Eqx (Sw5 wn) M N) : TM b n N := ⟨by rw [hE 99 3 (by unfold Sw5; omega)]; exact h.1, h.2.1, fun i hi => by rw [hE 100 i (by unfold Sw5; omega)]; exact h.2.2 i hi⟩
set_option maxHeartbeats 4000000 in
theorem c_X7_byteAt {l : Launch} {E : EnT} (hst : l.stackTraces = false) (M : Mem) (b : Nat → Nat) (n i : Nat) (hT : TM b n M) (hi : i < 2 ^ 31) : Mm l E mX7_byteAt 0 0 0 [.ref 99, .int (nI i)] M (Rt (some (.int (nI (bA b n i)))) M) := by
  obtain ⟨t1, t2, t3⟩ := hT
  unfold bA
  refine Mm_go hst (by decide) rfl (Nat.le_of_ble_eq_true rfl) [some (.ref 99), some (.int (nI i))] rfl ?_
  refine z_iload_n dX7_byteAt_0 rfl rfl ?_
  refine z_aload_n dX7_byteAt_1 rfl rfl ?_
  refine z_gi7 (j := 3) dX7_byteAt_2 (by decide) fl_X7_85 rfl rfl rfl ?_
  refine z_icmp_ge (tgt := 21) dX7_byteAt_5 (by decide) rfl (fun g => ?_) (fun g => ?_)
  · rw [t1] at g
    have := le_nn g (by omega) hi
    rw [if_neg (by omega)]
    refine z_iconst (v := 0) dX7_byteAt_21 (by decide) rfl ?_
    exact z_ireturn dX7_byteAt_22 rfl ⟨rfl, rfl⟩ (Nat.le_of_ble_eq_true rfl) (Nat.le_of_ble_eq_true rfl)
  · rw [t1] at g
    have hlt := nle_nn g (by omega) hi
    rw [if_pos hlt]
    refine z_aload_n dX7_byteAt_8 rfl rfl ?_
    refine z_gr7 (j := 1) dX7_byteAt_9 (by decide) fl_X7_7 rfl rfl rfl ?_
    refine z_iload_n dX7_byteAt_12 rfl rfl ?_
    refine z_bald dX7_byteAt_13 rfl rfl (by omega) (by decide) rfl ?_
    refine z_sipush (v := 255) dX7_byteAt_14 (by decide) rfl ?_
    refine z_iand dX7_byteAt_17 rfl ?_
    refine z_tp (b := (nI (b i))) (t3 i hlt).1 ?_
    refine z_goto (tgt := 22) dX7_byteAt_18 (by decide) ?_
    exact z_ireturn dX7_byteAt_22 rfl ⟨rfl, rfl⟩ (Nat.le_of_ble_eq_true rfl) (Nat.le_of_ble_eq_true rfl)
set_option maxHeartbeats 4000000 in
theorem c_X7_isDigit {l : Launch} {E : EnT} (hst : l.stackTraces = false) (M : Mem) (c : Nat) (hc : c < 256) : Mm l E mX7_isDigit 0 0 0 [.int (nI c)] M (Rt (some (.int (bI (decide (48 ≤ c ∧ c ≤ 57))))) M) := by
  refine Mm_go hst (by decide) rfl (Nat.le_of_ble_eq_true rfl) [some (.int (nI c))] rfl ?_
  refine z_iload_n dX7_isDigit_0 rfl rfl ?_
  refine z_bipush (v := 48) dX7_isDigit_1 (by decide) rfl ?_
  refine z_icmp_lt (tgt := 16) dX7_isDigit_3 (by decide) rfl (fun g => ?_) (fun g => ?_)
  · have := lt_nn (b := 48) g (by omega) (by decide)
    rw [decide_eq_false (by omega)]
    refine z_iconst (v := 0) dX7_isDigit_16 (by decide) rfl ?_
    exact z_zreturn dX7_isDigit_17 rfl rfl ⟨rfl, rfl⟩ (Nat.le_of_ble_eq_true rfl) (Nat.le_of_ble_eq_true rfl)
  · have := nlt_nn (b := 48) g (by omega) (by decide)
    refine z_iload_n dX7_isDigit_6 rfl rfl ?_
    refine z_bipush (v := 57) dX7_isDigit_7 (by decide) rfl ?_
    refine z_icmp_gt (tgt := 16) dX7_isDigit_9 (by decide) rfl (fun g1 => ?_) (fun g1 => ?_)
    · have := lt_nn (a := 57) g1 (by decide) (by omega)
      rw [decide_eq_false (by omega)]
      refine z_iconst (v := 0) dX7_isDigit_16 (by decide) rfl ?_
      exact z_zreturn dX7_isDigit_17 rfl rfl ⟨rfl, rfl⟩ (Nat.le_of_ble_eq_true rfl) (Nat.le_of_ble_eq_true rfl)
    · have := nlt_nn (a := 57) g1 (by decide) (by omega)
      rw [decide_eq_true (by omega)]
      refine z_iconst (v := 1) dX7_isDigit_12 (by decide) rfl ?_
      refine z_goto (tgt := 17) dX7_isDigit_13 (by decide) ?_
      exact z_zreturn dX7_isDigit_17 rfl rfl ⟨rfl, rfl⟩ (Nat.le_of_ble_eq_true rfl) (Nat.le_of_ble_eq_true rfl)
set_option maxHeartbeats 4000000 in
theorem c_X7_wrong0 {l : Launch} {E : EnT} (hst : l.stackTraces = false) (M : Mem) (k p : Int32) (h : M 99 5 = 0) : Mm l E mX7_wrong 0 0 0 [.ref 99, .int k, .int p] M (Rt none (mu (mu M 99 5 k) 99 6 p)) := by
  refine Mm_go hst (by decide) rfl (Nat.le_of_ble_eq_true rfl) [some (.ref 99), some (.int k), some (.int p)] rfl ?_
  refine z_aload_n dX7_wrong_0 rfl rfl ?_
  refine z_gi7 (j := 5) dX7_wrong_1 (by decide) fl_X7_95 rfl rfl rfl ?_
  refine z_if_le (tgt := 8) dX7_wrong_4 (by decide) rfl (fun g => ?_) (fun g => ?_)
  · refine z_aload_n dX7_wrong_8 rfl rfl ?_
    refine z_iload_n dX7_wrong_9 rfl rfl ?_
    refine z_pi7 (j := 5) dX7_wrong_10 (by decide) fl_X7_95 rfl rfl rfl rfl rfl ?_
    refine z_aload_n dX7_wrong_13 rfl rfl ?_
    refine z_iload_n dX7_wrong_14 rfl rfl ?_
    refine z_pi7 (j := 6) dX7_wrong_15 (by decide) fl_X7_13 rfl rfl rfl rfl rfl ?_
    exact z_return dX7_wrong_18 rfl ⟨rfl, rfl⟩ (Nat.le_of_ble_eq_true rfl) (Nat.le_of_ble_eq_true rfl)
  · exact absurd (by rw [h]; decide) g
set_option maxHeartbeats 4000000 in
theorem c_X7_wrong1 {l : Launch} {E : EnT} (hst : l.stackTraces = false) (M : Mem) (k p : Int32) (f : Nat) (h : M 99 5 = nI f) (hf : 0 < f) (hf3 : f ≤ 3) : Mm l E mX7_wrong 0 0 0 [.ref 99, .int k, .int p] M (Rt none M) := by
  refine Mm_go hst (by decide) rfl (Nat.le_of_ble_eq_true rfl) [some (.ref 99), some (.int k), some (.int p)] rfl ?_
  refine z_aload_n dX7_wrong_0 rfl rfl ?_
  refine z_gi7 (j := 5) dX7_wrong_1 (by decide) fl_X7_95 rfl rfl rfl ?_
  refine z_if_le (tgt := 8) dX7_wrong_4 (by decide) rfl (fun g => ?_) (fun g => ?_)
  · rw [h] at g
    exact absurd (le_nn (b := 0) g (by omega) (by decide)) (by omega)
  · exact z_return dX7_wrong_7 rfl ⟨rfl, rfl⟩ (Nat.le_of_ble_eq_true rfl) (Nat.le_of_ble_eq_true rfl)
set_option maxHeartbeats 4000000 in
theorem c_X7_blanks {l : Launch} {E : EnT} (hst : l.stackTraces = false) (M : Mem) (b : Nat → Nat) (n a : Nat) (hT : TM b n M) (ha : M 99 4 = nI a) (han : a ≤ n) : Mm l E mX7_blanks 1 0 0 [.ref 99] M (Rt none (mu M 99 4 (nI (run (isBl b) n a)))) := by
  have h200 := hT.2.1
  refine Mm_go hst (by decide) rfl (Nat.le_of_ble_eq_true rfl) [some (.ref 99)] rfl ?_
  have key : ∀ x, ∀ (N : Mem), x ≤ n → N = mu M 99 4 (nI x) → run (isBl b) n x = run (isBl b) n a → Zz (zx l E mX7_blanks 1 (Rt none (mu M 99 4 (nI (run (isBl b) n a))))) 0 0 0 [some (.ref 99)] [] N := by
    refine run_ind (p := isBl b) (n := n) ?_ ?_
    · intro x hx N hxn hN hr
      have hTN : TM b n N := by rw [hN]; exact hT.keep (wn := 0) (Eqx.rf.mu (by unfold Sw5; omega))
      have n5 : N 99 4 = nI x := by rw [hN]; rfl
      rw [run_stop hx] at hr
      refine z_aload_n dX7_blanks_0 rfl rfl ?_
      refine z_gi7 (j := 4) dX7_blanks_1 (by decide) fl_X7_88 rfl rfl rfl ?_
      refine z_aload_n dX7_blanks_4 rfl rfl ?_
      refine z_gi7 (j := 3) dX7_blanks_5 (by decide) fl_X7_85 rfl rfl rfl ?_
      refine z_icmp_ge (tgt := 37) dX7_blanks_8 (by decide) rfl (fun h1 => ?_) (fun h1 => ?_)
      · exact z_return dX7_blanks_37 rfl ⟨rfl, by rw [hN, hr]⟩ (Nat.le_of_ble_eq_true rfl) (Nat.le_of_ble_eq_true rfl)
      · rw [hTN.1, n5] at h1
        have hlt := nle_nn h1 (by omega) (by omega)
        have hb := (hT.2.2 x hlt).2
        refine z_aload_n dX7_blanks_11 rfl rfl ?_
        refine z_aload_n dX7_blanks_12 rfl rfl ?_
        refine z_gi7 (j := 4) dX7_blanks_13 (by decide) fl_X7_88 rfl rfl rfl ?_
        refine z_tp (b := (nI x)) n5 ?_
        refine z_cv1 (ci := 7) (nf := 32) (y := mX7_byteAt) dX7_blanks_16 ml_X7_91 iv_X7_byteAt (Nat.le_of_ble_eq_true rfl) rfl (by decide) rfl (Nat.le_of_ble_eq_true rfl) (Nat.le_of_ble_eq_true rfl) (Nat.le_of_ble_eq_true rfl) (c_X7_byteAt hst N b n x hTN (by omega)) rfl ?_
        rw [show bA b n x = b x from if_pos hlt]
        refine z_bipush (v := 32) dX7_blanks_19 (by decide) rfl ?_
        refine z_icmp_ne (tgt := 37) dX7_blanks_21 (by decide) rfl (fun h2 => ?_) (fun h2 => ?_)
        · exact z_return dX7_blanks_37 rfl ⟨rfl, by rw [hN, hr]⟩ (Nat.le_of_ble_eq_true rfl) (Nat.le_of_ble_eq_true rfl)
        · have q : b x = 32 := (nI_eq (by omega) (by decide)).mp h2
          exact absurd ⟨hlt, decide_eq_true q⟩ hx
    · intro x h1 h2 ih N hxn hN hr
      have hTN : TM b n N := by rw [hN]; exact hT.keep (wn := 0) (Eqx.rf.mu (by unfold Sw5; omega))
      have n5 : N 99 4 = nI x := by rw [hN]; rfl
      rw [run_go h1 h2] at hr
      have q : b x = 32 := of_decide_eq_true h2
      refine z_aload_n dX7_blanks_0 rfl rfl ?_
      refine z_gi7 (j := 4) dX7_blanks_1 (by decide) fl_X7_88 rfl rfl rfl ?_
      refine z_aload_n dX7_blanks_4 rfl rfl ?_
      refine z_gi7 (j := 3) dX7_blanks_5 (by decide) fl_X7_85 rfl rfl rfl ?_
      refine z_icmp_ge (tgt := 37) dX7_blanks_8 (by decide) rfl (fun h3 => ?_) (fun h3 => ?_)
      · rw [hTN.1, n5] at h3
        exact absurd (le_nn h3 (by omega) (by omega)) (by omega)
      · refine z_aload_n dX7_blanks_11 rfl rfl ?_
        refine z_aload_n dX7_blanks_12 rfl rfl ?_
        refine z_gi7 (j := 4) dX7_blanks_13 (by decide) fl_X7_88 rfl rfl rfl ?_
        refine z_tp (b := (nI x)) n5 ?_
        refine z_cv1 (ci := 7) (nf := 32) (y := mX7_byteAt) dX7_blanks_16 ml_X7_91 iv_X7_byteAt (Nat.le_of_ble_eq_true rfl) rfl (by decide) rfl (Nat.le_of_ble_eq_true rfl) (Nat.le_of_ble_eq_true rfl) (Nat.le_of_ble_eq_true rfl) (c_X7_byteAt hst N b n x hTN (by omega)) rfl ?_
        rw [show bA b n x = b x from if_pos h1]
        refine z_bipush (v := 32) dX7_blanks_19 (by decide) rfl ?_
        refine z_icmp_ne (tgt := 37) dX7_blanks_21 (by decide) rfl (fun h4 => ?_) (fun h4 => ?_)
        · exact absurd (by rw [q]; rfl) h4
        · refine z_aload_n dX7_blanks_24 rfl rfl ?_
          refine z_dup dX7_blanks_25 rfl rfl ?_
          refine z_gi7 (j := 4) dX7_blanks_26 (by decide) fl_X7_88 rfl rfl rfl ?_
          refine z_iconst (v := 1) dX7_blanks_29 (by decide) rfl ?_
          refine z_iadd dX7_blanks_30 rfl ?_
          refine z_pi7 (j := 4) dX7_blanks_31 (by decide) fl_X7_88 rfl rfl rfl rfl rfl ?_
          refine z_goto (tgt := 0) dX7_blanks_34 (by decide) ?_
          exact ih _ (by omega) (by rw [n5, hN, mu_mu, nI_1]) hr
  exact key a M han (mu_self ha).symm rfl
theorem bA_lt {b : Nat → Nat} {n i : Nat} {M : Mem} (hT : TM b n M) : bA b n i < 256 := by
  unfold bA
  split
  · rename_i h; exact (hT.2.2 i h).2
  · decide
theorem dg_bA {b : Nat → Nat} {n i : Nat} : (decide (48 ≤ bA b n i ∧ bA b n i ≤ 57)) = (decide (i < n) && isDg b i) := by
  unfold bA isDg
  by_cases h : i < n
  · rw [if_pos h, decide_eq_true h]; rfl
  · rw [if_neg h, decide_eq_false h]; rfl
theorem WA_iff {b : Nat → Nat} {n s i : Nat} (hi : i < 8) : WA b n s i ↔ ((∀ j, j < wl8 i → bA b n (s + j) = wN i j) ∧ ¬ (97 ≤ bA b n (s + wl8 i) ∧ bA b n (s + wl8 i) ≤ 122)) := by
  have h5 := wl8_5 i hi
  constructor
  · intro ⟨h1, h2⟩
    refine ⟨fun j hj => ?_, fun q => ?_⟩
    · have := run_in (p := isLe b) (n := n) s (s + j) (by omega) (by omega)
      unfold bA
      rw [if_pos this.1]; exact h2 j hj
    · have := run_end (p := isLe b) (n := n) s
      rw [h1] at this
      unfold bA at q
      by_cases c : s + wl8 i < n
      · rw [if_pos c] at q; exact this ⟨c, decide_eq_true q⟩
      · rw [if_neg c] at q; omega
  · intro ⟨h1, h2⟩
    have key : ∀ j, j < wl8 i → s + j < n ∧ b (s + j) = wN i j := fun j hj => by
      have := h1 j hj
      have hl := wN_let i hi j (by omega) hj
      unfold bA at this
      split at this
      · rename_i c; exact ⟨c, this⟩
      · omega
    refine ⟨run_eq s (s + wl8 i) (by omega) (fun x h3 h4 => ?_) (fun q => h2 ?_), fun j hj => (key j hj).2⟩
    · obtain ⟨k1, k2⟩ := key (x - s) (by omega)
      rw [show s + (x - s) = x by omega] at k1 k2
      have hl := wN_let i hi (x - s) (by omega) (by omega)
      exact ⟨k1, decide_eq_true (by omega)⟩
    · unfold bA
      rw [if_pos q.1]
      exact of_decide_eq_true q.2
set_option maxHeartbeats 8000000 in
theorem c_X7_isWord {l : Launch} {E : EnT} (hst : l.stackTraces = false) (hV : hVw E) (M : Mem) (b : Nat → Nat) (n a i : Nat) (hi : i < 8) (hT : TM b n M) (ha : M 99 4 = nI a) (han : a ≤ n) : Mm l E mX7_isWord 4 0 0 [.ref 99, .ref (1000 + i)] M (Rt (some (.int (bI (decide (WA b n (run (isBl b) n a) i))))) (mu M 99 4 (nI (run (isBl b) n a)))) := by
  have h200 := hT.2.1
  have h5 := wl8_5 i hi
  refine Mm_go hst (by decide) rfl (Nat.le_of_ble_eq_true rfl) [some (.ref 99), some (.ref (1000 + i)), none] rfl ?_
  refine z_aload_n dX7_isWord_0 rfl rfl ?_
  refine z_cn0 (ci := 7) (nf := 32) (y := mX7_blanks) dX7_isWord_1 ml_X7_98 iv_X7_blanks (Nat.le_of_ble_eq_true rfl) rfl (by decide) rfl (Nat.le_of_ble_eq_true rfl) (Nat.le_of_ble_eq_true rfl) (Nat.le_of_ble_eq_true rfl) (c_X7_blanks hst M b n a hT ha han) rfl ?_
  have hr := run_le (p := isBl b) a han
  have hTN : TM b n (mu M 99 4 (nI (run (isBl b) n a))) := hT.keep (wn := 0) (Eqx.rf.mu (by unfold Sw5; omega))
  have n5 : mu M 99 4 (nI (run (isBl b) n a)) 99 4 = nI (run (isBl b) n a) := rfl
  generalize mu M 99 4 (nI (run (isBl b) n a)) = N at hTN n5 ⊢
  generalize run (isBl b) n a = s at hr n5 ⊢
  have hW := WA_iff (b := b) (n := n) (s := s) hi
  refine z_iconst (v := 0) dX7_isWord_4 (by decide) rfl ?_
  refine z_ist2 dX7_isWord_5 (Nat.le_of_ble_eq_true rfl) rfl ?_
  have loop : ∀ (m j : Nat), j + m = wl8 i → (∀ k, k < j → bA b n (s + k) = wN i k) → Zz (zx l E mX7_isWord 4 (Rt (some (.int (bI (decide (WA b n s i))))) N)) 0 0 6 [some (.ref 99), some (.ref (1000 + i)), some (.int (nI j))] [] N := by
    intro m
    induction m with
    | zero =>
      intro j hj hk
      have ej : j = wl8 i := by omega
      have hcl := bA_lt (i := s + wl8 i) hTN
      refine z_iload_n dX7_isWord_6 rfl rfl ?_
      refine z_aload_n dX7_isWord_7 rfl rfl ?_
      refine z_Sv0 (y := mJ0_length_8abf5) dX7_isWord_8 ml_X7_101 iv_J0_length_8abf5 (Nat.le_of_ble_eq_true rfl) (Nat.le_of_ble_eq_true rfl) (Nat.le_of_ble_eq_true rfl) (Nat.le_of_ble_eq_true rfl) (c_J0_length hst hV N i hi) rfl ?_
      refine z_icmp_ge (tgt := 40) dX7_isWord_11 (by decide) rfl (fun g => ?_) (fun g => ?_)
      · refine z_aload_n dX7_isWord_40 rfl rfl ?_
        refine z_aload_n dX7_isWord_41 rfl rfl ?_
        refine z_gi7 (j := 4) dX7_isWord_42 (by decide) fl_X7_88 rfl rfl rfl ?_
        refine z_tp (b := (nI s)) n5 ?_
        refine z_aload_n dX7_isWord_45 rfl rfl ?_
        refine z_Sv0 (y := mJ0_length_8abf5) dX7_isWord_46 ml_X7_101 iv_J0_length_8abf5 (Nat.le_of_ble_eq_true rfl) (Nat.le_of_ble_eq_true rfl) (Nat.le_of_ble_eq_true rfl) (Nat.le_of_ble_eq_true rfl) (c_J0_length hst hV N i hi) rfl ?_
        refine z_iadd dX7_isWord_49 rfl ?_
        refine z_tp (b := (nI (s + wl8 i))) (nI_add _ _) ?_
        refine z_cv1 (ci := 7) (nf := 32) (y := mX7_byteAt) dX7_isWord_50 ml_X7_91 iv_X7_byteAt (Nat.le_of_ble_eq_true rfl) rfl (by decide) rfl (Nat.le_of_ble_eq_true rfl) (Nat.le_of_ble_eq_true rfl) (Nat.le_of_ble_eq_true rfl) (c_X7_byteAt hst N b n (s + wl8 i) hTN (by omega)) rfl ?_
        refine z_ist2 dX7_isWord_53 (Nat.le_of_ble_eq_true rfl) rfl ?_
        refine z_iload_n dX7_isWord_54 rfl rfl ?_
        refine z_bipush (v := 97) dX7_isWord_55 (by decide) rfl ?_
        refine z_icmp_lt (tgt := 66) dX7_isWord_57 (by decide) rfl (fun g1 => ?_) (fun g1 => ?_)
        · have := lt_nn (b := 97) g1 (by omega) (by decide)
          rw [decide_eq_true (hW.mpr ⟨fun k hk2 => hk k (by omega), fun q => by omega⟩)]
          refine z_iconst (v := 1) dX7_isWord_66 (by decide) rfl ?_
          refine z_goto (tgt := 71) dX7_isWord_67 (by decide) ?_
          exact z_zreturn dX7_isWord_71 rfl rfl ⟨rfl, rfl⟩ (Nat.le_of_ble_eq_true rfl) (Nat.le_of_ble_eq_true rfl)
        · have q1 := nlt_nn (b := 97) g1 (by omega) (by decide)
          refine z_iload_n dX7_isWord_60 rfl rfl ?_
          refine z_bipush (v := 122) dX7_isWord_61 (by decide) rfl ?_
          refine z_icmp_le (tgt := 70) dX7_isWord_63 (by decide) rfl (fun g2 => ?_) (fun g2 => ?_)
          · have := le_nn (b := 122) g2 (by omega) (by decide)
            rw [decide_eq_false (fun q => (hW.mp q).2 ⟨by omega, by omega⟩)]
            refine z_iconst (v := 0) dX7_isWord_70 (by decide) rfl ?_
            exact z_zreturn dX7_isWord_71 rfl rfl ⟨rfl, rfl⟩ (Nat.le_of_ble_eq_true rfl) (Nat.le_of_ble_eq_true rfl)
          · have := nle_nn (b := 122) g2 (by omega) (by decide)
            rw [decide_eq_true (hW.mpr ⟨fun k hk2 => hk k (by omega), fun q => by omega⟩)]
            refine z_iconst (v := 1) dX7_isWord_66 (by decide) rfl ?_
            refine z_goto (tgt := 71) dX7_isWord_67 (by decide) ?_
            exact z_zreturn dX7_isWord_71 rfl rfl ⟨rfl, rfl⟩ (Nat.le_of_ble_eq_true rfl) (Nat.le_of_ble_eq_true rfl)
      · exact absurd (nI_le (show wl8 i ≤ j by omega) (by omega)) g
    | succ m ih =>
      intro j hj hk
      have hcl := bA_lt (i := s + j) hTN
      refine z_iload_n dX7_isWord_6 rfl rfl ?_
      refine z_aload_n dX7_isWord_7 rfl rfl ?_
      refine z_Sv0 (y := mJ0_length_8abf5) dX7_isWord_8 ml_X7_101 iv_J0_length_8abf5 (Nat.le_of_ble_eq_true rfl) (Nat.le_of_ble_eq_true rfl) (Nat.le_of_ble_eq_true rfl) (Nat.le_of_ble_eq_true rfl) (c_J0_length hst hV N i hi) rfl ?_
      refine z_icmp_ge (tgt := 40) dX7_isWord_11 (by decide) rfl (fun g => ?_) (fun g => ?_)
      · exact absurd (le_nn g (by omega) (by omega)) (by omega)
      · refine z_aload_n dX7_isWord_14 rfl rfl ?_
        refine z_aload_n dX7_isWord_15 rfl rfl ?_
        refine z_gi7 (j := 4) dX7_isWord_16 (by decide) fl_X7_88 rfl rfl rfl ?_
        refine z_tp (b := (nI s)) n5 ?_
        refine z_iload_n dX7_isWord_19 rfl rfl ?_
        refine z_iadd dX7_isWord_20 rfl ?_
        refine z_tp (b := (nI (s + j))) (nI_add _ _) ?_
        refine z_cv1 (ci := 7) (nf := 32) (y := mX7_byteAt) dX7_isWord_21 ml_X7_91 iv_X7_byteAt (Nat.le_of_ble_eq_true rfl) rfl (by decide) rfl (Nat.le_of_ble_eq_true rfl) (Nat.le_of_ble_eq_true rfl) (Nat.le_of_ble_eq_true rfl) (c_X7_byteAt hst N b n (s + j) hTN (by omega)) rfl ?_
        refine z_aload_n dX7_isWord_24 rfl rfl ?_
        refine z_iload_n dX7_isWord_25 rfl rfl ?_
        refine z_Sv1 (y := mJ0_charAt_5068e) dX7_isWord_26 ml_X7_107 iv_J0_charAt_5068e (Nat.le_of_ble_eq_true rfl) (Nat.le_of_ble_eq_true rfl) (Nat.le_of_ble_eq_true rfl) (Nat.le_of_ble_eq_true rfl) (c_J0_charAt hst hV N i j hi (by omega)) rfl ?_
        refine z_tp (b := (nI (wN i j))) (wb8_n i hi j (by omega)) ?_
        have wl := wN_le i hi j (by omega)
        refine z_icmp_eq (tgt := 34) dX7_isWord_29 (by decide) rfl (fun g4 => ?_) (fun g4 => ?_)
        · have q : bA b n (s + j) = wN i j := (nI_eq (by omega) (by omega)).mp g4
          first | refine z_iu2 dX7_isWord_34 (Nat.le_of_ble_eq_true rfl) rfl ?_ | refine z_inc2 dX7_isWord_34 (Nat.le_of_ble_eq_true rfl) rfl rfl ?_
          refine z_goto (tgt := 6) dX7_isWord_37 (by decide) ?_
          refine ih (j + 1) (by omega) (fun k h => ?_)
          by_cases ek : k = j
          · subst ek; exact q
          · exact hk k (by omega)
        · rw [decide_eq_false (show ¬ WA b n s i from fun q => g4 (by rw [(hW.mp q).1 j (by omega)]))]
          refine z_iconst (v := 0) dX7_isWord_32 (by decide) rfl ?_
          exact z_zreturn dX7_isWord_33 rfl rfl ⟨rfl, rfl⟩ (Nat.le_of_ble_eq_true rfl) (Nat.le_of_ble_eq_true rfl)
  exact loop (wl8 i) 0 (by omega) (fun k h => absurd h (Nat.not_lt_zero k))
set_option maxHeartbeats 4000000 in
theorem c_X7_wordOf {l : Launch} {E : EnT} (hst : l.stackTraces = false) (M : Mem) (i : Nat) (hi : i < 8) : Mm l E mX7_wordOf 0 0 0 [.int (nI i)] M (Rt (some (.ref (1000 + i))) M) := by
  rcases (by omega : i = 0 ∨ i = 1 ∨ i = 2 ∨ i = 3 ∨ i = 4 ∨ i = 5 ∨ i = 6 ∨ i = 7) with e | e | e | e | e | e | e | e <;> subst e
  · refine Mm_go hst (by decide) rfl (Nat.le_of_ble_eq_true rfl) [some (.int (nI 0))] rfl ?_
    refine z_iload_n dX7_wordOf_0 rfl rfl ?_
    refine z_tabIn (off := 43) (tgt := 44) dX7_wordOf_1 (by decide) (by decide) (by decide) (by decide) ?_
    refine z_ldcS dX7_wordOf_44 (List.mem_of_getElem? (i := 8) rfl) rfl ?_
    exact z_areturn dX7_wordOf_46 rfl ⟨rfl, rfl⟩ (Nat.le_of_ble_eq_true rfl) (Nat.le_of_ble_eq_true rfl)
  · refine Mm_go hst (by decide) rfl (Nat.le_of_ble_eq_true rfl) [some (.int (nI 1))] rfl ?_
    refine z_iload_n dX7_wordOf_0 rfl rfl ?_
    refine z_tabIn (off := 46) (tgt := 47) dX7_wordOf_1 (by decide) (by decide) (by decide) (by decide) ?_
    refine z_ldcS dX7_wordOf_47 (List.mem_of_getElem? (i := 9) rfl) rfl ?_
    exact z_areturn dX7_wordOf_49 rfl ⟨rfl, rfl⟩ (Nat.le_of_ble_eq_true rfl) (Nat.le_of_ble_eq_true rfl)
  · refine Mm_go hst (by decide) rfl (Nat.le_of_ble_eq_true rfl) [some (.int (nI 2))] rfl ?_
    refine z_iload_n dX7_wordOf_0 rfl rfl ?_
    refine z_tabIn (off := 49) (tgt := 50) dX7_wordOf_1 (by decide) (by decide) (by decide) (by decide) ?_
    refine z_ldcS dX7_wordOf_50 (List.mem_of_getElem? (i := 10) rfl) rfl ?_
    exact z_areturn dX7_wordOf_52 rfl ⟨rfl, rfl⟩ (Nat.le_of_ble_eq_true rfl) (Nat.le_of_ble_eq_true rfl)
  · refine Mm_go hst (by decide) rfl (Nat.le_of_ble_eq_true rfl) [some (.int (nI 3))] rfl ?_
    refine z_iload_n dX7_wordOf_0 rfl rfl ?_
    refine z_tabIn (off := 52) (tgt := 53) dX7_wordOf_1 (by decide) (by decide) (by decide) (by decide) ?_
    refine z_ldcS dX7_wordOf_53 (List.mem_of_getElem? (i := 11) rfl) rfl ?_
    exact z_areturn dX7_wordOf_55 rfl ⟨rfl, rfl⟩ (Nat.le_of_ble_eq_true rfl) (Nat.le_of_ble_eq_true rfl)
  · refine Mm_go hst (by decide) rfl (Nat.le_of_ble_eq_true rfl) [some (.int (nI 4))] rfl ?_
    refine z_iload_n dX7_wordOf_0 rfl rfl ?_
    refine z_tabIn (off := 55) (tgt := 56) dX7_wordOf_1 (by decide) (by decide) (by decide) (by decide) ?_
    refine z_ldcS dX7_wordOf_56 (List.mem_of_getElem? (i := 12) rfl) rfl ?_
    exact z_areturn dX7_wordOf_58 rfl ⟨rfl, rfl⟩ (Nat.le_of_ble_eq_true rfl) (Nat.le_of_ble_eq_true rfl)
  · refine Mm_go hst (by decide) rfl (Nat.le_of_ble_eq_true rfl) [some (.int (nI 5))] rfl ?_
    refine z_iload_n dX7_wordOf_0 rfl rfl ?_
    refine z_tabIn (off := 58) (tgt := 59) dX7_wordOf_1 (by decide) (by decide) (by decide) (by decide) ?_
    refine z_ldcS dX7_wordOf_59 (List.mem_of_getElem? (i := 13) rfl) rfl ?_
    exact z_areturn dX7_wordOf_61 rfl ⟨rfl, rfl⟩ (Nat.le_of_ble_eq_true rfl) (Nat.le_of_ble_eq_true rfl)
  · refine Mm_go hst (by decide) rfl (Nat.le_of_ble_eq_true rfl) [some (.int (nI 6))] rfl ?_
    refine z_iload_n dX7_wordOf_0 rfl rfl ?_
    refine z_tabIn (off := 61) (tgt := 62) dX7_wordOf_1 (by decide) (by decide) (by decide) (by decide) ?_
    refine z_ldcS dX7_wordOf_62 (List.mem_of_getElem? (i := 14) rfl) rfl ?_
    exact z_areturn dX7_wordOf_64 rfl ⟨rfl, rfl⟩ (Nat.le_of_ble_eq_true rfl) (Nat.le_of_ble_eq_true rfl)
  · refine Mm_go hst (by decide) rfl (Nat.le_of_ble_eq_true rfl) [some (.int (nI 7))] rfl ?_
    refine z_iload_n dX7_wordOf_0 rfl rfl ?_
    refine z_tabOut (tgt := 65) dX7_wordOf_1 (by decide) (by decide) ?_
    refine z_ldcS dX7_wordOf_65 (List.mem_of_getElem? (i := 15) rfl) rfl ?_
    exact z_areturn dX7_wordOf_67 rfl ⟨rfl, rfl⟩ (Nat.le_of_ble_eq_true rfl) (Nat.le_of_ble_eq_true rfl)
def whS (b : Nat → Nat) (n s : Nat) : Nat → Nat → Option Nat
  | 0, _ => none
  | k + 1, j => if WA b n s j then some j else whS b n s k (j + 1)
set_option maxHeartbeats 8000000 in
theorem c_X7_wordHere {l : Launch} {E : EnT} (hst : l.stackTraces = false) (hV : hVw E) (M : Mem) (b : Nat → Nat) (n a lo hi : Nat) (h8 : hi ≤ 8) (hT : TM b n M) (ha : M 99 4 = nI a) (han : a ≤ n) (hlh : lo < hi) : Mm l E mX7_wordHere 5 0 0 [.ref 99, .int (nI lo), .int (nI hi)] M (Rt (some (.int (enI (whS b n (run (isBl b) n a) (hi - lo) lo)))) (mu M 99 4 (nI (run (isBl b) n a)))) := by
  refine Mm_go hst (by decide) rfl (Nat.le_of_ble_eq_true rfl) [some (.ref 99), some (.int (nI lo)), some (.int (nI hi)), none] rfl ?_
  refine z_iload_n dX7_wordHere_0 rfl rfl ?_
  refine z_ist3 dX7_wordHere_1 (Nat.le_of_ble_eq_true rfl) rfl ?_
  have hr := run_le (p := isBl b) a han
  have hTN : TM b n (mu M 99 4 (nI (run (isBl b) n a))) := hT.keep (wn := 0) (Eqx.rf.mu (by unfold Sw5; omega))
  generalize hQ : Rt (some (.int (enI (whS b n (run (isBl b) n a) (hi - lo) lo)))) (mu M 99 4 (nI (run (isBl b) n a))) = Q
  have loop : ∀ (k j : Nat), j + k = hi → whS b n (run (isBl b) n a) k j = whS b n (run (isBl b) n a) (hi - lo) lo → Zz (zx l E mX7_wordHere 5 Q) 0 0 2 [some (.ref 99), some (.int (nI lo)), some (.int (nI hi)), some (.int (nI j))] [] (mu M 99 4 (nI (run (isBl b) n a))) := by
    intro k
    induction k with
    | zero =>
      intro j hj hq
      refine z_iload_n dX7_wordHere_2 rfl rfl ?_
      refine z_iload_n dX7_wordHere_3 rfl rfl ?_
      refine z_icmp_ge (tgt := 26) dX7_wordHere_4 (by decide) rfl (fun g => ?_) (fun g => ?_)
      · rw [← hQ]
        refine z_iconst (v := (-1)) dX7_wordHere_26 (by decide) rfl ?_
        exact z_ireturn dX7_wordHere_27 rfl ⟨by rw [← hq]; rfl, rfl⟩ (Nat.le_of_ble_eq_true rfl) (Nat.le_of_ble_eq_true rfl)
      · exact absurd (nI_le (show hi ≤ j by omega) (by omega)) g
    | succ k ih =>
      intro j hj hq
      rw [whS] at hq
      refine z_iload_n dX7_wordHere_2 rfl rfl ?_
      refine z_iload_n dX7_wordHere_3 rfl rfl ?_
      refine z_icmp_ge (tgt := 26) dX7_wordHere_4 (by decide) rfl (fun g => ?_) (fun g => ?_)
      · exact absurd (le_nn g (by omega) (by omega)) (by omega)
      · refine z_aload_n dX7_wordHere_7 rfl rfl ?_
        refine z_iload_n dX7_wordHere_8 rfl rfl ?_
        refine z_sv1 (y := mX7_wordOf) dX7_wordHere_9 ml_X7_124 iv_X7_wordOf (Nat.le_of_ble_eq_true rfl) (Nat.le_of_ble_eq_true rfl) (Nat.le_of_ble_eq_true rfl) (Nat.le_of_ble_eq_true rfl) (c_X7_wordOf hst _ j (by omega)) rfl ?_
        refine z_cv1 (ci := 7) (nf := 32) (y := mX7_isWord) dX7_wordHere_12 ml_X7_128 iv_X7_isWord (Nat.le_of_ble_eq_true rfl) rfl (by decide) rfl (Nat.le_of_ble_eq_true rfl) (Nat.le_of_ble_eq_true rfl) (Nat.le_of_ble_eq_true rfl) (c_X7_isWord hst hV _ b n (run (isBl b) n a) j (by omega) hTN rfl hr) rfl ?_
        rw [run_idem, mu_mu]
        by_cases c : WA b n (run (isBl b) n a) j
        · rw [decide_eq_true c]
          rw [if_pos c] at hq
          refine z_if_eq (tgt := 20) dX7_wordHere_15 (by decide) rfl (fun g1 => ?_) (fun g1 => ?_)
          · exact absurd g1 (by decide)
          · rw [← hQ]
            refine z_iload_n dX7_wordHere_18 rfl rfl ?_
            exact z_ireturn dX7_wordHere_19 rfl ⟨by rw [← hq]; rfl, rfl⟩ (Nat.le_of_ble_eq_true rfl) (Nat.le_of_ble_eq_true rfl)
        · rw [decide_eq_false c]
          rw [if_neg c] at hq
          refine z_if_eq (tgt := 20) dX7_wordHere_15 (by decide) rfl (fun g1 => ?_) (fun g1 => ?_)
          · first | refine z_iu3 dX7_wordHere_20 (Nat.le_of_ble_eq_true rfl) rfl ?_ | refine z_inc3 dX7_wordHere_20 (Nat.le_of_ble_eq_true rfl) rfl rfl ?_
            refine z_goto (tgt := 2) dX7_wordHere_23 (by decide) ?_
            exact ih (j + 1) (by omega) hq
          · exact absurd rfl g1
  -- the first turn goes over the blanks
  refine z_iload_n dX7_wordHere_2 rfl rfl ?_
  refine z_iload_n dX7_wordHere_3 rfl rfl ?_
  refine z_icmp_ge (tgt := 26) dX7_wordHere_4 (by decide) rfl (fun g => ?_) (fun g => ?_)
  · exact absurd (le_nn g (by omega) (by omega)) (by omega)
  · refine z_aload_n dX7_wordHere_7 rfl rfl ?_
    refine z_iload_n dX7_wordHere_8 rfl rfl ?_
    refine z_sv1 (y := mX7_wordOf) dX7_wordHere_9 ml_X7_124 iv_X7_wordOf (Nat.le_of_ble_eq_true rfl) (Nat.le_of_ble_eq_true rfl) (Nat.le_of_ble_eq_true rfl) (Nat.le_of_ble_eq_true rfl) (c_X7_wordOf hst M lo (by omega)) rfl ?_
    refine z_cv1 (ci := 7) (nf := 32) (y := mX7_isWord) dX7_wordHere_12 ml_X7_128 iv_X7_isWord (Nat.le_of_ble_eq_true rfl) rfl (by decide) rfl (Nat.le_of_ble_eq_true rfl) (Nat.le_of_ble_eq_true rfl) (Nat.le_of_ble_eq_true rfl) (c_X7_isWord hst hV M b n a lo (by omega) hT ha han) rfl ?_
    have hq : whS b n (run (isBl b) n a) (hi - lo) lo = if WA b n (run (isBl b) n a) lo then some lo else whS b n (run (isBl b) n a) (hi - lo - 1) (lo + 1) := by
      rw [show hi - lo = (hi - lo - 1) + 1 by omega, whS, Nat.add_sub_cancel]
    by_cases c : WA b n (run (isBl b) n a) lo
    · rw [decide_eq_true c]
      rw [if_pos c] at hq
      refine z_if_eq (tgt := 20) dX7_wordHere_15 (by decide) rfl (fun g1 => ?_) (fun g1 => ?_)
      · exact absurd g1 (by decide)
      · rw [← hQ]
        refine z_iload_n dX7_wordHere_18 rfl rfl ?_
        exact z_ireturn dX7_wordHere_19 rfl ⟨by rw [hq]; rfl, rfl⟩ (Nat.le_of_ble_eq_true rfl) (Nat.le_of_ble_eq_true rfl)
    · rw [decide_eq_false c]
      rw [if_neg c] at hq
      refine z_if_eq (tgt := 20) dX7_wordHere_15 (by decide) rfl (fun g1 => ?_) (fun g1 => ?_)
      · first | refine z_iu3 dX7_wordHere_20 (Nat.le_of_ble_eq_true rfl) rfl ?_ | refine z_inc3 dX7_wordHere_20 (Nat.le_of_ble_eq_true rfl) rfl rfl ?_
        refine z_goto (tgt := 2) dX7_wordHere_23 (by decide) ?_
        exact loop (hi - lo - 1) (lo + 1) (by omega) hq.symm
      · exact absurd rfl g1
