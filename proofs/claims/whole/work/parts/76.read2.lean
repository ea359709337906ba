/-! a whole text, the class's side -/
def D0 : Dr := (0, 0, 0, 0, none, fun _ => false)
def rdL (b : Nat → Nat) (n wn : Nat) : Nat → Nat → (Nat → Bool) → Dr → (Nat × Nat) ⊕ ((Nat → Bool) × Dr)
  | 0, _, rd, D => .inr (rd, D)
  | f + 1, a, rd, D => if a < n then (match clS b n wn a rd D with
    | .inl f => .inl f
    | .inr (e, rd2, D2) => rdL b n wn f (run (isBl b) n e) rd2 D2) else .inr (rd, D)
def rdS (b : Nat → Nat) (n wn : Nat) : (Nat × Nat) ⊕ Dr := match rdL b n wn (n + 1) (run (isBl b) n 0) (fun _ => false) D0 with
  | .inl f => .inl f
  | .inr (rd, D) => if rd 0 = true then .inr D else .inl (3, n)
theorem num_k {b : Nat → Nat} {n a lo h1 k p : Nat} (h : numS b n a lo h1 = .inl (k, p)) : k = 1 ∨ k = 2 := by
  unfold numS at h
  split at h
  · cases h; exact Or.inl rfl
  · split at h
    · cases h
    · cases h; exact Or.inr rfl
theorem sgn_k {b : Nat → Nat} {n a c k p : Nat} (h : sgnS b n a c = .inl (k, p)) : k = 1 ∨ k = 2 := by
  unfold sgnS at h
  split at h
  · cases h
  · cases h; exact Or.inl rfl
theorem aft_k {b : Nat → Nat} {n wn : Nat} : ∀ {f a k p : Nat} {D : Dr}, aftS b n wn f a D = .inl (k, p) → k = 1 ∨ k = 2
  | 0, a, k, p, D, h => by cases h
  | f + 1, a, k, p, D, h => by
    rw [aftS] at h
    cases hn : numS b n a 0 wn with
    | inl x => obtain ⟨x1, x2⟩ := x; rw [hn] at h; cases h; exact num_k hn
    | inr x =>
      obtain ⟨e1, V⟩ := x
      rw [hn] at h
      simp only at h
      split at h
      · exact aft_k h
      · cases h
theorem rest_k {b : Nat → Nat} {n wn c a k p : Nat} {D : Dr} (h : restS b n wn c a D = .inl (k, p)) : k = 1 ∨ k = 2 := by
  unfold restS at h
  split at h
  · unfold hourS at h
    cases hn : numS b n a 1 41 with
    | inl x => obtain ⟨x1, x2⟩ := x; rw [hn] at h; cases h; exact num_k hn
    | inr x =>
      obtain ⟨e1, V⟩ := x
      rw [hn] at h
      simp only at h
      cases hs : sgnS b n e1 45 with
      | inl x => obtain ⟨x1, x2⟩ := x; rw [hs] at h; cases h; exact sgn_k hs
      | inr e2 =>
        rw [hs] at h
        simp only at h
        cases hm : numS b n e2 V 41 with
        | inl x => obtain ⟨x1, x2⟩ := x; rw [hm] at h; cases h; exact num_k hm
        | inr x => obtain ⟨e3, V3⟩ := x; rw [hm] at h; cases h
  · split at h
    · unfold thgS at h
      cases ht : thgW b n (run (isBl b) n a) with
      | none => rw [ht] at h; cases h; exact Or.inl rfl
      | some t => rw [ht] at h; cases h
    · split at h
      · unfold handS at h
        cases hn : numS b n a 0 31 with
        | inl x => obtain ⟨x1, x2⟩ := x; rw [hn] at h; cases h; exact num_k hn
        | inr x => obtain ⟨e3, V3⟩ := x; rw [hn] at h; cases h
      · split at h
        · unfold bckS at h
          cases hn : numS b n a 0 41 with
          | inl x => obtain ⟨x1, x2⟩ := x; rw [hn] at h; cases h; exact num_k hn
          | inr x => obtain ⟨e3, V3⟩ := x; rw [hn] at h; cases h
        · exact aft_k h
theorem cl_k {b : Nat → Nat} {n wn a k p : Nat} {rd : Nat → Bool} {D : Dr} (h : clS b n wn a rd D = .inl (k, p)) : k = 1 ∨ k = 2 := by
  unfold clS at h
  cases hc : clsW b n a with
  | none => rw [hc] at h; cases h; exact Or.inl rfl
  | some c =>
    rw [hc] at h
    simp only at h
    split at h
    · cases h; exact Or.inl rfl
    · cases hr : restS b n wn c (a + wl8 c) D with
      | inl x => obtain ⟨x1, x2⟩ := x; rw [hr] at h; cases h; exact rest_k hr
      | inr x =>
        obtain ⟨e, D2⟩ := x
        rw [hr] at h
        simp only at h
        cases hs : sgnS b n e 59 with
        | inl x => obtain ⟨x1, x2⟩ := x; rw [hs] at h; cases h; exact sgn_k hs
        | inr e2 => rw [hs] at h; cases h
def S16 (a : Nat) (_ : Nat) : Prop := a = 1 ∨ a = 6
theorem St5_S16 {a b : Nat} (h : St5 a b) : S16 a b := by unfold St5 at h; unfold S16; omega
set_option maxHeartbeats 4000000 in
theorem c_X3_startReading {l : Launch} {E : EnT} (hst : l.stackTraces = false) (M : Mem) (x y : Int32) : Mm l E mX3_startReading 1 0 0 [.ref 1, .int x, .int y] M (RP none (fun N => Eqx S16 M N ∧ N 1 1 = 0 ∧ N 1 4 = x ∧ N 1 5 = 0 ∧ N 1 7 = 0 ∧ N 1 8 = y ∧ N 1 9 = 0 ∧ N 1 2 = -1 ∧ DC D0 N)) := by
  refine Mm_go hst (by decide) rfl (Nat.le_of_ble_eq_true rfl) [some (.ref 1), some (.int x), some (.int y)] rfl ?_
  refine z_aload_n dX3_startReading_0 rfl rfl ?_
  refine z_iconst (v := 0) dX3_startReading_1 (by decide) rfl ?_
  refine z_pi3 (j := 1) dX3_startReading_2 (by decide) fl_X3_18 rfl rfl rfl rfl rfl ?_
  refine z_aload_n dX3_startReading_5 rfl rfl ?_
  refine z_iload_n dX3_startReading_6 rfl rfl ?_
  refine z_pi3 (j := 4) dX3_startReading_7 (by decide) fl_X3_36 rfl rfl rfl rfl rfl ?_
  refine z_aload_n dX3_startReading_10 rfl rfl ?_
  refine z_iconst (v := 0) dX3_startReading_11 (by decide) rfl ?_
  refine z_pi3 (j := 5) dX3_startReading_12 (by decide) fl_X3_39 rfl rfl rfl rfl rfl ?_
  refine z_aload_n dX3_startReading_15 rfl rfl ?_
  refine z_iconst (v := 0) dX3_startReading_16 (by decide) rfl ?_
  refine z_pi3 (j := 7) dX3_startReading_17 (by decide) fl_X3_57 rfl rfl rfl rfl rfl ?_
  refine z_aload_n dX3_startReading_20 rfl rfl ?_
  refine z_iload_n dX3_startReading_21 rfl rfl ?_
  refine z_pi3 (j := 8) dX3_startReading_22 (by decide) fl_X3_60 rfl rfl rfl rfl rfl ?_
  refine z_aload_n dX3_startReading_25 rfl rfl ?_
  refine z_iconst (v := 0) dX3_startReading_26 (by decide) rfl ?_
  refine z_pi3 (j := 9) dX3_startReading_27 (by decide) fl_X3_42 rfl rfl rfl rfl rfl ?_
  refine z_aload_n dX3_startReading_30 rfl rfl ?_
  refine z_iconst (v := (-1)) dX3_startReading_31 (by decide) rfl ?_
  refine z_pi3 (j := 2) dX3_startReading_32 (by decide) fl_X3_22 rfl rfl rfl rfl rfl ?_
  refine z_aload_n dX3_startReading_35 rfl rfl ?_
  refine z_gr3 (j := 0) dX3_startReading_36 (by decide) fl_X3_12 rfl rfl rfl ?_
  refine z_cn0 (ci := 4) (nf := 7) (y := mX4_clear) dX3_startReading_39 ml_X3_63 iv_X4_clear (Nat.le_of_ble_eq_true rfl) rfl (by decide) (by first | assumption | rfl | exact knd_w (by omega)) (Nat.le_of_ble_eq_true rfl) (Nat.le_of_ble_eq_true rfl) (Nat.le_of_ble_eq_true rfl) (c_X4_clear hst _) rfl ?_
  exact z_return dX3_startReading_42 rfl ⟨rfl, (((((((Eqx.mu (Eqx.mu (Eqx.mu (Eqx.mu (Eqx.mu (Eqx.mu (Eqx.mu Eqx.rf (Or.inl rfl)) (Or.inl rfl)) (Or.inl rfl)) (Or.inl rfl)) (Or.inl rfl)) (Or.inl rfl)) (Or.inl rfl)).mu (Or.inr rfl)).mu (Or.inr rfl)).mu (Or.inr rfl)).mu (Or.inr rfl)).mu (Or.inr rfl)).mu (Or.inr rfl)).mu (Or.inr rfl), rfl, rfl, rfl, rfl, rfl, rfl, rfl, rfl, rfl, rfl, rfl, rfl, fun i hi => b_0 i, rfl⟩ (Nat.le_of_ble_eq_true rfl) (Nat.le_of_ble_eq_true rfl)
def RdF (o : (Nat × Nat) ⊕ Dr) (M : Mem) : Option Value ⊕ String → Mem → Prop := fun r N => Eqx S16 M N ∧ N 1 1 = 0 ∧ ((∃ k p, o = .inl (k, p) ∧ 0 < k ∧ k ≤ 3 ∧ r = .inl (some (.int (nI k))) ∧ N 1 2 = nI p) ∨ (∃ D, o = .inr D ∧ r = .inl (some (.int 0)) ∧ N 1 2 = -1 ∧ DC D N))
theorem RdF_nx {o : (Nat × Nat) ⊕ Dr} {M : Mem} : ∀ C N, ¬ RdF o M (.inr C) N := fun C N h => by
  rcases h.2.2 with ⟨k, p, h1, _, _, h2, h3⟩ | ⟨x, h1, h2, h3⟩ <;> cases h2
set_option maxHeartbeats 8000000 in
theorem c_X3_read {l : Launch} {E : EnT} (hst : l.stackTraces = false) (hV : hVw E) (M : Mem) (b : Nat → Nat) (n wn : Nat) (h200 : n ≤ 200) (hb : ∀ i, i < n → M 7 i = nI (b i) ∧ b i < 256) (hw16 : wn ≤ 16) : Mm l E mX3_read 8 0 0 [.ref 1, .int (nI n), .int (nI wn)] M (RdF (rdS b n wn) M) := by
  refine Mm_go hst (by decide) rfl (Nat.le_of_ble_eq_true rfl) [some (.ref 1), some (.int (nI n)), some (.int (nI wn)), none] rfl ?_
  refine z_aload_n dX3_read_0 rfl rfl ?_
  refine z_iload_n dX3_read_1 rfl rfl ?_
  refine z_iload_n dX3_read_2 rfl rfl ?_
  refine z_cp2 (ci := 3) (nf := 10) (y := mX3_startReading) dX3_read_3 ml_X3_29 iv_X3_startReading (Nat.le_of_ble_eq_true rfl) rfl (by decide) rfl (Nat.le_of_ble_eq_true rfl) (Nat.le_of_ble_eq_true rfl) (Nat.le_of_ble_eq_true rfl) (c_X3_startReading hst M (nI n) (nI wn)) rfl ?_
  intro N ⟨hE, q1, q4, q5, q7, q8, q9, q2, hD⟩
  have hT : TC b n N := ⟨q4, h200, fun i hi => by rw [hE 7 i (by unfold S16; omega)]; exact hb i hi⟩
  refine z_aload_n dX3_read_6 rfl rfl ?_
  refine z_cn0 (ci := 3) (nf := 10) (y := mX3_skipBlanks) dX3_read_7 ml_X3_33 iv_X3_skipBlanks (Nat.le_of_ble_eq_true rfl) rfl (by decide) rfl (Nat.le_of_ble_eq_true rfl) (Nat.le_of_ble_eq_true rfl) (Nat.le_of_ble_eq_true rfl) (c_X3_skipBlanks hst N b n 0 hT q5 (Nat.zero_le n)) rfl ?_
  refine z_iconst (v := 0) dX3_read_10 (by decide) rfl ?_
  refine z_ist3 dX3_read_11 (Nat.le_of_ble_eq_true rfl) rfl ?_
  generalize hQ : RdF (rdS b n wn) M = Q
  -- the end
  have fin1 : ∀ (N : Mem) (k p : Nat) (u : Option Value), Eqx S16 M N → N 1 1 = 0 → rdS b n wn = .inl (k, p) → 0 < k → k ≤ 3 → N 1 9 = nI k → N 1 2 = nI p → Zz (zx l E mX3_read 8 Q) 0 0 53 [some (.ref 1), some (.int (nI n)), some (.int (nI wn)), u] [] N := by
    intro N k p u hE h1 e hk hk3 h9 h2
    refine z_aload_n dX3_read_53 rfl rfl ?_
    refine z_gi3 (j := 9) dX3_read_54 (by decide) fl_X3_42 rfl rfl rfl ?_
    refine z_if_ne (tgt := 78) dX3_read_57 (by decide) rfl (fun g => ?_) (fun g => ?_)
    · refine z_aload_n dX3_read_78 rfl rfl ?_
      refine z_gi3 (j := 9) dX3_read_79 (by decide) fl_X3_42 rfl rfl rfl ?_
      refine z_tp (b := (nI k)) h9 ?_
      rw [← hQ]
      exact z_ireturn dX3_read_82 rfl ⟨hE, h1, Or.inl ⟨k, p, e, hk, hk3, rfl, h2⟩⟩ (Nat.le_of_ble_eq_true rfl) (Nat.le_of_ble_eq_true rfl)
    · rw [h9] at g
      exact absurd ((nI_eq (b := 0) (by omega) (by decide)).mp g) (by omega)
  have fin0 : ∀ (N : Mem) (rd : Nat → Bool) (D : Dr) (u : Option Value), Eqx S16 M N → N 1 1 = 0 → N 1 4 = nI n → rdL b n wn (n + 1) (run (isBl b) n 0) (fun _ => false) D0 = .inr (rd, D) → N 1 9 = 0 → N 1 2 = -1 → (∀ i, i < 32 → bt (N 1 7) i = rd i) → DC D N → Zz (zx l E mX3_read 8 Q) 0 0 53 [some (.ref 1), some (.int (nI n)), some (.int (nI wn)), u] [] N := by
    intro N rd D u hE h1 h4 e h9 h2 h7 hD
    refine z_aload_n dX3_read_53 rfl rfl ?_
    refine z_gi3 (j := 9) dX3_read_54 (by decide) fl_X3_42 rfl rfl rfl ?_
    refine z_if_ne (tgt := 78) dX3_read_57 (by decide) rfl (fun g => ?_) (fun g => ?_)
    · exact absurd h9 g
    · refine z_aload_n dX3_read_60 rfl rfl ?_
      refine z_iconst (v := 0) dX3_read_61 (by decide) rfl ?_
      refine z_tp (b := (nI 0)) rfl ?_
      refine z_cv1 (ci := 3) (nf := 10) (y := mX3_isRead) dX3_read_62 ml_X3_49 iv_X3_isRead (Nat.le_of_ble_eq_true rfl) rfl (by decide) rfl (Nat.le_of_ble_eq_true rfl) (Nat.le_of_ble_eq_true rfl) (Nat.le_of_ble_eq_true rfl) (c_X3_isRead hst N 0 (by decide)) rfl ?_
      rw [h7 0 (by decide)]
      cases hr : rd 0 with
      | true =>
        refine z_if_ne (tgt := 78) dX3_read_65 (by decide) rfl (fun g1 => ?_) (fun g1 => ?_)
        · refine z_aload_n dX3_read_78 rfl rfl ?_
          refine z_gi3 (j := 9) dX3_read_79 (by decide) fl_X3_42 rfl rfl rfl ?_
          refine z_tp (b := (0)) h9 ?_
          rw [← hQ]
          exact z_ireturn dX3_read_82 rfl ⟨hE, h1, Or.inr ⟨D, by unfold rdS; rw [e]; simp only; rw [if_pos hr], rfl, h2, hD⟩⟩ (Nat.le_of_ble_eq_true rfl) (Nat.le_of_ble_eq_true rfl)
        · exact absurd g1 (by decide)
      | false =>
        refine z_if_ne (tgt := 78) dX3_read_65 (by decide) rfl (fun g1 => ?_) (fun g1 => ?_)
        · exact absurd rfl g1
        · refine z_aload_n dX3_read_68 rfl rfl ?_
          refine z_iconst (v := 3) dX3_read_69 (by decide) rfl ?_
          refine z_aload_n dX3_read_70 rfl rfl ?_
          refine z_gi3 (j := 4) dX3_read_71 (by decide) fl_X3_36 rfl rfl rfl ?_
          refine z_tp (b := (nI n)) h4 ?_
          refine z_cv2 (ci := 3) (nf := 10) (y := mX3_refuse) dX3_read_74 ml_X3_53 iv_X3_refuse (Nat.le_of_ble_eq_true rfl) rfl (by decide) rfl (Nat.le_of_ble_eq_true rfl) (Nat.le_of_ble_eq_true rfl) (Nat.le_of_ble_eq_true rfl) (c_X3_refuse hst N 3 (nI n)) rfl ?_
          rw [← hQ]
          refine z_pop dX3_read_77 rfl rfl ?_
          refine z_aload_n dX3_read_78 rfl rfl ?_
          refine z_gi3 (j := 9) dX3_read_79 (by decide) fl_X3_42 rfl rfl rfl ?_
          exact z_ireturn dX3_read_82 rfl ⟨(hE.mu (Or.inl rfl)).mu (Or.inl rfl), h1, Or.inl ⟨3, n, by unfold rdS; rw [e]; simp only; rw [if_neg (by rw [hr]; decide)], by decide, by decide, rfl, rfl⟩⟩ (Nat.le_of_ble_eq_true rfl) (Nat.le_of_ble_eq_true rfl)
  have loop : ∀ (f c a : Nat) (N : Mem) (rd : Nat → Bool) (D : Dr), n - a < f → c ≤ a → a ≤ n → Eqx S16 M N → N 1 1 = 0 → TC b n N → N 1 5 = nI a → N 1 8 = nI wn → N 1 9 = 0 → N 1 2 = -1 → (∀ i, i < 32 → bt (N 1 7) i = rd i) → DC D N → rdL b n wn f a rd D = rdL b n wn (n + 1) (run (isBl b) n 0) (fun _ => false) D0 → Zz (zx l E mX3_read 8 Q) 0 0 12 [some (.ref 1), some (.int (nI n)), some (.int (nI wn)), some (.int (nI c))] [] N := by
    intro f
    induction f with
    | zero => intro c a N rd D hf; exact absurd hf (Nat.not_lt_zero _)
    | succ f ih =>
      intro c a N rd D hf hca han hE h1 hT h5 h8 h9 h2 h7 hD hq
      rw [rdL] at hq
      have out : a = n → Zz (zx l E mX3_read 8 Q) 0 0 53 [some (.ref 1), some (.int (nI n)), some (.int (nI wn)), some (.int (nI c))] [] N := fun e => by
        rw [if_neg (by omega)] at hq
        exact fin0 N rd D _ hE h1 hT.1 hq.symm h9 h2 h7 hD
      refine z_iload_n dX3_read_12 rfl rfl ?_
      refine z_aload_n dX3_read_13 rfl rfl ?_
      refine z_gi3 (j := 4) dX3_read_14 (by decide) fl_X3_36 rfl rfl rfl ?_
      refine z_icmp_ge (tgt := 53) dX3_read_17 (by decide) rfl (fun g => ?_) (fun g => ?_)
      · rw [hT.1] at g
        have := le_nn g (by omega) (by omega)
        exact out (by omega)
      · refine z_aload_n dX3_read_20 rfl rfl ?_
        refine z_gi3 (j := 5) dX3_read_21 (by decide) fl_X3_39 rfl rfl rfl ?_
        refine z_aload_n dX3_read_24 rfl rfl ?_
        refine z_gi3 (j := 4) dX3_read_25 (by decide) fl_X3_36 rfl rfl rfl ?_
        refine z_icmp_ge (tgt := 53) dX3_read_28 (by decide) rfl (fun g1 => ?_) (fun g1 => ?_)
        · rw [hT.1, h5] at g1
          have := le_nn g1 (by omega) (by omega)
          exact out (by omega)
        · rw [hT.1, h5] at g1
          have hlt := nle_nn g1 (by omega) (by omega)
          rw [if_pos hlt] at hq
          refine z_aload_n dX3_read_31 rfl rfl ?_
          refine z_gi3 (j := 9) dX3_read_32 (by decide) fl_X3_42 rfl rfl rfl ?_
          refine z_if_ne (tgt := 53) dX3_read_35 (by decide) rfl (fun g2 => ?_) (fun g2 => ?_)
          · exact absurd h9 g2
          · refine z_aload_n dX3_read_38 rfl rfl ?_
            refine z_cg0 (ci := 3) (nf := 10) (y := mX3_readClause) dX3_read_39 ml_X3_45 iv_X3_readClause (Nat.le_of_ble_eq_true rfl) rfl (by decide) rfl (Nat.le_of_ble_eq_true rfl) (Nat.le_of_ble_eq_true rfl) (Nat.le_of_ble_eq_true rfl) (c_X3_readClause hst hV N b n a wn rd D hT h5 han hD h8 hw16 h7) RdP_nx rfl ?_
            intro v N2 h
            rcases h with ⟨k, p, e, r, hE2, k9, k2, a2, k5, kn⟩ | ⟨⟨e2, rd2, D2⟩, e, r, hE2, k5, k1, kn, k7, d2⟩
            · cases r
              rw [e] at hq
              have hk := cl_k e
              have hE3 : Eqx S16 M N2 := hE.tr (hE2.mono (fun _ _ q => St5_S16 q))
              refine z_pop dX3_read_42 rfl rfl ?_
              refine z_aload_n dX3_read_43 rfl rfl ?_
              refine z_cn0 (ci := 3) (nf := 10) (y := mX3_skipBlanks) dX3_read_44 ml_X3_33 iv_X3_skipBlanks (Nat.le_of_ble_eq_true rfl) rfl (by decide) rfl (Nat.le_of_ble_eq_true rfl) (Nat.le_of_ble_eq_true rfl) (Nat.le_of_ble_eq_true rfl) (c_X3_skipBlanks hst N2 b n a2 (hT.keep hE2) k5 kn) rfl ?_
              have f1 := fin1 (mu N2 1 5 (nI (run (isBl b) n a2))) k p (some (.int (nI (c + 1)))) (hE3.mu (Or.inl rfl)) (by show N2 1 1 = 0; rw [hE2 1 1 (by unfold St5; omega)]; exact h1) (by unfold rdS; rw [← hq]) (by omega) (by omega) k9 k2
              have n4 : mu N2 1 5 (nI (run (isBl b) n a2)) 1 4 = nI n := by show N2 1 4 = nI n; rw [hE2 1 4 (by unfold St5; omega)]; exact hT.1
              have n9 : mu N2 1 5 (nI (run (isBl b) n a2)) 1 9 = nI k := k9
              generalize mu N2 1 5 (nI (run (isBl b) n a2)) = N3 at f1 n4 n9 ⊢
              first | refine z_iu3 dX3_read_47 (Nat.le_of_ble_eq_true rfl) rfl ?_ | refine z_inc3 dX3_read_47 (Nat.le_of_ble_eq_true rfl) rfl rfl ?_
              refine z_goto (tgt := 12) dX3_read_50 (by decide) ?_
              refine z_iload_n dX3_read_12 rfl rfl ?_
              refine z_aload_n dX3_read_13 rfl rfl ?_
              refine z_gi3 (j := 4) dX3_read_14 (by decide) fl_X3_36 rfl rfl rfl ?_
              refine z_icmp_ge (tgt := 53) dX3_read_17 (by decide) rfl (fun g3 => ?_) (fun g3 => ?_)
              · exact f1
              · refine z_aload_n dX3_read_20 rfl rfl ?_
                refine z_gi3 (j := 5) dX3_read_21 (by decide) fl_X3_39 rfl rfl rfl ?_
                refine z_aload_n dX3_read_24 rfl rfl ?_
                refine z_gi3 (j := 4) dX3_read_25 (by decide) fl_X3_36 rfl rfl rfl ?_
                refine z_icmp_ge (tgt := 53) dX3_read_28 (by decide) rfl (fun g4 => ?_) (fun g4 => ?_)
                · exact f1
                · refine z_aload_n dX3_read_31 rfl rfl ?_
                  refine z_gi3 (j := 9) dX3_read_32 (by decide) fl_X3_42 rfl rfl rfl ?_
                  refine z_if_ne (tgt := 53) dX3_read_35 (by decide) rfl (fun g5 => ?_) (fun g5 => ?_)
                  · exact f1
                  · rw [n9] at g5
                    exact absurd ((nI_eq (b := 0) (by omega) (by decide)).mp g5) (by omega)
            · cases r
              rw [e] at hq
              simp only at hq k5 k1 kn k7 d2
              have hE5 : Eqx St5 N N2 := hE2.mono (fun a b q => by unfold Sok7 at q; unfold St5; omega)
              have g6 := run_ge (p := isBl b) (n := n) e2
              have g7 := run_le (p := isBl b) e2 kn
              refine z_pop dX3_read_42 rfl rfl ?_
              refine z_aload_n dX3_read_43 rfl rfl ?_
              refine z_cn0 (ci := 3) (nf := 10) (y := mX3_skipBlanks) dX3_read_44 ml_X3_33 iv_X3_skipBlanks (Nat.le_of_ble_eq_true rfl) rfl (by decide) rfl (Nat.le_of_ble_eq_true rfl) (Nat.le_of_ble_eq_true rfl) (Nat.le_of_ble_eq_true rfl) (c_X3_skipBlanks hst N2 b n e2 (hT.keep hE5) k5 kn) rfl ?_
              first | refine z_iu3 dX3_read_47 (Nat.le_of_ble_eq_true rfl) rfl ?_ | refine z_inc3 dX3_read_47 (Nat.le_of_ble_eq_true rfl) rfl rfl ?_
              refine z_goto (tgt := 12) dX3_read_50 (by decide) ?_
              refine ih (c + 1) (run (isBl b) n e2) _ rd2 D2 (by omega) (by omega) g7 ((hE.tr (hE5.mono (fun _ _ q => St5_S16 q))).mu (Or.inl rfl)) ?_ ((hT.keep hE5).keep (Eqx.rf.mu (by unfold St5; omega))) rfl ?_ ?_ ?_ k7 (d2.keep (fun b => rfl)) hq
              · show N2 1 1 = 0; rw [hE2 1 1 (by unfold Sok7; omega)]; exact h1
              · show N2 1 8 = nI wn; rw [hE2 1 8 (by unfold Sok7; omega)]; exact h8
              · show N2 1 9 = 0; rw [hE2 1 9 (by unfold Sok7; omega)]; exact h9
              · show N2 1 2 = -1; rw [hE2 1 2 (by unfold Sok7; omega)]; exact h2
  have g8 := run_le (p := isBl b) 0 (Nat.zero_le n)
  exact loop (n + 1) 0 (run (isBl b) n 0) _ (fun _ => false) D0 (by omega) (Nat.zero_le _) g8 (hE.mu (Or.inl rfl)) q1 (hT.keep (Eqx.rf.mu (by unfold St5; omega))) rfl q8 q9 q2 (fun i hi => by show bt (N 1 7) i = false; rw [q7]; exact b_0 i) (hD.keep (fun b => rfl)) rfl
