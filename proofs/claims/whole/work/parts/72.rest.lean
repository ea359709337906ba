/-! what follows a clause's word -/
abbrev Dr : Type := Nat × Nat × Nat × Nat × Option Nat × (Nat → Bool)
def DC (D : Dr) (M : Mem) : Prop := M 6 0 = nI D.1 ∧ M 6 1 = nI D.2.1 ∧ M 6 2 = nI D.2.2.1 ∧ M 6 3 = nI D.2.2.2.1 ∧ M 6 4 = enI D.2.2.2.2.1 ∧ (∀ i, i < 32 → bt (M 6 5) i = D.2.2.2.2.2 i) ∧ M 6 6 = tbit D.2.2.1
def hourS (b : Nat → Nat) (n a : Nat) (D : Dr) : (Nat × Nat) ⊕ (Nat × Dr) := match numS b n a 1 41 with
  | .inl f => .inl f
  | .inr (e1, V1) => match sgnS b n e1 45 with
    | .inl f => .inl f
    | .inr e2 => match numS b n e2 V1 41 with
      | .inl f => .inl f
      | .inr (e3, V3) => .inr (e3, V1, V3, D.2.2)
def handS (b : Nat → Nat) (n a : Nat) (D : Dr) : (Nat × Nat) ⊕ (Nat × Dr) := match numS b n a 0 31 with
  | .inl f => .inl f
  | .inr (e, V) => .inr (e, D.1, D.2.1, D.2.2.1, V, D.2.2.2.2)
def bckS (b : Nat → Nat) (n a : Nat) (D : Dr) : (Nat × Nat) ⊕ (Nat × Dr) := match numS b n a 0 41 with
  | .inl f => .inl f
  | .inr (e, V) => .inr (e, D.1, D.2.1, D.2.2.1, D.2.2.2.1, some V, D.2.2.2.2.2)
def aftS (b : Nat → Nat) (n wn : Nat) : Nat → Nat → Dr → (Nat × Nat) ⊕ (Nat × Dr)
  | 0, a, D => .inr (a, D)
  | f + 1, a, D => match numS b n a 0 wn with
    | .inl f => .inl f
    | .inr (e, V) => if run (isBl b) n e < n ∧ isDg b (run (isBl b) n e) = true then aftS b n wn f (run (isBl b) n e) (D.1, D.2.1, D.2.2.1, D.2.2.2.1, D.2.2.2.2.1, fun i => D.2.2.2.2.2 i || decide (i = V)) else .inr (run (isBl b) n e, D.1, D.2.1, D.2.2.1, D.2.2.2.1, D.2.2.2.2.1, fun i => D.2.2.2.2.2 i || decide (i = V))
theorem num_ok {b : Nat → Nat} {n a lo h1 e V : Nat} (han : a ≤ n) (h : numS b n a lo h1 = .inr (e, V)) : a < e ∧ e ≤ n ∧ lo ≤ V ∧ V < h1 := by
  unfold numS at h
  have g1 := run_ge (p := isBl b) (n := n) a
  have g2 := run_le (p := isBl b) a han
  generalize run (isBl b) n a = s at h g1 g2
  have g3 := run_ge (p := isDg b) (n := n) s
  have g4 := run_le (p := isDg b) s g2
  generalize run (isDg b) n s = e2 at h g3 g4
  split at h
  · cases h
  · split at h
    · cases h; omega
    · cases h
theorem sgn_ok {b : Nat → Nat} {n a c e : Nat} (h : sgnS b n a c = .inr e) : a < e ∧ e ≤ n := by
  unfold sgnS at h
  have g1 := run_ge (p := isBl b) (n := n) a
  generalize run (isBl b) n a = s at h g1
  split at h
  · cases h; omega
  · cases h
def Sok (a b : Nat) : Prop := (a = 1 ∧ (b = 5 ∨ b = 6)) ∨ a = 6
theorem Sok_St5 {a b : Nat} (h : Sok a b) : St5 a b := by unfold Sok at h; unfold St5; omega
def RdC (b : Nat → Nat) (n : Nat) (o : (Nat × Nat) ⊕ (Nat × Dr)) (M : Mem) : Option Value ⊕ String → Mem → Prop := RdP n o M (fun q N => Eqx Sok M N ∧ N 1 5 = nI q.1 ∧ q.1 ≤ n ∧ DC q.2 N)
theorem DC.keep {D : Dr} {M N : Mem} (h : DC D M) (hE : ∀ b, N 6 b = M 6 b) : DC D N := by
  unfold DC
  rw [hE, hE, hE, hE, hE, hE, hE]
  exact h
theorem hi_lit {h1 : Nat} {x : Int32} (hh : h1 ≤ 100) (e : x = nI h1) : ∀ V, V ≤ 1000 → (nI V ≤ x ↔ V < h1 + 1) := fun V hV => by
  subst e
  rw [nI_leI (by omega) (by omega)]; omega
theorem hi_wn {wn : Nat} (hw : wn ≤ 16) : ∀ V, V ≤ 1000 → (nI V ≤ nI wn - 1 ↔ V < wn) := fun V hV => by
  rcases Nat.eq_zero_or_pos wn with e | e
  · subst e
    constructor
    · intro h
      rw [Int32.le_iff_toInt_le, nI_toInt (by omega)] at h
      have : (nI 0 - 1).toInt = -1 := rfl
      omega
    · intro h; omega
  · rw [show nI wn - 1 = nI (wn - 1) from pk_sub (b := 1) (by omega), nI_leI (by omega) (by omega)]; omega
set_option maxHeartbeats 4000000 in
theorem c_X3_readHands {l : Launch} {E : EnT} (hst : l.stackTraces = false) (M : Mem) (b : Nat → Nat) (n a : Nat) (D : Dr) (hT : TC b n M) (ha : M 1 5 = nI a) (han : a ≤ n) (hD : DC D M) : Mm l E mX3_readHands 2 0 0 [.ref 1] M (RdC b n (handS b n a D) M) := by
  refine Mm_go hst (by decide) rfl (Nat.le_of_ble_eq_true rfl) [some (.ref 1)] rfl ?_
  refine z_aload_n dX3_readHands_0 rfl rfl ?_
  refine z_iconst (v := 0) dX3_readHands_1 (by decide) rfl ?_
  refine z_tp (b := (nI 0)) rfl ?_
  refine z_bipush (v := 30) dX3_readHands_2 (by decide) rfl ?_
  refine z_cg2 (ci := 3) (nf := 10) (y := mX3_readNumber) dX3_readHands_4 ml_X3_109 iv_X3_readNumber (Nat.le_of_ble_eq_true rfl) rfl (by decide) rfl (Nat.le_of_ble_eq_true rfl) (Nat.le_of_ble_eq_true rfl) (Nat.le_of_ble_eq_true rfl) (c_X3_readNumber hst M b n a 0 31 30 hT ha han (by decide) (by decide) (hi_lit (h1 := 30) (by decide) rfl)) RdP_nx rfl ?_
  intro v N h
  rcases h with ⟨k, p, e, r, hE, h9, h2⟩ | ⟨⟨e1, V⟩, e, r, hE, h5, h6⟩
  · cases r
    refine z_if_ne (tgt := 12) dX3_readHands_7 (by decide) rfl (fun g => ?_) (fun g => ?_)
    · exact absurd rfl g
    · refine z_iconst (v := 0) dX3_readHands_10 (by decide) rfl ?_
      exact z_zreturn dX3_readHands_11 rfl rfl (Or.inl ⟨k, p, by unfold handS; rw [e], rfl, hE, h9, h2⟩) (Nat.le_of_ble_eq_true rfl) (Nat.le_of_ble_eq_true rfl)
  · cases r
    have hb := num_ok han e
    have d := hD.keep (N := N) (fun b => hE 6 b (by omega))
    refine z_if_ne (tgt := 12) dX3_readHands_7 (by decide) rfl (fun g => ?_) (fun g => ?_)
    · refine z_aload_n dX3_readHands_12 rfl rfl ?_
      refine z_gr3 (j := 0) dX3_readHands_13 (by decide) fl_X3_12 rfl rfl rfl ?_
      refine z_aload_n dX3_readHands_16 rfl rfl ?_
      refine z_gi3 (j := 6) dX3_readHands_17 (by decide) fl_X3_112 rfl rfl rfl ?_
      refine z_tp (b := (nI V)) h6 ?_
      refine z_pi4 (j := 3) dX3_readHands_20 (by decide) fl_X3_133 rfl rfl (by first | assumption | rfl | exact knd_w (by omega)) rfl rfl ?_
      refine z_iconst (v := 1) dX3_readHands_23 (by decide) rfl ?_
      exact z_zreturn dX3_readHands_24 rfl rfl (Or.inr ⟨(e1, D.1, D.2.1, D.2.2.1, V, D.2.2.2.2), by unfold handS; rw [e], rfl, (hE.mono (fun a b q => by unfold Sok; omega)).mu (by unfold Sok; omega), h5, by have := hb.2.1; exact this, d.1, d.2.1, d.2.2.1, rfl, d.2.2.2.2.1, d.2.2.2.2.2.1, d.2.2.2.2.2.2⟩) (Nat.le_of_ble_eq_true rfl) (Nat.le_of_ble_eq_true rfl)
    · exact absurd g (by decide)
set_option maxHeartbeats 4000000 in
theorem c_X3_readBack {l : Launch} {E : EnT} (hst : l.stackTraces = false) (M : Mem) (b : Nat → Nat) (n a : Nat) (D : Dr) (hT : TC b n M) (ha : M 1 5 = nI a) (han : a ≤ n) (hD : DC D M) : Mm l E mX3_readBack 2 0 0 [.ref 1] M (RdC b n (bckS b n a D) M) := by
  refine Mm_go hst (by decide) rfl (Nat.le_of_ble_eq_true rfl) [some (.ref 1)] rfl ?_
  refine z_aload_n dX3_readBack_0 rfl rfl ?_
  refine z_iconst (v := 0) dX3_readBack_1 (by decide) rfl ?_
  refine z_tp (b := (nI 0)) rfl ?_
  refine z_bipush (v := 40) dX3_readBack_2 (by decide) rfl ?_
  refine z_cg2 (ci := 3) (nf := 10) (y := mX3_readNumber) dX3_readBack_4 ml_X3_109 iv_X3_readNumber (Nat.le_of_ble_eq_true rfl) rfl (by decide) rfl (Nat.le_of_ble_eq_true rfl) (Nat.le_of_ble_eq_true rfl) (Nat.le_of_ble_eq_true rfl) (c_X3_readNumber hst M b n a 0 41 40 hT ha han (by decide) (by decide) (hi_lit (h1 := 40) (by decide) rfl)) RdP_nx rfl ?_
  intro v N h
  rcases h with ⟨k, p, e, r, hE, h9, h2⟩ | ⟨⟨e1, V⟩, e, r, hE, h5, h6⟩
  · cases r
    refine z_if_ne (tgt := 12) dX3_readBack_7 (by decide) rfl (fun g => ?_) (fun g => ?_)
    · exact absurd rfl g
    · refine z_iconst (v := 0) dX3_readBack_10 (by decide) rfl ?_
      exact z_zreturn dX3_readBack_11 rfl rfl (Or.inl ⟨k, p, by unfold bckS; rw [e], rfl, hE, h9, h2⟩) (Nat.le_of_ble_eq_true rfl) (Nat.le_of_ble_eq_true rfl)
  · cases r
    have hb := num_ok han e
    have d := hD.keep (N := N) (fun b => hE 6 b (by omega))
    refine z_if_ne (tgt := 12) dX3_readBack_7 (by decide) rfl (fun g => ?_) (fun g => ?_)
    · refine z_aload_n dX3_readBack_12 rfl rfl ?_
      refine z_gr3 (j := 0) dX3_readBack_13 (by decide) fl_X3_12 rfl rfl rfl ?_
      refine z_aload_n dX3_readBack_16 rfl rfl ?_
      refine z_gi3 (j := 6) dX3_readBack_17 (by decide) fl_X3_112 rfl rfl rfl ?_
      refine z_tp (b := (nI V)) h6 ?_
      refine z_pi4 (j := 4) dX3_readBack_20 (by decide) fl_X3_135 rfl rfl (by first | assumption | rfl | exact knd_w (by omega)) rfl rfl ?_
      refine z_iconst (v := 1) dX3_readBack_23 (by decide) rfl ?_
      exact z_zreturn dX3_readBack_24 rfl rfl (Or.inr ⟨(e1, D.1, D.2.1, D.2.2.1, D.2.2.2.1, some V, D.2.2.2.2.2), by unfold bckS; rw [e], rfl, (hE.mono (fun a b q => by unfold Sok; omega)).mu (by unfold Sok; omega), h5, by have := hb.2.1; exact this, d.1, d.2.1, d.2.2.1, d.2.2.2.1, rfl, d.2.2.2.2.2.1, d.2.2.2.2.2.2⟩) (Nat.le_of_ble_eq_true rfl) (Nat.le_of_ble_eq_true rfl)
    · exact absurd g (by decide)
set_option maxHeartbeats 4000000 in
theorem c_X3_readHours {l : Launch} {E : EnT} (hst : l.stackTraces = false) (M : Mem) (b : Nat → Nat) (n a : Nat) (D : Dr) (hT : TC b n M) (ha : M 1 5 = nI a) (han : a ≤ n) (hD : DC D M) : Mm l E mX3_readHours 2 0 0 [.ref 1] M (RdC b n (hourS b n a D) M) := by
  refine Mm_go hst (by decide) rfl (Nat.le_of_ble_eq_true rfl) [some (.ref 1)] rfl ?_
  refine z_aload_n dX3_readHours_0 rfl rfl ?_
  refine z_iconst (v := 1) dX3_readHours_1 (by decide) rfl ?_
  refine z_tp (b := (nI 1)) rfl ?_
  refine z_bipush (v := 40) dX3_readHours_2 (by decide) rfl ?_
  refine z_cg2 (ci := 3) (nf := 10) (y := mX3_readNumber) dX3_readHours_4 ml_X3_109 iv_X3_readNumber (Nat.le_of_ble_eq_true rfl) rfl (by decide) rfl (Nat.le_of_ble_eq_true rfl) (Nat.le_of_ble_eq_true rfl) (Nat.le_of_ble_eq_true rfl) (c_X3_readNumber hst M b n a 1 41 40 hT ha han (by decide) (by decide) (hi_lit (h1 := 40) (by decide) rfl)) RdP_nx rfl ?_
  intro v N h
  rcases h with ⟨k, p, e, r, hE, h9, h2⟩ | ⟨⟨e1, V⟩, e, r, hE, h5, h6⟩
  · cases r
    refine z_if_ne (tgt := 12) dX3_readHours_7 (by decide) rfl (fun g => ?_) (fun g => ?_)
    · exact absurd rfl g
    · refine z_iconst (v := 0) dX3_readHours_10 (by decide) rfl ?_
      exact z_zreturn dX3_readHours_11 rfl rfl (Or.inl ⟨k, p, by unfold hourS; rw [e], rfl, hE, h9, h2⟩) (Nat.le_of_ble_eq_true rfl) (Nat.le_of_ble_eq_true rfl)
  · cases r
    obtain ⟨b1, b2, b3, b4⟩ := num_ok han e
    have d := hD.keep (N := N) (fun b => hE 6 b (by omega))
    have hEs : Eqx Sok M (mu N 6 0 (nI V)) := (hE.mono (fun a b q => by unfold Sok; omega)).mu (by unfold Sok; omega)
    refine z_if_ne (tgt := 12) dX3_readHours_7 (by decide) rfl (fun g => ?_) (fun g => ?_)
    · refine z_aload_n dX3_readHours_12 rfl rfl ?_
      refine z_gr3 (j := 0) dX3_readHours_13 (by decide) fl_X3_12 rfl rfl rfl ?_
      refine z_aload_n dX3_readHours_16 rfl rfl ?_
      refine z_gi3 (j := 6) dX3_readHours_17 (by decide) fl_X3_112 rfl rfl rfl ?_
      refine z_tp (b := (nI V)) h6 ?_
      refine z_pi4 (j := 0) dX3_readHours_20 (by decide) fl_X3_115 rfl rfl (by first | assumption | rfl | exact knd_w (by omega)) rfl rfl ?_
      refine z_aload_n dX3_readHours_23 rfl rfl ?_
      refine z_bipush (v := 45) dX3_readHours_24 (by decide) rfl ?_
      refine z_tp (b := (nI 45)) rfl ?_
      refine z_cg1 (ci := 3) (nf := 10) (y := mX3_readSign) dX3_readHours_26 ml_X3_73 iv_X3_readSign (Nat.le_of_ble_eq_true rfl) rfl (by decide) rfl (Nat.le_of_ble_eq_true rfl) (Nat.le_of_ble_eq_true rfl) (Nat.le_of_ble_eq_true rfl) (c_X3_readSign hst (mu N 6 0 (nI V)) b n e1 45 (hT.keep (hEs.mono (fun _ _ q => Sok_St5 q))) h5 b2 (by decide)) RdP_nx rfl ?_
      intro v N2 h
      rcases h with ⟨k, p, e', r, hE2, h9, h2⟩ | ⟨e2, e', r, hN2⟩
      · cases r
        refine z_if_eq (tgt := 48) dX3_readHours_29 (by decide) rfl (fun g1 => ?_) (fun g1 => ?_)
        · refine z_iconst (v := 0) dX3_readHours_48 (by decide) rfl ?_
          exact z_zreturn dX3_readHours_49 rfl rfl (Or.inl ⟨k, p, by unfold hourS; rw [e]; simp only; rw [e'], rfl, (hEs.mono (fun _ _ q => Sok_St5 q)).tr hE2, h9, h2⟩) (Nat.le_of_ble_eq_true rfl) (Nat.le_of_ble_eq_true rfl)
        · exact absurd rfl g1
      · cases r
        have b5 := sgn_ok e'
        subst hN2
        have hE2 : Eqx Sok M (mu (mu N 6 0 (nI V)) 1 5 (nI e2)) := hEs.mu (by unfold Sok; omega)
        refine z_if_eq (tgt := 48) dX3_readHours_29 (by decide) rfl (fun g1 => ?_) (fun g1 => ?_)
        · exact absurd g1 (by decide)
        · refine z_aload_n dX3_readHours_32 rfl rfl ?_
          refine z_aload_n dX3_readHours_33 rfl rfl ?_
          refine z_gr3 (j := 0) dX3_readHours_34 (by decide) fl_X3_12 rfl rfl rfl ?_
          refine z_gi4 (j := 0) dX3_readHours_37 (by decide) fl_X3_115 (by first | assumption | rfl | exact knd_w (by omega)) rfl rfl ?_
          refine z_tp (b := nI V) rfl ?_
          refine z_bipush (v := 40) dX3_readHours_40 (by decide) rfl ?_
          refine z_cg2 (ci := 3) (nf := 10) (y := mX3_readNumber) dX3_readHours_42 ml_X3_109 iv_X3_readNumber (Nat.le_of_ble_eq_true rfl) rfl (by decide) rfl (Nat.le_of_ble_eq_true rfl) (Nat.le_of_ble_eq_true rfl) (Nat.le_of_ble_eq_true rfl) (c_X3_readNumber hst _ b n e2 V 41 40 (hT.keep (hE2.mono (fun _ _ q => Sok_St5 q))) rfl b5.2 (by omega) (by decide) (hi_lit (h1 := 40) (by decide) rfl)) RdP_nx rfl ?_
          intro v N3 h
          rcases h with ⟨k, p, e'', r, hE3, h9, h2⟩ | ⟨⟨e3, V3⟩, e'', r, hE3, h53, h63⟩
          · cases r
            refine z_if_ne (tgt := 50) dX3_readHours_45 (by decide) rfl (fun g2 => ?_) (fun g2 => ?_)
            · exact absurd rfl g2
            · refine z_iconst (v := 0) dX3_readHours_48 (by decide) rfl ?_
              exact z_zreturn dX3_readHours_49 rfl rfl (Or.inl ⟨k, p, by unfold hourS; rw [e]; simp only; rw [e']; simp only; rw [e''], rfl, (hE2.mono (fun _ _ q => Sok_St5 q)).tr hE3, h9, h2⟩) (Nat.le_of_ble_eq_true rfl) (Nat.le_of_ble_eq_true rfl)
          · cases r
            obtain ⟨c1, c2, c3, c4⟩ := num_ok b5.2 e''
            have k6 : ∀ b, N3 6 b = mu (mu N 6 0 (nI V)) 1 5 (nI e2) 6 b := fun b => hE3 6 b (by omega)
            refine z_if_ne (tgt := 50) dX3_readHours_45 (by decide) rfl (fun g2 => ?_) (fun g2 => ?_)
            · refine z_aload_n dX3_readHours_50 rfl rfl ?_
              refine z_gr3 (j := 0) dX3_readHours_51 (by decide) fl_X3_12 rfl rfl rfl ?_
              refine z_aload_n dX3_readHours_54 rfl rfl ?_
              refine z_gi3 (j := 6) dX3_readHours_55 (by decide) fl_X3_112 rfl rfl rfl ?_
              refine z_tp (b := (nI V3)) h63 ?_
              refine z_pi4 (j := 1) dX3_readHours_58 (by decide) fl_X3_118 rfl rfl (by first | assumption | rfl | exact knd_w (by omega)) rfl rfl ?_
              refine z_iconst (v := 1) dX3_readHours_61 (by decide) rfl ?_
              exact z_zreturn dX3_readHours_62 rfl rfl (Or.inr ⟨(e3, V, V3, D.2.2), by unfold hourS; rw [e]; simp only; rw [e']; simp only; rw [e''], rfl, (hE2.tr (hE3.mono (fun a b q => by unfold Sok; omega))).mu (by unfold Sok; omega), h53, c2, by show N3 6 0 = _; rw [k6]; rfl, rfl, by show N3 6 2 = _; rw [k6]; exact d.2.2.1, by show N3 6 3 = _; rw [k6]; exact d.2.2.2.1, by show N3 6 4 = _; rw [k6]; exact d.2.2.2.2.1, fun i hi => by show bt (N3 6 5) i = _; rw [k6]; exact d.2.2.2.2.2.1 i hi, by show N3 6 6 = _; rw [k6]; exact d.2.2.2.2.2.2⟩) (Nat.le_of_ble_eq_true rfl) (Nat.le_of_ble_eq_true rfl)
            · exact absurd g2 (by decide)
    · exact absurd g (by decide)
set_option maxHeartbeats 8000000 in
theorem c_X3_readAfter {l : Launch} {E : EnT} (hst : l.stackTraces = false) (M : Mem) (b : Nat → Nat) (n a wn : Nat) (D : Dr) (hT : TC b n M) (ha : M 1 5 = nI a) (han : a ≤ n) (ha1 : 1 ≤ a) (hD : DC D M) (hw : M 1 8 = nI wn) (hw16 : wn ≤ 16) (f : Nat) (hf : n - a < f) : Mm l E mX3_readAfter 2 0 0 [.ref 1] M (RdC b n (aftS b n wn f a D) M) := by
  have hn200 := hT.2.1
  refine Mm_go hst (by decide) rfl (Nat.le_of_ble_eq_true rfl) [some (.ref 1), none] rfl ?_
  refine z_iconst (v := 0) dX3_readAfter_0 (by decide) rfl ?_
  refine z_ist1 dX3_readAfter_1 (Nat.le_of_ble_eq_true rfl) rfl ?_
  generalize hQ : RdC b n (aftS b n wn f a D) M = Q
  -- one number, and what follows it
  have body : ∀ (f j x : Nat) (N : Mem) (D2 : Dr), n - x < f → j < x → x ≤ n → Eqx Sok M N → N 1 5 = nI x → DC D2 N → RdC b n (aftS b n wn f x D2) M = Q → Zz (zx l E mX3_readAfter 2 Q) 0 0 21 [some (.ref 1), some (.int (nI j))] [] N := by
    intro f
    induction f with
    | zero => intro j x N D2 hf; exact absurd hf (Nat.not_lt_zero _)
    | succ f ih =>
      intro j x N D2 hf hj hx hE h5 hD2 hq
      have hE5 := hE.mono (fun _ _ q => Sok_St5 q)
      refine z_aload_n dX3_readAfter_21 rfl rfl ?_
      refine z_iconst (v := 0) dX3_readAfter_22 (by decide) rfl ?_
      refine z_tp (b := (nI 0)) rfl ?_
      refine z_aload_n dX3_readAfter_23 rfl rfl ?_
      refine z_gi3 (j := 8) dX3_readAfter_24 (by decide) fl_X3_60 rfl rfl rfl ?_
      refine z_tp (b := (nI wn)) (by rw [hE 1 8 (by unfold Sok; omega)]; exact hw) ?_
      refine z_iconst (v := 1) dX3_readAfter_27 (by decide) rfl ?_
      refine z_isub dX3_readAfter_28 rfl ?_
      refine z_cg2 (ci := 3) (nf := 10) (y := mX3_readNumber) dX3_readAfter_29 ml_X3_109 iv_X3_readNumber (Nat.le_of_ble_eq_true rfl) rfl (by decide) rfl (Nat.le_of_ble_eq_true rfl) (Nat.le_of_ble_eq_true rfl) (Nat.le_of_ble_eq_true rfl) (c_X3_readNumber hst N b n x 0 wn (nI wn - 1) (hT.keep hE5) h5 hx (by decide) (by omega) (hi_wn hw16)) RdP_nx rfl ?_
      intro v N2 h
      rcases h with ⟨k, p, e, r, hE2, h9, h2⟩ | ⟨⟨e1, V⟩, e, r, hE2, h52, h62⟩
      · cases r
        refine z_if_ne (tgt := 37) dX3_readAfter_32 (by decide) rfl (fun g => ?_) (fun g => ?_)
        · exact absurd rfl g
        · rw [← hq]
          refine z_iconst (v := 0) dX3_readAfter_35 (by decide) rfl ?_
          exact z_zreturn dX3_readAfter_36 rfl rfl (Or.inl ⟨k, p, by rw [aftS, e], rfl, hE5.tr hE2, h9, h2⟩) (Nat.le_of_ble_eq_true rfl) (Nat.le_of_ble_eq_true rfl)
      · cases r
        obtain ⟨b1, b2, b3, b4⟩ := num_ok hx e
        have d := hD2.keep (N := N2) (fun b => hE2 6 b (by omega))
        have hE3 : Eqx Sok M N2 := hE.tr (hE2.mono (fun a b q => by unfold Sok; omega))
        refine z_if_ne (tgt := 37) dX3_readAfter_32 (by decide) rfl (fun g => ?_) (fun g => ?_)
        · refine z_aload_n dX3_readAfter_37 rfl rfl ?_
          refine z_gr3 (j := 0) dX3_readAfter_38 (by decide) fl_X3_12 rfl rfl rfl ?_
          refine z_dup dX3_readAfter_41 rfl rfl ?_
          refine z_gi4 (j := 5) dX3_readAfter_42 (by decide) fl_X3_140 (by first | assumption | rfl | exact knd_w (by omega)) rfl rfl ?_
          refine z_iconst (v := 1) dX3_readAfter_45 (by decide) rfl ?_
          refine z_aload_n dX3_readAfter_46 rfl rfl ?_
          refine z_gi3 (j := 6) dX3_readAfter_47 (by decide) fl_X3_112 rfl rfl rfl ?_
          refine z_tp (b := (nI V)) h62 ?_
          refine z_ishl dX3_readAfter_50 rfl ?_
          refine z_ior dX3_readAfter_51 rfl ?_
          refine z_pi4 (j := 5) dX3_readAfter_52 (by decide) fl_X3_140 rfl rfl (by first | assumption | rfl | exact knd_w (by omega)) rfl rfl ?_
          first | refine z_iu1 dX3_readAfter_55 (Nat.le_of_ble_eq_true rfl) rfl ?_ | refine z_inc1 dX3_readAfter_55 (Nat.le_of_ble_eq_true rfl) rfl rfl ?_
          refine z_goto (tgt := 2) dX3_readAfter_58 (by decide) ?_
          have hE4 : Eqx Sok M (mu N2 6 5 (N2 6 5 ||| ((1 : Int32) <<< (nI V &&& 31)))) := hE3.mu (by unfold Sok; omega)
          have d3 : DC (D2.1, D2.2.1, D2.2.2.1, D2.2.2.2.1, D2.2.2.2.2.1, fun i => D2.2.2.2.2.2 i || decide (i = V)) (mu N2 6 5 (N2 6 5 ||| ((1 : Int32) <<< (nI V &&& 31)))) := ⟨d.1, d.2.1, d.2.2.1, d.2.2.2.1, d.2.2.2.2.1, fun i hi => by
            show bt (N2 6 5 ||| ((1 : Int32) <<< (nI V &&& 31))) i = _
            rw [b_or, d.2.2.2.2.2.1 i hi, b_one V (by omega) i hi], d.2.2.2.2.2.2⟩
          have n5 : mu N2 6 5 (N2 6 5 ||| ((1 : Int32) <<< (nI V &&& 31))) 1 5 = nI e1 := h52
          generalize mu N2 6 5 (N2 6 5 ||| ((1 : Int32) <<< (nI V &&& 31))) = N4 at hE4 d3 n5 ⊢
          have n4 : N4 1 4 = nI n := by rw [hE4 1 4 (by unfold Sok; omega)]; exact hT.1
          have hs1 := run_ge (p := isBl b) (n := n) e1
          have hs2 := run_le (p := isBl b) e1 b2
          refine z_iload_n dX3_readAfter_2 rfl rfl ?_
          refine z_aload_n dX3_readAfter_3 rfl rfl ?_
          refine z_gi3 (j := 4) dX3_readAfter_4 (by decide) fl_X3_36 rfl rfl rfl ?_
          refine z_icmp_ge (tgt := 61) dX3_readAfter_7 (by decide) rfl (fun g1 => ?_) (fun g1 => ?_)
          · rw [n4] at g1
            exact absurd (le_nn g1 (by omega) (by omega)) (by omega)
          · refine z_iload_n dX3_readAfter_10 rfl rfl ?_
            refine z_if_eq (tgt := 21) dX3_readAfter_11 (by decide) rfl (fun g2 => ?_) (fun g2 => ?_)
            · exact absurd ((nI_eq (b := 0) (by omega) (by decide)).mp g2) (by omega)
            · refine z_aload_n dX3_readAfter_14 rfl rfl ?_
              refine z_cv0 (ci := 3) (nf := 10) (y := mX3_isNumberNext) dX3_readAfter_15 ml_X3_137 iv_X3_isNumberNext (Nat.le_of_ble_eq_true rfl) rfl (by decide) rfl (Nat.le_of_ble_eq_true rfl) (Nat.le_of_ble_eq_true rfl) (Nat.le_of_ble_eq_true rfl) (c_X3_isNumberNext hst N4 b n e1 (hT.keep (hE4.mono (fun _ _ q => Sok_St5 q))) n5 b2) rfl ?_
              by_cases c : run (isBl b) n e1 < n ∧ isDg b (run (isBl b) n e1) = true
              · rw [decide_eq_true c.1, c.2]
                refine z_if_eq (tgt := 61) dX3_readAfter_18 (by decide) rfl (fun g3 => ?_) (fun g3 => ?_)
                · exact absurd g3 (by decide)
                · refine ih (j + 1) (run (isBl b) n e1) _ _ (by omega) (by omega) hs2 (hE4.mu (by unfold Sok; omega)) rfl (d3.keep (fun b => rfl)) ?_
                  rw [← hq, aftS, e]
                  simp only
                  rw [if_pos c]
              · have cf : (decide (run (isBl b) n e1 < n) && isDg b (run (isBl b) n e1)) = false := by
                  cases q1 : isDg b (run (isBl b) n e1)
                  · rw [Bool.and_false]
                  · rw [decide_eq_false (fun q => c ⟨q, q1⟩)]; rfl
                rw [cf]
                refine z_if_eq (tgt := 61) dX3_readAfter_18 (by decide) rfl (fun g3 => ?_) (fun g3 => ?_)
                · rw [← hq]
                  refine z_iconst (v := 1) dX3_readAfter_61 (by decide) rfl ?_
                  exact z_zreturn dX3_readAfter_62 rfl rfl (Or.inr ⟨(run (isBl b) n e1, D2.1, D2.2.1, D2.2.2.1, D2.2.2.2.1, D2.2.2.2.2.1, fun i => D2.2.2.2.2.2 i || decide (i = V)), by rw [aftS, e]; simp only; rw [if_neg c], rfl, hE4.mu (by unfold Sok; omega), rfl, hs2, d3.keep (fun b => rfl)⟩) (Nat.le_of_ble_eq_true rfl) (Nat.le_of_ble_eq_true rfl)
                · exact absurd rfl g3
        · exact absurd g (by decide)
  refine z_iload_n dX3_readAfter_2 rfl rfl ?_
  refine z_aload_n dX3_readAfter_3 rfl rfl ?_
  refine z_gi3 (j := 4) dX3_readAfter_4 (by decide) fl_X3_36 rfl rfl rfl ?_
  refine z_icmp_ge (tgt := 61) dX3_readAfter_7 (by decide) rfl (fun g1 => ?_) (fun g1 => ?_)
  · rw [hT.1] at g1
    exact absurd (le_nn (b := 0) g1 (by omega) (by decide)) (by omega)
  · refine z_iload_n dX3_readAfter_10 rfl rfl ?_
    refine z_if_eq (tgt := 21) dX3_readAfter_11 (by decide) rfl (fun g2 => ?_) (fun g2 => ?_)
    · exact body f 0 a M D hf (by omega) han Eqx.rf ha hD hQ
    · exact absurd rfl g2
