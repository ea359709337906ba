/-! a clause, the class's side -/
def restS (b : Nat → Nat) (n wn c a : Nat) (D : Dr) : (Nat × Nat) ⊕ (Nat × Dr) := if c = 0 then hourS b n a D else if c = 1 then thgS b n a D else if c = 2 then handS b n a D else if c = 3 then bckS b n a D else aftS b n wn (n + 1) a D
theorem aft_ok {b : Nat → Nat} {n wn : Nat} : ∀ {f a e : Nat} {D D2 : Dr}, a ≤ n → aftS b n wn f a D = .inr (e, D2) → a ≤ e ∧ e ≤ n
  | 0, a, e, D, D2, han, h => by cases h; omega
  | f + 1, a, e, D, D2, han, h => by
    rw [aftS] at h
    cases hn : numS b n a 0 wn with
    | inl x => rw [hn] at h; cases h
    | inr x =>
      obtain ⟨e1, V⟩ := x
      rw [hn] at h
      simp only at h
      obtain ⟨b1, b2, -⟩ := num_ok han hn
      have g1 := run_ge (p := isBl b) (n := n) e1
      have g2 := run_le (p := isBl b) e1 b2
      split at h
      · have := aft_ok g2 h; omega
      · cases h; omega
theorem rest_ok {b : Nat → Nat} {n wn c a e : Nat} {D D2 : Dr} (han : a ≤ n) (h : restS b n wn c a D = .inr (e, D2)) : a ≤ e ∧ e ≤ n := by
  unfold restS at h
  split at h
  · unfold hourS at h
    cases hn : numS b n a 1 41 with
    | inl x => rw [hn] at h; cases h
    | inr x =>
      obtain ⟨e1, V⟩ := x
      rw [hn] at h
      obtain ⟨b1, b2, -⟩ := num_ok han hn
      simp only at h
      cases hs : sgnS b n e1 45 with
      | inl x => rw [hs] at h; cases h
      | inr e2 =>
        rw [hs] at h
        obtain ⟨c1, c2⟩ := sgn_ok hs
        simp only at h
        cases hm : numS b n e2 V 41 with
        | inl x => rw [hm] at h; cases h
        | inr x =>
          obtain ⟨e3, V3⟩ := x
          rw [hm] at h
          obtain ⟨d1, d2, -⟩ := num_ok c2 hm
          cases h; omega
  · split at h
    · unfold thgS at h
      have g1 := run_ge (p := isBl b) (n := n) a
      have g2 := run_le (p := isBl b) a han
      generalize run (isBl b) n a = s at h g1 g2
      have g3 := run_ge (p := isLe b) (n := n) s
      have g4 := run_le (p := isLe b) s g2
      cases ht : thgW b n s with
      | none => rw [ht] at h; cases h
      | some t => rw [ht] at h; cases h; omega
    · split at h
      · unfold handS at h
        cases hn : numS b n a 0 31 with
        | inl x => rw [hn] at h; cases h
        | inr x =>
          obtain ⟨e1, V⟩ := x
          rw [hn] at h
          obtain ⟨b1, b2, -⟩ := num_ok han hn
          cases h; omega
      · split at h
        · unfold bckS at h
          cases hn : numS b n a 0 41 with
          | inl x => rw [hn] at h; cases h
          | inr x =>
            obtain ⟨e1, V⟩ := x
            rw [hn] at h
            obtain ⟨b1, b2, -⟩ := num_ok han hn
            cases h; omega
        · exact aft_ok han h
set_option maxHeartbeats 8000000 in
theorem c_X3_readRest {l : Launch} {E : EnT} (hst : l.stackTraces = false) (hV : hVw E) (M : Mem) (b : Nat → Nat) (n a wn c : Nat) (D : Dr) (hT : TC b n M) (ha : M 1 5 = nI a) (han : a ≤ n) (ha1 : 1 ≤ a) (hD : DC D M) (hw : M 1 8 = nI wn) (hw16 : wn ≤ 16) (hc : c ≤ 4) : Mm l E mX3_readRest 6 0 0 [.ref 1, .int (nI c)] M (RdC b n (restS b n wn c a D) M) := by
  rcases (by omega : c = 0 ∨ c = 1 ∨ c = 2 ∨ c = 3 ∨ c = 4) with e | e | e | e | e <;> subst e
  · refine Mm_go hst (by decide) rfl (Nat.le_of_ble_eq_true rfl) [some (.ref 1), some (.int (nI 0))] rfl ?_
    refine z_iload_n dX3_readRest_0 rfl rfl ?_
    refine z_tabIn (off := 31) (tgt := 32) dX3_readRest_1 (by decide) (by decide) (by decide) (by decide) ?_
    refine z_aload_n dX3_readRest_32 rfl rfl ?_
    refine z_cg0 (ci := 3) (nf := 10) (y := mX3_readHours) dX3_readRest_33 ml_X3_94 iv_X3_readHours (Nat.le_of_ble_eq_true rfl) rfl (by decide) rfl (Nat.le_of_ble_eq_true rfl) (Nat.le_of_ble_eq_true rfl) (Nat.le_of_ble_eq_true rfl) (c_X3_readHours hst M b n a D hT ha han hD) RdP_nx rfl ?_
    intro v N h
    rcases h with ⟨k, p, e, r, h'⟩ | ⟨x, e, r, h'⟩ <;> cases r
    · exact z_zreturn dX3_readRest_36 rfl rfl (Or.inl ⟨k, p, e, rfl, h'⟩) (Nat.le_of_ble_eq_true rfl) (Nat.le_of_ble_eq_true rfl)
    · exact z_zreturn dX3_readRest_36 rfl rfl (Or.inr ⟨x, e, rfl, h'⟩) (Nat.le_of_ble_eq_true rfl) (Nat.le_of_ble_eq_true rfl)
  · refine Mm_go hst (by decide) rfl (Nat.le_of_ble_eq_true rfl) [some (.ref 1), some (.int (nI 1))] rfl ?_
    refine z_iload_n dX3_readRest_0 rfl rfl ?_
    refine z_tabIn (off := 36) (tgt := 37) dX3_readRest_1 (by decide) (by decide) (by decide) (by decide) ?_
    refine z_aload_n dX3_readRest_37 rfl rfl ?_
    refine z_cg0 (ci := 3) (nf := 10) (y := mX3_readThing) dX3_readRest_38 ml_X3_97 iv_X3_readThing (Nat.le_of_ble_eq_true rfl) rfl (by decide) rfl (Nat.le_of_ble_eq_true rfl) (Nat.le_of_ble_eq_true rfl) (Nat.le_of_ble_eq_true rfl) (c_X3_readThing hst hV M b n a D hT ha han hD) RdP_nx rfl ?_
    intro v N h
    rcases h with ⟨k, p, e, r, h'⟩ | ⟨x, e, r, h'⟩ <;> cases r
    · exact z_zreturn dX3_readRest_41 rfl rfl (Or.inl ⟨k, p, e, rfl, h'⟩) (Nat.le_of_ble_eq_true rfl) (Nat.le_of_ble_eq_true rfl)
    · exact z_zreturn dX3_readRest_41 rfl rfl (Or.inr ⟨x, e, rfl, h'⟩) (Nat.le_of_ble_eq_true rfl) (Nat.le_of_ble_eq_true rfl)
  · refine Mm_go hst (by decide) rfl (Nat.le_of_ble_eq_true rfl) [some (.ref 1), some (.int (nI 2))] rfl ?_
    refine z_iload_n dX3_readRest_0 rfl rfl ?_
    refine z_tabIn (off := 41) (tgt := 42) dX3_readRest_1 (by decide) (by decide) (by decide) (by decide) ?_
    refine z_aload_n dX3_readRest_42 rfl rfl ?_
    refine z_cg0 (ci := 3) (nf := 10) (y := mX3_readHands) dX3_readRest_43 ml_X3_100 iv_X3_readHands (Nat.le_of_ble_eq_true rfl) rfl (by decide) rfl (Nat.le_of_ble_eq_true rfl) (Nat.le_of_ble_eq_true rfl) (Nat.le_of_ble_eq_true rfl) (c_X3_readHands hst M b n a D hT ha han hD) RdP_nx rfl ?_
    intro v N h
    rcases h with ⟨k, p, e, r, h'⟩ | ⟨x, e, r, h'⟩ <;> cases r
    · exact z_zreturn dX3_readRest_46 rfl rfl (Or.inl ⟨k, p, e, rfl, h'⟩) (Nat.le_of_ble_eq_true rfl) (Nat.le_of_ble_eq_true rfl)
    · exact z_zreturn dX3_readRest_46 rfl rfl (Or.inr ⟨x, e, rfl, h'⟩) (Nat.le_of_ble_eq_true rfl) (Nat.le_of_ble_eq_true rfl)
  · refine Mm_go hst (by decide) rfl (Nat.le_of_ble_eq_true rfl) [some (.ref 1), some (.int (nI 3))] rfl ?_
    refine z_iload_n dX3_readRest_0 rfl rfl ?_
    refine z_tabIn (off := 46) (tgt := 47) dX3_readRest_1 (by decide) (by decide) (by decide) (by decide) ?_
    refine z_aload_n dX3_readRest_47 rfl rfl ?_
    refine z_cg0 (ci := 3) (nf := 10) (y := mX3_readBack) dX3_readRest_48 ml_X3_103 iv_X3_readBack (Nat.le_of_ble_eq_true rfl) rfl (by decide) rfl (Nat.le_of_ble_eq_true rfl) (Nat.le_of_ble_eq_true rfl) (Nat.le_of_ble_eq_true rfl) (c_X3_readBack hst M b n a D hT ha han hD) RdP_nx rfl ?_
    intro v N h
    rcases h with ⟨k, p, e, r, h'⟩ | ⟨x, e, r, h'⟩ <;> cases r
    · exact z_zreturn dX3_readRest_51 rfl rfl (Or.inl ⟨k, p, e, rfl, h'⟩) (Nat.le_of_ble_eq_true rfl) (Nat.le_of_ble_eq_true rfl)
    · exact z_zreturn dX3_readRest_51 rfl rfl (Or.inr ⟨x, e, rfl, h'⟩) (Nat.le_of_ble_eq_true rfl) (Nat.le_of_ble_eq_true rfl)
  · refine Mm_go hst (by decide) rfl (Nat.le_of_ble_eq_true rfl) [some (.ref 1), some (.int (nI 4))] rfl ?_
    refine z_iload_n dX3_readRest_0 rfl rfl ?_
    refine z_tabOut (tgt := 52) dX3_readRest_1 (by decide) (by decide) ?_
    refine z_aload_n dX3_readRest_52 rfl rfl ?_
    refine z_cg0 (ci := 3) (nf := 10) (y := mX3_readAfter) dX3_readRest_53 ml_X3_106 iv_X3_readAfter (Nat.le_of_ble_eq_true rfl) rfl (by decide) rfl (Nat.le_of_ble_eq_true rfl) (Nat.le_of_ble_eq_true rfl) (Nat.le_of_ble_eq_true rfl) (c_X3_readAfter hst M b n a wn D hT ha han ha1 hD hw hw16 (n + 1) (by omega)) RdP_nx rfl ?_
    intro v N h
    rcases h with ⟨k, p, e, r, h'⟩ | ⟨x, e, r, h'⟩ <;> cases r
    · exact z_zreturn dX3_readRest_56 rfl rfl (Or.inl ⟨k, p, e, rfl, h'⟩) (Nat.le_of_ble_eq_true rfl) (Nat.le_of_ble_eq_true rfl)
    · exact z_zreturn dX3_readRest_56 rfl rfl (Or.inr ⟨x, e, rfl, h'⟩) (Nat.le_of_ble_eq_true rfl) (Nat.le_of_ble_eq_true rfl)
abbrev Cl : Type := Nat × (Nat → Bool) × Dr
def clS (b : Nat → Nat) (n wn a : Nat) (rd : Nat → Bool) (D : Dr) : (Nat × Nat) ⊕ Cl := match clsW b n a with
  | none => .inl (1, a)
  | some c => if rd c = true then .inl (1, a) else match restS b n wn c (a + wl8 c) D with
    | .inl f => .inl f
    | .inr (e, D2) => match sgnS b n e 59 with
      | .inl f => .inl f
      | .inr e2 => .inr (e2, (fun i => rd i || decide (i = c)), D2)
theorem cls_ok {b : Nat → Nat} {n a c : Nat} (han : a ≤ n) (h : clsW b n a = some c) : c ≤ 4 ∧ run (isLe b) n a = a + wl8 c ∧ a + wl8 c ≤ n ∧ 4 ≤ wl8 c := by
  have key : ∀ i, i ≤ 4 → WA b n a i → i ≤ 4 ∧ run (isLe b) n a = a + wl8 i ∧ a + wl8 i ≤ n ∧ 4 ≤ wl8 i := fun i hi hw => by
    have g := run_le (p := isLe b) a han
    have : ∀ i, i ≤ 4 → 4 ≤ wl8 i := by decide
    exact ⟨hi, hw.1, by rw [← hw.1]; exact g, this i hi⟩
  unfold clsW at h
  split at h
  · rename_i q; cases h; exact key 0 (by decide) q
  · split at h
    · rename_i q; cases h; exact key 1 (by decide) q
    · split at h
      · rename_i q; cases h; exact key 2 (by decide) q
      · split at h
        · rename_i q; cases h; exact key 3 (by decide) q
        · split at h
          · rename_i q; cases h; exact key 4 (by decide) q
          · cases h
def Sok7 (a b : Nat) : Prop := (a = 1 ∧ (b = 5 ∨ b = 6 ∨ b = 7)) ∨ a = 6
set_option maxHeartbeats 8000000 in
theorem c_X3_readClause {l : Launch} {E : EnT} (hst : l.stackTraces = false) (hV : hVw E) (M : Mem) (b : Nat → Nat) (n a wn : Nat) (rd : Nat → Bool) (D : Dr) (hT : TC b n M) (ha : M 1 5 = nI a) (han : a ≤ n) (hD : DC D M) (hw : M 1 8 = nI wn) (hw16 : wn ≤ 16) (hrd : ∀ i, i < 32 → bt (M 1 7) i = rd i) : Mm l E mX3_readClause 7 0 0 [.ref 1] M (RdP n (clS b n wn a rd D) M (fun q N => Eqx Sok7 M N ∧ N 1 5 = nI q.1 ∧ a < q.1 ∧ q.1 ≤ n ∧ (∀ i, i < 32 → bt (N 1 7) i = q.2.1 i) ∧ DC q.2.2 N)) := by
  refine Mm_go hst (by decide) rfl (Nat.le_of_ble_eq_true rfl) [some (.ref 1), none, none] rfl ?_
  refine z_aload_n dX3_readClause_0 rfl rfl ?_
  refine z_gi3 (j := 5) dX3_readClause_1 (by decide) fl_X3_39 rfl rfl rfl ?_
  refine z_tp (b := (nI a)) ha ?_
  refine z_ist1 dX3_readClause_4 (Nat.le_of_ble_eq_true rfl) rfl ?_
  refine z_aload_n dX3_readClause_5 rfl rfl ?_
  refine z_cv0 (ci := 3) (nf := 10) (y := mX3_readClauseWord) dX3_readClause_6 ml_X3_66 iv_X3_readClauseWord (Nat.le_of_ble_eq_true rfl) rfl (by decide) rfl (Nat.le_of_ble_eq_true rfl) (Nat.le_of_ble_eq_true rfl) (Nat.le_of_ble_eq_true rfl) (c_X3_readClauseWord hst hV M b n a hT ha han) rfl ?_
  have hEa : Eqx Sok7 M (mu M 1 5 (nI (run (isLe b) n a))) := Eqx.rf.mu (by unfold Sok7; omega)
  have hE5 : ∀ {N}, Eqx Sok7 M N → Eqx St5 M N := fun h => h.mono (fun a b q => by unfold Sok7 at q; unfold St5; omega)
  generalize hQ : RdP n (clS b n wn a rd D) M (fun q N => Eqx Sok7 M N ∧ N 1 5 = nI q.1 ∧ a < q.1 ∧ q.1 ≤ n ∧ (∀ i, i < 32 → bt (N 1 7) i = q.2.1 i) ∧ DC q.2.2 N) = Q
  have bad : clS b n wn a rd D = .inl (1, a) → ∀ u, Zz (zx l E mX3_readClause 7 Q) 0 0 23 [some (.ref 1), some (.int (nI a)), u] [] (mu M 1 5 (nI (run (isLe b) n a))) := fun e u => by
    refine z_aload_n dX3_readClause_23 rfl rfl ?_
    refine z_iconst (v := 1) dX3_readClause_24 (by decide) rfl ?_
    refine z_iload_n dX3_readClause_25 rfl rfl ?_
    refine z_cv2 (ci := 3) (nf := 10) (y := mX3_refuse) dX3_readClause_26 ml_X3_53 iv_X3_refuse (Nat.le_of_ble_eq_true rfl) rfl (by decide) rfl (Nat.le_of_ble_eq_true rfl) (Nat.le_of_ble_eq_true rfl) (Nat.le_of_ble_eq_true rfl) (c_X3_refuse hst (mu M 1 5 (nI (run (isLe b) n a))) 1 (nI a)) rfl ?_
    rw [← hQ]
    exact z_zreturn dX3_readClause_29 rfl rfl (Or.inl ⟨1, a, e, rfl, ((hE5 hEa).mu (by unfold St5; omega)).mu (by unfold St5; omega), rfl, rfl, _, rfl, run_le a han⟩) (Nat.le_of_ble_eq_true rfl) (Nat.le_of_ble_eq_true rfl)
  cases hc : clsW b n a with
  | none =>
    refine z_ist2 dX3_readClause_9 (Nat.le_of_ble_eq_true rfl) rfl ?_
    refine z_iload_n dX3_readClause_10 rfl rfl ?_
    refine z_iconst (v := (-1)) dX3_readClause_11 (by decide) rfl ?_
    refine z_icmp_eq (tgt := 23) dX3_readClause_12 (by decide) rfl (fun g => ?_) (fun g => ?_)
    · exact bad (by unfold clS; rw [hc]) _
    · exact absurd rfl g
  | some c =>
    obtain ⟨c4, cr, cn, cl⟩ := cls_ok han hc
    have hc5 := wl8_5 c (by omega)
    refine z_ist2 dX3_readClause_9 (Nat.le_of_ble_eq_true rfl) rfl ?_
    refine z_iload_n dX3_readClause_10 rfl rfl ?_
    refine z_iconst (v := (-1)) dX3_readClause_11 (by decide) rfl ?_
    refine z_icmp_eq (tgt := 23) dX3_readClause_12 (by decide) rfl (fun g => ?_) (fun g => ?_)
    · exact absurd g (nI_nm1 (by omega))
    · rw [cr] at bad hEa ⊢
      refine z_aload_n dX3_readClause_15 rfl rfl ?_
      refine z_iload_n dX3_readClause_16 rfl rfl ?_
      refine z_tp (b := nI c) rfl ?_
      refine z_cv1 (ci := 3) (nf := 10) (y := mX3_isRead) dX3_readClause_17 ml_X3_49 iv_X3_isRead (Nat.le_of_ble_eq_true rfl) rfl (by decide) rfl (Nat.le_of_ble_eq_true rfl) (Nat.le_of_ble_eq_true rfl) (Nat.le_of_ble_eq_true rfl) (c_X3_isRead hst (mu M 1 5 (nI (a + wl8 c))) c (by omega)) rfl ?_
      rw [show bt (mu M 1 5 (nI (a + wl8 c)) 1 7) c = rd c from hrd c (by omega)]
      cases hr : rd c with
      | true =>
        refine z_if_eq (tgt := 30) dX3_readClause_20 (by decide) rfl (fun g1 => ?_) (fun g1 => ?_)
        · exact absurd g1 (by decide)
        · exact bad (by unfold clS; rw [hc]; simp only; rw [if_pos hr]) _
      | false =>
        refine z_if_eq (tgt := 30) dX3_readClause_20 (by decide) rfl (fun g1 => ?_) (fun g1 => ?_)
        · refine z_aload_n dX3_readClause_30 rfl rfl ?_
          refine z_dup dX3_readClause_31 rfl rfl ?_
          refine z_gi3 (j := 7) dX3_readClause_32 (by decide) fl_X3_57 rfl rfl rfl ?_
          refine z_iconst (v := 1) dX3_readClause_35 (by decide) rfl ?_
          refine z_iload_n dX3_readClause_36 rfl rfl ?_
          refine z_ishl dX3_readClause_37 rfl ?_
          refine z_ior dX3_readClause_38 rfl ?_
          refine z_pi3 (j := 7) dX3_readClause_39 (by decide) fl_X3_57 rfl rfl rfl rfl rfl ?_
          refine z_aload_n dX3_readClause_42 rfl rfl ?_
          refine z_iload_n dX3_readClause_43 rfl rfl ?_
          refine z_tp (b := nI c) rfl ?_
          have hE2 : Eqx Sok7 M (mu (mu M 1 5 (nI (a + wl8 c))) 1 7 (mu M 1 5 (nI (a + wl8 c)) 1 7 ||| ((1 : Int32) <<< (nI c &&& 31)))) := hEa.mu (by unfold Sok7; omega)
          have h5 : mu (mu M 1 5 (nI (a + wl8 c))) 1 7 (mu M 1 5 (nI (a + wl8 c)) 1 7 ||| ((1 : Int32) <<< (nI c &&& 31))) 1 5 = nI (a + wl8 c) := rfl
          have h7 : ∀ i, i < 32 → bt (mu (mu M 1 5 (nI (a + wl8 c))) 1 7 (mu M 1 5 (nI (a + wl8 c)) 1 7 ||| ((1 : Int32) <<< (nI c &&& 31))) 1 7) i = (rd i || decide (i = c)) := fun i hi => by
            show bt (M 1 7 ||| ((1 : Int32) <<< (nI c &&& 31))) i = _
            rw [b_or, hrd i hi, b_one c (by omega) i hi]
          have d := hD.keep (N := mu (mu M 1 5 (nI (a + wl8 c))) 1 7 (mu M 1 5 (nI (a + wl8 c)) 1 7 ||| ((1 : Int32) <<< (nI c &&& 31)))) (fun b => rfl)
          show Zz _ 0 0 44 [some (.ref 1), some (.int (nI a)), some (.int (nI c))] [.int (nI c), .ref 1] (mu (mu M 1 5 (nI (a + wl8 c))) 1 7 (mu M 1 5 (nI (a + wl8 c)) 1 7 ||| ((1 : Int32) <<< (nI c &&& 31))))
          generalize mu (mu M 1 5 (nI (a + wl8 c))) 1 7 (mu M 1 5 (nI (a + wl8 c)) 1 7 ||| ((1 : Int32) <<< (nI c &&& 31))) = N at hE2 h5 h7 d ⊢
          have ecl : clS b n wn a rd D = match restS b n wn c (a + wl8 c) D with | .inl f => .inl f | .inr (e, D2) => match sgnS b n e 59 with | .inl f => .inl f | .inr e2 => .inr (e2, (fun i => rd i || decide (i = c)), D2) := by
            unfold clS; rw [hc]; simp only; rw [if_neg (by rw [hr]; decide)]
          refine z_cg1 (ci := 3) (nf := 10) (y := mX3_readRest) dX3_readClause_44 ml_X3_70 iv_X3_readRest (Nat.le_of_ble_eq_true rfl) rfl (by decide) rfl (Nat.le_of_ble_eq_true rfl) (Nat.le_of_ble_eq_true rfl) (Nat.le_of_ble_eq_true rfl) (c_X3_readRest hst hV N b n (a + wl8 c) wn c D (hT.keep (hE5 hE2)) h5 cn (by omega) d (by rw [hE2 1 8 (by unfold Sok7; omega)]; exact hw) hw16 c4) RdP_nx rfl ?_
          intro v N2 h
          rcases h with ⟨k, p, e, r, hE3, h9, h2⟩ | ⟨⟨e1, D2⟩, e, r, hE3, h52, h5n, d2⟩
          · cases r
            refine z_if_eq (tgt := 63) dX3_readClause_47 (by decide) rfl (fun g2 => ?_) (fun g2 => ?_)
            · rw [← hQ]
              refine z_iconst (v := 0) dX3_readClause_63 (by decide) rfl ?_
              exact z_zreturn dX3_readClause_64 rfl rfl (Or.inl ⟨k, p, by rw [ecl, e], rfl, (hE5 hE2).tr hE3, h9, h2⟩) (Nat.le_of_ble_eq_true rfl) (Nat.le_of_ble_eq_true rfl)
            · exact absurd rfl g2
          · cases r
            obtain ⟨r1, r2⟩ := rest_ok cn e
            have hE4 : Eqx Sok7 M N2 := hE2.tr (hE3.mono (fun a b q => by unfold Sok at q; unfold Sok7; omega))
            have h72 : ∀ i, i < 32 → bt (N2 1 7) i = (rd i || decide (i = c)) := fun i hi => by rw [hE3 1 7 (by unfold Sok; omega)]; exact h7 i hi
            refine z_if_eq (tgt := 63) dX3_readClause_47 (by decide) rfl (fun g2 => ?_) (fun g2 => ?_)
            · exact absurd g2 (by decide)
            · refine z_aload_n dX3_readClause_50 rfl rfl ?_
              refine z_bipush (v := 59) dX3_readClause_51 (by decide) rfl ?_
              refine z_tp (b := (nI 59)) rfl ?_
              refine z_cg1 (ci := 3) (nf := 10) (y := mX3_readSign) dX3_readClause_53 ml_X3_73 iv_X3_readSign (Nat.le_of_ble_eq_true rfl) rfl (by decide) rfl (Nat.le_of_ble_eq_true rfl) (Nat.le_of_ble_eq_true rfl) (Nat.le_of_ble_eq_true rfl) (c_X3_readSign hst N2 b n e1 59 (hT.keep (hE5 hE4)) h52 r2 (by decide)) RdP_nx rfl ?_
              intro v N3 h
              rcases h with ⟨k, p, e', r, hE5', h9, h2⟩ | ⟨e2, e', r, hN3⟩
              · cases r
                refine z_if_eq (tgt := 63) dX3_readClause_56 (by decide) rfl (fun g3 => ?_) (fun g3 => ?_)
                · rw [← hQ]
                  refine z_iconst (v := 0) dX3_readClause_63 (by decide) rfl ?_
                  exact z_zreturn dX3_readClause_64 rfl rfl (Or.inl ⟨k, p, by rw [ecl, e]; simp only; rw [e'], rfl, (hE5 hE4).tr hE5', h9, h2⟩) (Nat.le_of_ble_eq_true rfl) (Nat.le_of_ble_eq_true rfl)
                · exact absurd rfl g3
              · cases r
                obtain ⟨s1, s2⟩ := sgn_ok e'
                subst hN3
                refine z_if_eq (tgt := 63) dX3_readClause_56 (by decide) rfl (fun g3 => ?_) (fun g3 => ?_)
                · exact absurd g3 (by decide)
                · rw [← hQ]
                  refine z_iconst (v := 1) dX3_readClause_59 (by decide) rfl ?_
                  refine z_goto (tgt := 64) dX3_readClause_60 (by decide) ?_
                  exact z_zreturn dX3_readClause_64 rfl rfl (Or.inr ⟨(e2, (fun i => rd i || decide (i = c)), D2), by rw [ecl, e]; simp only; rw [e'], rfl, hE4.mu (by unfold Sok7; omega), rfl, by show a < e2; omega, s2, h72, d2.keep (fun b => rfl)⟩) (Nat.le_of_ble_eq_true rfl) (Nat.le_of_ble_eq_true rfl)
        · exact absurd rfl g1
