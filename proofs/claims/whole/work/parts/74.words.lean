/-! the words of a text, the class's side -/
def wN (i j : Nat) : Nat := (wb8 i j).toNatClampNeg
theorem wb8_n : ∀ i, i < 8 → ∀ j, j < 5 → wb8 i j = nI (wN i j) := by decide
theorem wN_le : ∀ i, i < 8 → ∀ j, j < 5 → wN i j < 256 := by decide
theorem wN_let : ∀ i, i < 8 → ∀ j, j < 5 → j < wl8 i → 97 ≤ wN i j ∧ wN i j ≤ 122 := by decide
abbrev WA (b : Nat → Nat) (n s i : Nat) : Prop := run (isLe b) n s = s + wl8 i ∧ ∀ j, j < wl8 i → b (s + j) = wN i j
set_option maxHeartbeats 4000000 in
theorem c_X3_spells {l : Launch} {E : EnT} (hst : l.stackTraces = false) (hV : hVw E) (M : Mem) (b : Nat → Nat) (n s i : Nat) (hi : i < 8) (hT : TC b n M) (ha : M 1 5 = nI (run (isLe b) n s)) (hsn : s ≤ n) : Mm l E mX3_spells 4 0 0 [.ref 1, .int (nI s), .ref (1000 + i)] M (Rt (some (.int (bI (decide (WA b n s i))))) M) := by
  obtain ⟨t1, t2, t3⟩ := hT
  have h5 := wl8_5 i hi
  have g1 := run_ge (p := isLe b) (n := n) s
  have g2 := run_le (p := isLe b) s hsn
  refine Mm_go hst (by decide) rfl (Nat.le_of_ble_eq_true rfl) [some (.ref 1), some (.int (nI s)), some (.ref (1000 + i)), none] rfl ?_
  refine z_aload_n dX3_spells_0 rfl rfl ?_
  refine z_gi3 (j := 5) dX3_spells_1 (by decide) fl_X3_39 rfl rfl rfl ?_
  refine z_iload_n dX3_spells_4 rfl rfl ?_
  refine z_isub dX3_spells_5 rfl ?_
  refine z_tp (b := (nI (run (isLe b) n s - s))) (by rw [ha, pk_sub (by omega)]) ?_
  refine z_aload_n dX3_spells_6 rfl rfl ?_
  refine z_Sv0 (y := mJ0_length_8abf5) dX3_spells_7 ml_X3_151 iv_J0_length_8abf5 (Nat.le_of_ble_eq_true rfl) (Nat.le_of_ble_eq_true rfl) (Nat.le_of_ble_eq_true rfl) (Nat.le_of_ble_eq_true rfl) (c_J0_length hst hV M i hi) rfl ?_
  refine z_icmp_eq (tgt := 15) dX3_spells_10 (by decide) rfl (fun g => ?_) (fun g => ?_)
  · have e : run (isLe b) n s - s = wl8 i := (nI_eq (by omega) (by omega)).mp g
    refine z_iconst (v := 0) dX3_spells_15 (by decide) rfl ?_
    refine z_ist3 dX3_spells_16 (Nat.le_of_ble_eq_true rfl) rfl ?_
    have loop : ∀ (m j : Nat), j + m = wl8 i → (∀ k, k < j → b (s + k) = wN i k) → Zz (zx l E mX3_spells 4 (Rt (some (.int (bI (decide (WA b n s i))))) M)) 0 0 17 [some (.ref 1), some (.int (nI s)), some (.ref (1000 + i)), some (.int (nI j))] [] M := by
      intro m
      induction m with
      | zero =>
        intro j hj hk
        have ej : j = wl8 i := by omega
        rw [decide_eq_true (show WA b n s i from ⟨by omega, fun k h => hk k (by omega)⟩)]
        refine z_iload_n dX3_spells_17 rfl rfl ?_
        refine z_aload_n dX3_spells_18 rfl rfl ?_
        refine z_Sv0 (y := mJ0_length_8abf5) dX3_spells_19 ml_X3_151 iv_J0_length_8abf5 (Nat.le_of_ble_eq_true rfl) (Nat.le_of_ble_eq_true rfl) (Nat.le_of_ble_eq_true rfl) (Nat.le_of_ble_eq_true rfl) (c_J0_length hst hV M i hi) rfl ?_
        refine z_icmp_ge (tgt := 49) dX3_spells_22 (by decide) rfl (fun g3 => ?_) (fun g3 => ?_)
        · refine z_iconst (v := 1) dX3_spells_49 (by decide) rfl ?_
          exact z_zreturn dX3_spells_50 rfl rfl ⟨rfl, rfl⟩ (Nat.le_of_ble_eq_true rfl) (Nat.le_of_ble_eq_true rfl)
        · exact absurd (nI_le (show wl8 i ≤ j by omega) (by omega)) g3
      | succ m ih =>
        intro j hj hk
        obtain ⟨n7, n8⟩ := t3 (s + j) (by omega)
        refine z_iload_n dX3_spells_17 rfl rfl ?_
        refine z_aload_n dX3_spells_18 rfl rfl ?_
        refine z_Sv0 (y := mJ0_length_8abf5) dX3_spells_19 ml_X3_151 iv_J0_length_8abf5 (Nat.le_of_ble_eq_true rfl) (Nat.le_of_ble_eq_true rfl) (Nat.le_of_ble_eq_true rfl) (Nat.le_of_ble_eq_true rfl) (c_J0_length hst hV M i hi) rfl ?_
        refine z_icmp_ge (tgt := 49) dX3_spells_22 (by decide) rfl (fun g3 => ?_) (fun g3 => ?_)
        · exact absurd (le_nn g3 (by omega) (by omega)) (by omega)
        · refine z_aload_n dX3_spells_25 rfl rfl ?_
          refine z_gr3 (j := 3) dX3_spells_26 (by decide) fl_X3_25 rfl rfl rfl ?_
          refine z_iload_n dX3_spells_29 rfl rfl ?_
          refine z_iload_n dX3_spells_30 rfl rfl ?_
          refine z_iadd dX3_spells_31 rfl ?_
          refine z_iald dX3_spells_32 (by first | rfl | exact knd_h (by omega) | exact knd_s (by omega)) (nI_add s j) (by omega) (by decide) rfl ?_
          refine z_tp (b := (nI (b (s + j)))) n7 ?_
          refine z_aload_n dX3_spells_33 rfl rfl ?_
          refine z_iload_n dX3_spells_34 rfl rfl ?_
          refine z_Sv1 (y := mJ0_charAt_5068e) dX3_spells_35 ml_X3_155 iv_J0_charAt_5068e (Nat.le_of_ble_eq_true rfl) (Nat.le_of_ble_eq_true rfl) (Nat.le_of_ble_eq_true rfl) (Nat.le_of_ble_eq_true rfl) (c_J0_charAt hst hV M i j hi (by omega)) rfl ?_
          refine z_tp (b := (nI (wN i j))) (wb8_n i hi j (by omega)) ?_
          have wl := wN_le i hi j (by omega)
          refine z_icmp_eq (tgt := 43) dX3_spells_38 (by decide) rfl (fun g4 => ?_) (fun g4 => ?_)
          · have q : b (s + j) = wN i j := (nI_eq (by omega) (by omega)).mp g4
            first | refine z_iu3 dX3_spells_43 (Nat.le_of_ble_eq_true rfl) rfl ?_ | refine z_inc3 dX3_spells_43 (Nat.le_of_ble_eq_true rfl) rfl rfl ?_
            refine z_goto (tgt := 17) dX3_spells_46 (by decide) ?_
            refine ih (j + 1) (by omega) (fun k h => ?_)
            by_cases ek : k = j
            · subst ek; exact q
            · exact hk k (by omega)
          · rw [decide_eq_false (show ¬ WA b n s i from fun q => g4 (by rw [q.2 j (by omega)]))]
            refine z_iconst (v := 0) dX3_spells_41 (by decide) rfl ?_
            exact z_zreturn dX3_spells_42 rfl rfl ⟨rfl, rfl⟩ (Nat.le_of_ble_eq_true rfl) (Nat.le_of_ble_eq_true rfl)
    exact loop (wl8 i) 0 (by omega) (fun k h => absurd h (Nat.not_lt_zero k))
  · rw [decide_eq_false (show ¬ WA b n s i from fun q => g (by rw [show run (isLe b) n s - s = wl8 i by have := q.1; omega]))]
    refine z_iconst (v := 0) dX3_spells_13 (by decide) rfl ?_
    exact z_zreturn dX3_spells_14 rfl rfl ⟨rfl, rfl⟩ (Nat.le_of_ble_eq_true rfl) (Nat.le_of_ble_eq_true rfl)
def clsW (b : Nat → Nat) (n s : Nat) : Option Nat := if WA b n s 0 then some 0 else if WA b n s 1 then some 1 else if WA b n s 2 then some 2 else if WA b n s 3 then some 3 else if WA b n s 4 then some 4 else none
def thgW (b : Nat → Nat) (n s : Nat) : Option Nat := if WA b n s 5 then some 1 else if WA b n s 6 then some 2 else if WA b n s 7 then some 3 else none
set_option maxHeartbeats 8000000 in
theorem c_X3_readClauseWord {l : Launch} {E : EnT} (hst : l.stackTraces = false) (hV : hVw E) (M : Mem) (b : Nat → Nat) (n a : Nat) (hT : TC b n M) (ha : M 1 5 = nI a) (han : a ≤ n) : Mm l E mX3_readClauseWord 5 0 0 [.ref 1] M (Rt (some (.int (enI (clsW b n a)))) (mu M 1 5 (nI (run (isLe b) n a)))) := by
  refine Mm_go hst (by decide) rfl (Nat.le_of_ble_eq_true rfl) [some (.ref 1), none] rfl ?_
  refine z_aload_n dX3_readClauseWord_0 rfl rfl ?_
  refine z_gi3 (j := 5) dX3_readClauseWord_1 (by decide) fl_X3_39 rfl rfl rfl ?_
  refine z_tp (b := (nI a)) ha ?_
  refine z_ist1 dX3_readClauseWord_4 (Nat.le_of_ble_eq_true rfl) rfl ?_
  refine z_aload_n dX3_readClauseWord_5 rfl rfl ?_
  refine z_cn0 (ci := 3) (nf := 10) (y := mX3_skipWord) dX3_readClauseWord_6 ml_X3_77 iv_X3_skipWord (Nat.le_of_ble_eq_true rfl) rfl (by decide) rfl (Nat.le_of_ble_eq_true rfl) (Nat.le_of_ble_eq_true rfl) (Nat.le_of_ble_eq_true rfl) (c_X3_skipWord hst M b n a hT ha han) rfl ?_
  have hT2 : TC b n (mu M 1 5 (nI (run (isLe b) n a))) := hT.keep (Eqx.rf.mu (by unfold St5; omega))
  have h5 : mu M 1 5 (nI (run (isLe b) n a)) 1 5 = nI (run (isLe b) n a) := rfl
  unfold clsW
  generalize mu M 1 5 (nI (run (isLe b) n a)) = N at hT2 h5 ⊢
  refine z_aload_n dX3_readClauseWord_9 rfl rfl ?_
  refine z_iload_n dX3_readClauseWord_10 rfl rfl ?_
  refine z_ldcS dX3_readClauseWord_11 (List.mem_of_getElem? (i := 0) rfl) rfl ?_
  refine z_cv2 (ci := 3) (nf := 10) (y := mX3_spells) dX3_readClauseWord_13 ml_X3_82 iv_X3_spells (Nat.le_of_ble_eq_true rfl) rfl (by decide) rfl (Nat.le_of_ble_eq_true rfl) (Nat.le_of_ble_eq_true rfl) (Nat.le_of_ble_eq_true rfl) (c_X3_spells hst hV N b n a 0 (by decide) hT2 h5 han) rfl ?_
  by_cases c0 : WA b n a 0
  · rw [if_pos c0, decide_eq_true c0]
    refine z_if_eq (tgt := 21) dX3_readClauseWord_16 (by decide) rfl (fun g => ?_) (fun g => ?_)
    · exact absurd g (by decide)
    · refine z_iconst (v := 0) dX3_readClauseWord_19 (by decide) rfl ?_
      exact z_ireturn dX3_readClauseWord_20 rfl ⟨rfl, rfl⟩ (Nat.le_of_ble_eq_true rfl) (Nat.le_of_ble_eq_true rfl)
  · rw [if_neg c0, decide_eq_false c0]
    refine z_if_eq (tgt := 21) dX3_readClauseWord_16 (by decide) rfl (fun g => ?_) (fun g => ?_)
    · refine z_aload_n dX3_readClauseWord_21 rfl rfl ?_
      refine z_iload_n dX3_readClauseWord_22 rfl rfl ?_
      refine z_ldcS dX3_readClauseWord_23 (List.mem_of_getElem? (i := 1) rfl) rfl ?_
      refine z_cv2 (ci := 3) (nf := 10) (y := mX3_spells) dX3_readClauseWord_25 ml_X3_82 iv_X3_spells (Nat.le_of_ble_eq_true rfl) rfl (by decide) rfl (Nat.le_of_ble_eq_true rfl) (Nat.le_of_ble_eq_true rfl) (Nat.le_of_ble_eq_true rfl) (c_X3_spells hst hV N b n a 1 (by decide) hT2 h5 han) rfl ?_
      by_cases c1 : WA b n a 1
      · rw [if_pos c1, decide_eq_true c1]
        refine z_if_eq (tgt := 33) dX3_readClauseWord_28 (by decide) rfl (fun g => ?_) (fun g => ?_)
        · exact absurd g (by decide)
        · refine z_iconst (v := 1) dX3_readClauseWord_31 (by decide) rfl ?_
          exact z_ireturn dX3_readClauseWord_32 rfl ⟨rfl, rfl⟩ (Nat.le_of_ble_eq_true rfl) (Nat.le_of_ble_eq_true rfl)
      · rw [if_neg c1, decide_eq_false c1]
        refine z_if_eq (tgt := 33) dX3_readClauseWord_28 (by decide) rfl (fun g => ?_) (fun g => ?_)
        · refine z_aload_n dX3_readClauseWord_33 rfl rfl ?_
          refine z_iload_n dX3_readClauseWord_34 rfl rfl ?_
          refine z_ldcS dX3_readClauseWord_35 (List.mem_of_getElem? (i := 2) rfl) rfl ?_
          refine z_cv2 (ci := 3) (nf := 10) (y := mX3_spells) dX3_readClauseWord_37 ml_X3_82 iv_X3_spells (Nat.le_of_ble_eq_true rfl) rfl (by decide) rfl (Nat.le_of_ble_eq_true rfl) (Nat.le_of_ble_eq_true rfl) (Nat.le_of_ble_eq_true rfl) (c_X3_spells hst hV N b n a 2 (by decide) hT2 h5 han) rfl ?_
          by_cases c2 : WA b n a 2
          · rw [if_pos c2, decide_eq_true c2]
            refine z_if_eq (tgt := 45) dX3_readClauseWord_40 (by decide) rfl (fun g => ?_) (fun g => ?_)
            · exact absurd g (by decide)
            · refine z_iconst (v := 2) dX3_readClauseWord_43 (by decide) rfl ?_
              exact z_ireturn dX3_readClauseWord_44 rfl ⟨rfl, rfl⟩ (Nat.le_of_ble_eq_true rfl) (Nat.le_of_ble_eq_true rfl)
          · rw [if_neg c2, decide_eq_false c2]
            refine z_if_eq (tgt := 45) dX3_readClauseWord_40 (by decide) rfl (fun g => ?_) (fun g => ?_)
            · refine z_aload_n dX3_readClauseWord_45 rfl rfl ?_
              refine z_iload_n dX3_readClauseWord_46 rfl rfl ?_
              refine z_ldcS dX3_readClauseWord_47 (List.mem_of_getElem? (i := 3) rfl) rfl ?_
              refine z_cv2 (ci := 3) (nf := 10) (y := mX3_spells) dX3_readClauseWord_49 ml_X3_82 iv_X3_spells (Nat.le_of_ble_eq_true rfl) rfl (by decide) rfl (Nat.le_of_ble_eq_true rfl) (Nat.le_of_ble_eq_true rfl) (Nat.le_of_ble_eq_true rfl) (c_X3_spells hst hV N b n a 3 (by decide) hT2 h5 han) rfl ?_
              by_cases c3 : WA b n a 3
              · rw [if_pos c3, decide_eq_true c3]
                refine z_if_eq (tgt := 57) dX3_readClauseWord_52 (by decide) rfl (fun g => ?_) (fun g => ?_)
                · exact absurd g (by decide)
                · refine z_iconst (v := 3) dX3_readClauseWord_55 (by decide) rfl ?_
                  exact z_ireturn dX3_readClauseWord_56 rfl ⟨rfl, rfl⟩ (Nat.le_of_ble_eq_true rfl) (Nat.le_of_ble_eq_true rfl)
              · rw [if_neg c3, decide_eq_false c3]
                refine z_if_eq (tgt := 57) dX3_readClauseWord_52 (by decide) rfl (fun g => ?_) (fun g => ?_)
                · refine z_aload_n dX3_readClauseWord_57 rfl rfl ?_
                  refine z_iload_n dX3_readClauseWord_58 rfl rfl ?_
                  refine z_ldcS dX3_readClauseWord_59 (List.mem_of_getElem? (i := 4) rfl) rfl ?_
                  refine z_cv2 (ci := 3) (nf := 10) (y := mX3_spells) dX3_readClauseWord_61 ml_X3_82 iv_X3_spells (Nat.le_of_ble_eq_true rfl) rfl (by decide) rfl (Nat.le_of_ble_eq_true rfl) (Nat.le_of_ble_eq_true rfl) (Nat.le_of_ble_eq_true rfl) (c_X3_spells hst hV N b n a 4 (by decide) hT2 h5 han) rfl ?_
                  by_cases c4 : WA b n a 4
                  · rw [if_pos c4, decide_eq_true c4]
                    refine z_if_eq (tgt := 71) dX3_readClauseWord_64 (by decide) rfl (fun g => ?_) (fun g => ?_)
                    · exact absurd g (by decide)
                    · refine z_iconst (v := 4) dX3_readClauseWord_67 (by decide) rfl ?_
                      refine z_goto (tgt := 72) dX3_readClauseWord_68 (by decide) ?_
                      exact z_ireturn dX3_readClauseWord_72 rfl ⟨rfl, rfl⟩ (Nat.le_of_ble_eq_true rfl) (Nat.le_of_ble_eq_true rfl)
                  · rw [if_neg c4, decide_eq_false c4]
                    refine z_if_eq (tgt := 71) dX3_readClauseWord_64 (by decide) rfl (fun g => ?_) (fun g => ?_)
                    · refine z_iconst (v := (-1)) dX3_readClauseWord_71 (by decide) rfl ?_
                      exact z_ireturn dX3_readClauseWord_72 rfl ⟨rfl, rfl⟩ (Nat.le_of_ble_eq_true rfl) (Nat.le_of_ble_eq_true rfl)
                    · exact absurd rfl g
                · exact absurd rfl g
            · exact absurd rfl g
        · exact absurd rfl g
    · exact absurd rfl g
def thgS (b : Nat → Nat) (n a : Nat) (D : Dr) : (Nat × Nat) ⊕ (Nat × Dr) := match thgW b n (run (isBl b) n a) with
  | none => .inl (1, run (isBl b) n a)
  | some t => .inr (run (isLe b) n (run (isBl b) n a), D.1, D.2.1, t, D.2.2.2)
set_option maxHeartbeats 8000000 in
theorem c_X3_readThing {l : Launch} {E : EnT} (hst : l.stackTraces = false) (hV : hVw E) (M : Mem) (b : Nat → Nat) (n a : Nat) (D : Dr) (hT : TC b n M) (ha : M 1 5 = nI a) (han : a ≤ n) (hD : DC D M) : Mm l E mX3_readThing 5 0 0 [.ref 1] M (RdC b n (thgS b n a D) M) := by
  refine Mm_go hst (by decide) rfl (Nat.le_of_ble_eq_true rfl) [some (.ref 1), none] rfl ?_
  refine z_aload_n dX3_readThing_0 rfl rfl ?_
  refine z_cn0 (ci := 3) (nf := 10) (y := mX3_skipBlanks) dX3_readThing_1 ml_X3_33 iv_X3_skipBlanks (Nat.le_of_ble_eq_true rfl) rfl (by decide) rfl (Nat.le_of_ble_eq_true rfl) (Nat.le_of_ble_eq_true rfl) (Nat.le_of_ble_eq_true rfl) (c_X3_skipBlanks hst M b n a hT ha han) rfl ?_
  have hr := run_le (p := isBl b) a han
  unfold thgS
  generalize run (isBl b) n a = s at hr ⊢
  have hs5 : mu M 1 5 (nI s) 1 5 = nI s := rfl
  refine z_aload_n dX3_readThing_4 rfl rfl ?_
  refine z_gi3 (j := 5) dX3_readThing_5 (by decide) fl_X3_39 rfl rfl rfl ?_
  refine z_tp (b := (nI s)) hs5 ?_
  have hEa : Eqx Sok M (mu M 1 5 (nI s)) := Eqx.rf.mu (by unfold Sok; omega)
  refine z_ist1 dX3_readThing_8 (Nat.le_of_ble_eq_true rfl) rfl ?_
  refine z_aload_n dX3_readThing_9 rfl rfl ?_
  refine z_cn0 (ci := 3) (nf := 10) (y := mX3_skipWord) dX3_readThing_10 ml_X3_77 iv_X3_skipWord (Nat.le_of_ble_eq_true rfl) rfl (by decide) rfl (Nat.le_of_ble_eq_true rfl) (Nat.le_of_ble_eq_true rfl) (Nat.le_of_ble_eq_true rfl) (c_X3_skipWord hst (mu M 1 5 (nI s)) b n s (hT.keep (hEa.mono (fun _ _ q => Sok_St5 q))) hs5 hr) rfl ?_
  have hE : Eqx Sok M (mu (mu M 1 5 (nI s)) 1 5 (nI (run (isLe b) n s))) := hEa.mu (by unfold Sok; omega)
  have h5 : mu (mu M 1 5 (nI s)) 1 5 (nI (run (isLe b) n s)) 1 5 = nI (run (isLe b) n s) := rfl
  have d := hD.keep (N := mu (mu M 1 5 (nI s)) 1 5 (nI (run (isLe b) n s))) (fun b => rfl)
  have hle := run_le (p := isLe b) s hr
  generalize mu (mu M 1 5 (nI s)) 1 5 (nI (run (isLe b) n s)) = N at hE h5 d ⊢
  have hTN := hT.keep (hE.mono (fun _ _ q => Sok_St5 q))
  generalize hQ : RdC b n (match thgW b n s with | none => .inl (1, s) | some t => .inr (run (isLe b) n s, D.1, D.2.1, t, D.2.2.2)) M = Q
  have fin : ∀ (t : Nat), t ≤ 3 → 0 < t → thgW b n s = some t → Zz (zx l E mX3_readThing 5 Q) 0 0 83 [some (.ref 1), some (.int (nI s))] [] (mu N 6 2 (nI t)) := fun t ht ht0 e => by
    rw [← hQ]
    refine z_aload_n dX3_readThing_83 rfl rfl ?_
    refine z_gr3 (j := 0) dX3_readThing_84 (by decide) fl_X3_12 rfl rfl rfl ?_
    refine z_iconst (v := 1) dX3_readThing_87 (by decide) rfl ?_
    refine z_aload_n dX3_readThing_88 rfl rfl ?_
    refine z_gr3 (j := 0) dX3_readThing_89 (by decide) fl_X3_12 rfl rfl rfl ?_
    refine z_gi4 (j := 2) dX3_readThing_92 (by decide) fl_X3_123 (by first | assumption | rfl | exact knd_w (by omega)) rfl rfl ?_
    refine z_ishl dX3_readThing_95 rfl ?_
    refine z_pi4 (j := 6) dX3_readThing_96 (by decide) fl_X3_130 rfl rfl (by first | assumption | rfl | exact knd_w (by omega)) rfl rfl ?_
    refine z_iconst (v := 1) dX3_readThing_99 (by decide) rfl ?_
    exact z_zreturn dX3_readThing_100 rfl rfl (Or.inr ⟨(run (isLe b) n s, D.1, D.2.1, t, D.2.2.2), by rw [e], rfl, (hE.mu (by unfold Sok; omega)).mu (by unfold Sok; omega), h5, hle, d.1, d.2.1, rfl, d.2.2.2.1, d.2.2.2.2.1, d.2.2.2.2.2.1, by unfold tbit; rw [if_neg (by show ¬ t = 0; omega)]; rfl⟩) (Nat.le_of_ble_eq_true rfl) (Nat.le_of_ble_eq_true rfl)
  have e0 : thgW b n s = if WA b n s 5 then some 1 else if WA b n s 6 then some 2 else if WA b n s 7 then some 3 else none := rfl
  refine z_aload_n dX3_readThing_13 rfl rfl ?_
  refine z_iload_n dX3_readThing_14 rfl rfl ?_
  refine z_ldcS dX3_readThing_15 (List.mem_of_getElem? (i := 5) rfl) rfl ?_
  refine z_cv2 (ci := 3) (nf := 10) (y := mX3_spells) dX3_readThing_17 ml_X3_82 iv_X3_spells (Nat.le_of_ble_eq_true rfl) rfl (by decide) rfl (Nat.le_of_ble_eq_true rfl) (Nat.le_of_ble_eq_true rfl) (Nat.le_of_ble_eq_true rfl) (c_X3_spells hst hV N b n s 5 (by decide) hTN h5 hr) rfl ?_
  by_cases c0 : WA b n s 5
  · rw [decide_eq_true c0]
    refine z_if_eq (tgt := 34) dX3_readThing_20 (by decide) rfl (fun g => ?_) (fun g => ?_)
    · exact absurd g (by decide)
    · refine z_aload_n dX3_readThing_23 rfl rfl ?_
      refine z_gr3 (j := 0) dX3_readThing_24 (by decide) fl_X3_12 rfl rfl rfl ?_
      refine z_iconst (v := 1) dX3_readThing_27 (by decide) rfl ?_
      refine z_pi4 (j := 2) dX3_readThing_28 (by decide) fl_X3_123 rfl rfl (by first | assumption | rfl | exact knd_w (by omega)) rfl rfl ?_
      refine z_goto (tgt := 83) dX3_readThing_31 (by decide) ?_
      exact fin 1 (by decide) (by decide) (by rw [e0, if_pos c0])
  · rw [decide_eq_false c0]
    refine z_if_eq (tgt := 34) dX3_readThing_20 (by decide) rfl (fun g => ?_) (fun g => ?_)
    · refine z_aload_n dX3_readThing_34 rfl rfl ?_
      refine z_iload_n dX3_readThing_35 rfl rfl ?_
      refine z_ldcS dX3_readThing_36 (List.mem_of_getElem? (i := 6) rfl) rfl ?_
      refine z_cv2 (ci := 3) (nf := 10) (y := mX3_spells) dX3_readThing_38 ml_X3_82 iv_X3_spells (Nat.le_of_ble_eq_true rfl) rfl (by decide) rfl (Nat.le_of_ble_eq_true rfl) (Nat.le_of_ble_eq_true rfl) (Nat.le_of_ble_eq_true rfl) (c_X3_spells hst hV N b n s 6 (by decide) hTN h5 hr) rfl ?_
      by_cases c1 : WA b n s 6
      · rw [decide_eq_true c1]
        refine z_if_eq (tgt := 55) dX3_readThing_41 (by decide) rfl (fun g => ?_) (fun g => ?_)
        · exact absurd g (by decide)
        · refine z_aload_n dX3_readThing_44 rfl rfl ?_
          refine z_gr3 (j := 0) dX3_readThing_45 (by decide) fl_X3_12 rfl rfl rfl ?_
          refine z_iconst (v := 2) dX3_readThing_48 (by decide) rfl ?_
          refine z_pi4 (j := 2) dX3_readThing_49 (by decide) fl_X3_123 rfl rfl (by first | assumption | rfl | exact knd_w (by omega)) rfl rfl ?_
          refine z_goto (tgt := 83) dX3_readThing_52 (by decide) ?_
          exact fin 2 (by decide) (by decide) (by rw [e0, if_neg c0, if_pos c1])
      · rw [decide_eq_false c1]
        refine z_if_eq (tgt := 55) dX3_readThing_41 (by decide) rfl (fun g => ?_) (fun g => ?_)
        · refine z_aload_n dX3_readThing_55 rfl rfl ?_
          refine z_iload_n dX3_readThing_56 rfl rfl ?_
          refine z_ldcS dX3_readThing_57 (List.mem_of_getElem? (i := 7) rfl) rfl ?_
          refine z_cv2 (ci := 3) (nf := 10) (y := mX3_spells) dX3_readThing_59 ml_X3_82 iv_X3_spells (Nat.le_of_ble_eq_true rfl) rfl (by decide) rfl (Nat.le_of_ble_eq_true rfl) (Nat.le_of_ble_eq_true rfl) (Nat.le_of_ble_eq_true rfl) (c_X3_spells hst hV N b n s 7 (by decide) hTN h5 hr) rfl ?_
          by_cases c2 : WA b n s 7
          · rw [decide_eq_true c2]
            refine z_if_eq (tgt := 76) dX3_readThing_62 (by decide) rfl (fun g => ?_) (fun g => ?_)
            · exact absurd g (by decide)
            · refine z_aload_n dX3_readThing_65 rfl rfl ?_
              refine z_gr3 (j := 0) dX3_readThing_66 (by decide) fl_X3_12 rfl rfl rfl ?_
              refine z_iconst (v := 3) dX3_readThing_69 (by decide) rfl ?_
              refine z_pi4 (j := 2) dX3_readThing_70 (by decide) fl_X3_123 rfl rfl (by first | assumption | rfl | exact knd_w (by omega)) rfl rfl ?_
              refine z_goto (tgt := 83) dX3_readThing_73 (by decide) ?_
              exact fin 3 (by decide) (by decide) (by rw [e0, if_neg c0, if_neg c1, if_pos c2])
          · rw [decide_eq_false c2]
            refine z_if_eq (tgt := 76) dX3_readThing_62 (by decide) rfl (fun g => ?_) (fun g => ?_)
            · refine z_aload_n dX3_readThing_76 rfl rfl ?_
              refine z_iconst (v := 1) dX3_readThing_77 (by decide) rfl ?_
              refine z_iload_n dX3_readThing_78 rfl rfl ?_
              refine z_cv2 (ci := 3) (nf := 10) (y := mX3_refuse) dX3_readThing_79 ml_X3_53 iv_X3_refuse (Nat.le_of_ble_eq_true rfl) rfl (by decide) rfl (Nat.le_of_ble_eq_true rfl) (Nat.le_of_ble_eq_true rfl) (Nat.le_of_ble_eq_true rfl) (c_X3_refuse hst N 1 (nI s)) rfl ?_
              rw [← hQ]
              exact z_zreturn dX3_readThing_82 rfl rfl (Or.inl ⟨1, s, by rw [e0, if_neg c0, if_neg c1, if_neg c2], rfl, ((hE.mono (fun _ _ q => Sok_St5 q)).mu (by unfold St5; omega)).mu (by unfold St5; omega), rfl, rfl, _, h5, hle⟩) (Nat.le_of_ble_eq_true rfl) (Nat.le_of_ble_eq_true rfl)
            · exact absurd rfl g
        · exact absurd rfl g
    · exact absurd rfl g
