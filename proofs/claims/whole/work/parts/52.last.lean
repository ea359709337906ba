def RQ (r : Option Value ⊕ String) (Q : Mem → Prop) : Option Value ⊕ String → Mem → Prop := fun r' N => r' = r ∧ Q N
/-- what any walk of the class may change -/
def Sw (a b : Nat) : Prop := (a = 2 ∧ 7 ≤ b) ∨ a = 11 ∨ (77 ≤ a ∧ a < 99) ∨ (33 ≤ a ∧ a < 55 ∧ b = 2)
theorem Sx_Sw {r a b : Nat} (hr : r < 22) (h : Sx r a b) : Sw a b := by unfold Sx at h; unfold Sw; omega
theorem Sd_Sw {a b : Nat} (h : Sd a b) : Sw a b := by unfold Sd at h; unfold Sw; omega
set_option maxHeartbeats 4000000 in
theorem c_X6_end {l : Launch} {E : EnT} (hst : l.stackTraces = false) (M : Mem) (B : Bw) (od : Nat → Nat) (dr : Nat) (x : Int32) (hd : M 2 4 = nI dr) (h20 : dr ≤ 20) (hW : ∀ r, r < dr + 2 → WC (rowP B r) M r) (hod : ∀ k, k < B.1 → M 9 k = nI (od k) ∧ od k < B.1) : Mm l E mX6_end 6 1 6 [.ref 0, .int x] M (RQ (if ixB x (dr + 2) then .inl (some (.int (enI (endS (rowP B x.toNatClampNeg) od)))) else .inr xIA) (fun N => Eqx Sw M N)) := by
  refine Mm_go hst (by decide) rfl (Nat.le_of_ble_eq_true rfl) [some (.ref 0), some (.int x)] rfl ?_
  refine z_aload_n dX6_end_0 rfl rfl ?_
  refine z_gr6 (j := 1) dX6_end_1 (by decide) fl_X6_19 rfl rfl rfl ?_
  refine z_iload_n dX6_end_4 rfl rfl ?_
  refine z_cv1 (ci := 2) (nf := 11) (y := mX2_hasRow) dX6_end_5 ml_X6_132 iv_X2_hasRow (Nat.le_of_ble_eq_true rfl) rfl (by decide) rfl (Nat.le_of_ble_eq_true rfl) (Nat.le_of_ble_eq_true rfl) (Nat.le_of_ble_eq_true rfl) (c_X2_hasRow hst x M dr hd h20) rfl ?_
  rcases ixB_cases x (n := dr + 2) (by omega) with ⟨hb, h⟩ | ⟨j, hj, rfl, hb⟩
  · rw [hb]
    refine z_if_ne (tgt := 21) dX6_end_8 (by decide) rfl (fun h1 => ?_) (fun h1 => ?_)
    · exact absurd rfl h1
    · exact z_throw (i := 13) rfl (Nat.le_of_ble_eq_true rfl) xok_IA (List.mem_of_getElem? (i := 21) rfl) dX6_end_11 dX6_end_14 dX6_end_15 dX6_end_17 dX6_end_20 rfl rfl ⟨rfl, Eqx.rf⟩
  · rw [hb, nI_clamp (show j < 2 ^ 31 by omega)]
    refine z_if_ne (tgt := 21) dX6_end_8 (by decide) rfl (fun h1 => ?_) (fun h1 => ?_)
    · refine z_aload_n dX6_end_21 rfl rfl ?_
      refine z_gr6 (j := 1) dX6_end_22 (by decide) fl_X6_19 rfl rfl rfl ?_
      refine z_iload_n dX6_end_25 rfl rfl ?_
      refine z_aload_n dX6_end_26 rfl rfl ?_
      refine z_gr6 (j := 1) dX6_end_27 (by decide) fl_X6_19 rfl rfl rfl ?_
      refine z_gr2 (j := 1) dX6_end_30 (by decide) fl_X6_146 rfl rfl rfl ?_
      refine z_cq2 (ci := 2) (nf := 11) (y := mX2_walk) dX6_end_33 ml_X6_149 iv_X2_walk (Nat.le_of_ble_eq_true rfl) rfl (by decide) rfl (Nat.le_of_ble_eq_true rfl) (Nat.le_of_ble_eq_true rfl) (Nat.le_of_ble_eq_true rfl) (c_X2_walk hst M (rowP B j) j 9 16 od (by omega) rfl (hW j hj).2.1 (by decide) (Or.inl rfl) (hW j hj) hod) rfl ?_
      intro N ⟨hE, _, _⟩
      exact z_ireturn dX6_end_36 rfl ⟨rfl, hE.mono (fun a b q => Sx_Sw (show j < 22 by omega) q)⟩ (Nat.le_of_ble_eq_true rfl) (Nat.le_of_ble_eq_true rfl)
    · exact absurd h1 (by decide)
set_option maxHeartbeats 4000000 in
theorem c_X6_begins {l : Launch} {E : EnT} (hst : l.stackTraces = false) (M : Mem) (B : Bw) (od : Nat → Nat) (dr : Nat) (x w : Int32) (hn : M 2 3 = nI B.1) (hd : M 2 4 = nI dr) (h20 : dr ≤ 20) (hW : ∀ r, r < dr + 2 → WC (rowP B r) M r) (hod : ∀ k, k < B.1 → M 9 k = nI (od k) ∧ od k < B.1) : Mm l E mX6_begins 6 1 6 [.ref 0, .int x, .int w] M (RQ (if ixB w B.1 then (if ixB x (dr + 2) then .inl (some (.int (stI (schd (rowP B x.toNatClampNeg) od w.toNatClampNeg)))) else .inr xIA) else .inr xIO) (fun N => Eqx Sw M N)) := by
  have h16 : B.1 ≤ 16 := (hW 0 (by omega)).2.1
  refine Mm_go hst (by decide) rfl (Nat.le_of_ble_eq_true rfl) [some (.ref 0), some (.int x), some (.int w)] rfl ?_
  refine z_aload_n dX6_begins_0 rfl rfl ?_
  refine z_gr6 (j := 1) dX6_begins_1 (by decide) fl_X6_19 rfl rfl rfl ?_
  refine z_iload_n dX6_begins_4 rfl rfl ?_
  refine z_cv1 (ci := 2) (nf := 11) (y := mX2_hasWork) dX6_begins_5 ml_X6_85 iv_X2_hasWork (Nat.le_of_ble_eq_true rfl) rfl (by decide) rfl (Nat.le_of_ble_eq_true rfl) (Nat.le_of_ble_eq_true rfl) (Nat.le_of_ble_eq_true rfl) (c_X2_hasWork hst w M B.1 hn h16) rfl ?_
  rcases ixB_cases w (n := B.1) (by omega) with ⟨hb, h⟩ | ⟨i, hi, rfl, hb⟩
  · rw [hb]
    refine z_if_ne (tgt := 21) dX6_begins_8 (by decide) rfl (fun h1 => ?_) (fun h1 => ?_)
    · exact absurd rfl h1
    · exact z_throw (i := 10) rfl (Nat.le_of_ble_eq_true rfl) xok_IO (List.mem_of_getElem? (i := 18) rfl) dX6_begins_11 dX6_begins_14 dX6_begins_15 dX6_begins_17 dX6_begins_20 rfl rfl ⟨rfl, Eqx.rf⟩
  · rw [hb, nI_clamp (show i < 2 ^ 31 by omega)]
    refine z_if_ne (tgt := 21) dX6_begins_8 (by decide) rfl (fun h1 => ?_) (fun h1 => ?_)
    · refine z_aload_n dX6_begins_21 rfl rfl ?_
      refine z_gr6 (j := 1) dX6_begins_22 (by decide) fl_X6_19 rfl rfl rfl ?_
      refine z_iload_n dX6_begins_25 rfl rfl ?_
      refine z_cv1 (ci := 2) (nf := 11) (y := mX2_hasRow) dX6_begins_26 ml_X6_132 iv_X2_hasRow (Nat.le_of_ble_eq_true rfl) rfl (by decide) rfl (Nat.le_of_ble_eq_true rfl) (Nat.le_of_ble_eq_true rfl) (Nat.le_of_ble_eq_true rfl) (c_X2_hasRow hst x M dr hd h20) rfl ?_
      rcases ixB_cases x (n := dr + 2) (by omega) with ⟨hx, h⟩ | ⟨j, hj, rfl, hx⟩
      · rw [hx]
        refine z_if_ne (tgt := 42) dX6_begins_29 (by decide) rfl (fun h2 => ?_) (fun h2 => ?_)
        · exact absurd rfl h2
        · exact z_throw (i := 13) rfl (Nat.le_of_ble_eq_true rfl) xok_IA (List.mem_of_getElem? (i := 21) rfl) dX6_begins_32 dX6_begins_35 dX6_begins_36 dX6_begins_38 dX6_begins_41 rfl rfl ⟨rfl, Eqx.rf⟩
      · rw [hx, nI_clamp (show j < 2 ^ 31 by omega)]
        refine z_if_ne (tgt := 42) dX6_begins_29 (by decide) rfl (fun h2 => ?_) (fun h2 => ?_)
        · refine z_aload_n dX6_begins_42 rfl rfl ?_
          refine z_gr6 (j := 1) dX6_begins_43 (by decide) fl_X6_19 rfl rfl rfl ?_
          refine z_iload_n dX6_begins_46 rfl rfl ?_
          refine z_aload_n dX6_begins_47 rfl rfl ?_
          refine z_gr6 (j := 1) dX6_begins_48 (by decide) fl_X6_19 rfl rfl rfl ?_
          refine z_gr2 (j := 1) dX6_begins_51 (by decide) fl_X6_146 rfl rfl rfl ?_
          refine z_cq2 (ci := 2) (nf := 11) (y := mX2_walk) dX6_begins_54 ml_X6_149 iv_X2_walk (Nat.le_of_ble_eq_true rfl) rfl (by decide) rfl (Nat.le_of_ble_eq_true rfl) (Nat.le_of_ble_eq_true rfl) (Nat.le_of_ble_eq_true rfl) (c_X2_walk hst M (rowP B j) j 9 16 od (by omega) rfl (hW j hj).2.1 (by decide) (Or.inl rfl) (hW j hj) hod) rfl ?_
          intro N ⟨hE, hs, _⟩
          refine z_pop dX6_begins_57 rfl rfl ?_
          refine z_aload_n dX6_begins_58 rfl rfl ?_
          refine z_gr6 (j := 1) dX6_begins_59 (by decide) fl_X6_19 rfl rfl rfl ?_
          refine z_gr2 (j := 2) dX6_begins_62 (by decide) fl_X6_137 rfl rfl rfl ?_
          refine z_iload_n dX6_begins_65 rfl rfl ?_
          refine z_aldR dX6_begins_66 rfl rfl (by omega) (by decide) rfl ?_
          refine z_rowS dX6_begins_67 fl_X6_153 (by omega) rfl ?_
          refine z_iload_n dX6_begins_70 rfl rfl ?_
          refine z_iald dX6_begins_71 (by first | rfl | exact knd_h (by omega) | exact knd_s (by omega)) rfl (by omega) (by decide) rfl ?_
          exact z_ireturn dX6_begins_72 rfl ⟨by rw [hs i hi]; rfl, hE.mono (fun a b q => Sx_Sw (show j < 22 by omega) q)⟩ (Nat.le_of_ble_eq_true rfl) (Nat.le_of_ble_eq_true rfl)
        · exact absurd h2 (by decide)
    · exact absurd h1 (by decide)
/-- what the class knows of its draws, for OFF -/
def OffC (M : Mem) (n dr lim : Nat) (sf : Nat → Sch) (bk : Nat → Option Nat) : Prop := M 2 4 = nI dr ∧ dr ≤ 20 ∧ lim ≤ 1000 ∧ M 2 3 = nI n ∧ n ≤ 16 ∧ (∀ d w, d < dr → w < n → M (d + 79) w = stI (sf d w)) ∧ (∀ d w b, sf d w = some b → b ≤ 100000) ∧ (∀ w, w < n → M (w + 17) 4 = enI (bk w)) ∧ (∀ w x, bk w = some x → x ≤ 40)
def offS (dr lim n : Nat) (sf : Nat → Sch) (bk : Nat → Option Nat) (h : Nat) : Option Nat := drS dr (lateS lim (fun d => backS (sf d) bk h n) dr)
theorem offS_bd {dr lim n : Nat} {sf : Nat → Sch} {bk : Nat → Option Nat} {h x : Nat} (h20 : dr ≤ 20) (h16 : n ≤ 16) (hh : h ≤ 1000) (hb40 : ∀ w x, bk w = some x → x ≤ 40) (hx : offS dr lim n sf bk h = some x) : x ≤ 40000 := by
  unfold offS drS at hx
  split at hx
  · cases hx
  · have := lateS_bd (m := 2000) (fun d y hy => by have := backS_bd hb40 hy; omega) hx
    omega
def held (on : Option Nat) (o : Option Nat) : Bool := match o with
  | none => false
  | some x => match on with
    | none => true
    | some y => decide (x ≤ y)
set_option maxHeartbeats 4000000 in
theorem c_X6_isOffHeld {l : Launch} {E : EnT} (hst : l.stackTraces = false) (M : Mem) (n dr lim h : Nat) (on : Option Nat) (sf : Nat → Sch) (bk : Nat → Option Nat) (hO : OffC M n dr lim sf bk) (hlm : M 0 6 = nI lim) (hh : h ≤ 1000) (hon : ∀ y, on = some y → y ≤ 10000000) : Mm l E mX6_isOffHeld 2 0 0 [.ref 0, .int (nI h), .int (enI on)] M (Rt (some (.int (bI (held on (offS dr lim n sf bk h))))) M) := by
  obtain ⟨o1, o2, o3, o4, o5, o6, o7, o8, o9⟩ := hO
  refine Mm_go hst (by decide) rfl (Nat.le_of_ble_eq_true rfl) [some (.ref 0), some (.int (nI h)), some (.int (enI on)), none] rfl ?_
  refine z_aload_n dX6_isOffHeld_0 rfl rfl ?_
  refine z_gr6 (j := 1) dX6_isOffHeld_1 (by decide) fl_X6_19 rfl rfl rfl ?_
  refine z_iload_n dX6_isOffHeld_4 rfl rfl ?_
  refine z_aload_n dX6_isOffHeld_5 rfl rfl ?_
  refine z_gi6 (j := 6) dX6_isOffHeld_6 (by decide) fl_X6_45 rfl rfl rfl ?_
  refine z_tp (b := (nI lim)) hlm ?_
  refine z_cv2 (ci := 2) (nf := 11) (y := mX2_lateBacks) dX6_isOffHeld_9 ml_X6_189 iv_X2_lateBacks (Nat.le_of_ble_eq_true rfl) rfl (by decide) rfl (Nat.le_of_ble_eq_true rfl) (Nat.le_of_ble_eq_true rfl) (Nat.le_of_ble_eq_true rfl) (c_X2_lateBacks hst M n h dr lim sf bk o1 o2 o3 o4 o5 hh o6 o7 o8 o9) rfl ?_
  rw [show drS dr (lateS lim (fun d => backS (sf d) bk h n) dr) = offS dr lim n sf bk h from rfl]
  cases hx : offS dr lim n sf bk h with
  | none =>
    refine z_ist3 dX6_isOffHeld_12 (Nat.le_of_ble_eq_true rfl) rfl ?_
    refine z_iload_n dX6_isOffHeld_13 rfl rfl ?_
    refine z_iconst (v := (-1)) dX6_isOffHeld_14 (by decide) rfl ?_
    refine z_icmp_eq (tgt := 32) dX6_isOffHeld_15 (by decide) rfl (fun h1 => ?_) (fun h1 => ?_)
    · refine z_iconst (v := 0) dX6_isOffHeld_32 (by decide) rfl ?_
      exact z_zreturn dX6_isOffHeld_33 rfl rfl ⟨rfl, rfl⟩ (Nat.le_of_ble_eq_true rfl) (Nat.le_of_ble_eq_true rfl)
    · exact absurd rfl h1
  | some x =>
    have hxb := offS_bd o2 o5 hh o9 hx
    refine z_ist3 dX6_isOffHeld_12 (Nat.le_of_ble_eq_true rfl) rfl ?_
    refine z_iload_n dX6_isOffHeld_13 rfl rfl ?_
    refine z_iconst (v := (-1)) dX6_isOffHeld_14 (by decide) rfl ?_
    refine z_icmp_eq (tgt := 32) dX6_isOffHeld_15 (by decide) rfl (fun h1 => ?_) (fun h1 => ?_)
    · exact absurd h1 (nI_nm1 (by omega))
    · cases hy : on with
      | none =>
        refine z_iload_n dX6_isOffHeld_18 rfl rfl ?_
        refine z_iconst (v := (-1)) dX6_isOffHeld_19 (by decide) rfl ?_
        refine z_icmp_eq (tgt := 28) dX6_isOffHeld_20 (by decide) rfl (fun h2 => ?_) (fun h2 => ?_)
        · refine z_iconst (v := 1) dX6_isOffHeld_28 (by decide) rfl ?_
          refine z_goto (tgt := 33) dX6_isOffHeld_29 (by decide) ?_
          exact z_zreturn dX6_isOffHeld_33 rfl rfl ⟨rfl, rfl⟩ (Nat.le_of_ble_eq_true rfl) (Nat.le_of_ble_eq_true rfl)
        · exact absurd rfl h2
      | some y =>
        have hyb := hon y hy
        refine z_iload_n dX6_isOffHeld_18 rfl rfl ?_
        refine z_iconst (v := (-1)) dX6_isOffHeld_19 (by decide) rfl ?_
        refine z_icmp_eq (tgt := 28) dX6_isOffHeld_20 (by decide) rfl (fun h2 => ?_) (fun h2 => ?_)
        · exact absurd h2 (nI_nm1 (by omega))
        · refine z_iload_n dX6_isOffHeld_23 rfl rfl ?_
          refine z_iload_n dX6_isOffHeld_24 rfl rfl ?_
          refine z_icmp_gt (tgt := 32) dX6_isOffHeld_25 (by decide) rfl (fun h3 => ?_) (fun h3 => ?_)
          · have := lt_nn h3 (by omega) (by omega)
            refine z_iconst (v := 0) dX6_isOffHeld_32 (by decide) rfl ?_
            exact z_zreturn dX6_isOffHeld_33 rfl rfl ⟨by simp only [held]; rw [decide_eq_false (by omega)]; rfl, rfl⟩ (Nat.le_of_ble_eq_true rfl) (Nat.le_of_ble_eq_true rfl)
          · have := nlt_nn h3 (by omega) (by omega)
            refine z_iconst (v := 1) dX6_isOffHeld_28 (by decide) rfl ?_
            refine z_goto (tgt := 33) dX6_isOffHeld_29 (by decide) ?_
            exact z_zreturn dX6_isOffHeld_33 rfl rfl ⟨by simp only [held]; rw [decide_eq_true (by omega)]; rfl, rfl⟩ (Nat.le_of_ble_eq_true rfl) (Nat.le_of_ble_eq_true rfl)
set_option maxHeartbeats 4000000 in
theorem c_X6_off {l : Launch} {E : EnT} (hst : l.stackTraces = false) (M : Mem) (B : Bw) (od : Nat → Nat) (dr lim : Nat) (bk : Nat → Option Nat) (x : Int32) (hn : M 2 3 = nI B.1) (hd : M 2 4 = nI dr) (h20 : dr ≤ 20) (hW : ∀ r, r < dr + 2 → WC (rowP B r) M r) (hod : ∀ k, k < B.1 → M 9 k = nI (od k) ∧ od k < B.1) (hlm : M 0 6 = nI lim) (hl : lim ≤ 1000) (hbk : ∀ w, w < B.1 → M (w + 17) 4 = enI (bk w)) (hb40 : ∀ w x, bk w = some x → x ≤ 40) : Mm l E mX6_off 6 1 6 [.ref 0, .int x] M (RQ (if ixB x 1001 then .inl (some (.int (enI (offS dr lim B.1 (fun d => if d < dr then schd (rowP B (d + 2)) od else s0) bk x.toNatClampNeg)))) else .inr xIA) (fun N => Eqx Sw M N)) := by
  have h16 : B.1 ≤ 16 := (hW 0 (by omega)).2.1
  refine Mm_go hst (by decide) rfl (Nat.le_of_ble_eq_true rfl) [some (.ref 0), some (.int x)] rfl ?_
  rcases ixB_cases x (n := 1001) (by decide) with ⟨hb, h⟩ | ⟨j, hj, rfl, hb⟩
  · rw [hb]
    refine z_iload_n dX6_off_0 rfl rfl ?_
    refine z_if_lt (tgt := 11) dX6_off_1 (by decide) rfl (fun h1 => ?_) (fun h1 => ?_)
    · exact z_throw (i := 15) rfl (Nat.le_of_ble_eq_true rfl) xok_IA (List.mem_of_getElem? (i := 23) rfl) dX6_off_11 dX6_off_14 dX6_off_15 dX6_off_17 dX6_off_20 rfl rfl ⟨rfl, Eqx.rf⟩
    · refine z_iload_n dX6_off_4 rfl rfl ?_
      refine z_sipush (v := 1000) dX6_off_5 (by decide) rfl ?_
      refine z_icmp_le (tgt := 21) dX6_off_8 (by decide) rfl (fun h2 => ?_) (fun h2 => ?_)
      · exact absurd (h.resolve_left h1) (fun q => by rw [Int32.le_iff_toInt_le] at h2 q; rw [nI_toInt (by decide)] at q; have e : (1000 : Int32).toInt = 1000 := rfl; omega)
      · exact z_throw (i := 15) rfl (Nat.le_of_ble_eq_true rfl) xok_IA (List.mem_of_getElem? (i := 23) rfl) dX6_off_11 dX6_off_14 dX6_off_15 dX6_off_17 dX6_off_20 rfl rfl ⟨rfl, Eqx.rf⟩
  · rw [hb, nI_clamp (show j < 2 ^ 31 by omega)]
    refine z_iload_n dX6_off_0 rfl rfl ?_
    refine z_if_lt (tgt := 11) dX6_off_1 (by decide) rfl (fun h1 => ?_) (fun h1 => ?_)
    · exact absurd h1 (nI_pos (by omega))
    · refine z_iload_n dX6_off_4 rfl rfl ?_
      refine z_sipush (v := 1000) dX6_off_5 (by decide) rfl ?_
      refine z_icmp_le (tgt := 21) dX6_off_8 (by decide) rfl (fun h2 => ?_) (fun h2 => ?_)
      · refine z_aload_n dX6_off_21 rfl rfl ?_
        refine z_gr6 (j := 1) dX6_off_22 (by decide) fl_X6_19 rfl rfl rfl ?_
        refine z_cp0 (ci := 2) (nf := 11) (y := mX2_walkDraws) dX6_off_25 ml_X6_177 iv_X2_walkDraws (Nat.le_of_ble_eq_true rfl) rfl (by decide) rfl (Nat.le_of_ble_eq_true rfl) (Nat.le_of_ble_eq_true rfl) (Nat.le_of_ble_eq_true rfl) (c_X2_walkDraws hst M B od dr hd h20 hW hod) rfl ?_
        intro N ⟨hE, hD⟩
        refine z_aload_n dX6_off_28 rfl rfl ?_
        refine z_gr6 (j := 1) dX6_off_29 (by decide) fl_X6_19 rfl rfl rfl ?_
        refine z_iload_n dX6_off_32 rfl rfl ?_
        refine z_aload_n dX6_off_33 rfl rfl ?_
        refine z_gi6 (j := 6) dX6_off_34 (by decide) fl_X6_45 rfl rfl rfl ?_
        refine z_tp (b := (nI lim)) (by rw [hE 0 6 (by unfold Sd; omega)]; exact hlm) ?_
        have hsb : ∀ d w b, (if d < dr then schd (rowP B (d + 2)) od else s0) w = some b → b ≤ 100000 := fun d w b hb => by
          split at hb
          · have := sch_bd (P := rowP B (d + 2)) h16 (fun k hk => (hod k hk).2) (fun w hw => ((hW (d + 2) (by omega)).2.2.2.2 w hw).2.2.2.2.2.2) hb
            omega
          · cases hb
        refine z_cv2 (ci := 2) (nf := 11) (y := mX2_lateBacks) dX6_off_37 ml_X6_189 iv_X2_lateBacks (Nat.le_of_ble_eq_true rfl) rfl (by decide) rfl (Nat.le_of_ble_eq_true rfl) (Nat.le_of_ble_eq_true rfl) (Nat.le_of_ble_eq_true rfl) (c_X2_lateBacks hst N B.1 j dr lim (fun d => if d < dr then schd (rowP B (d + 2)) od else s0) bk (by rw [hE 2 4 (by unfold Sd; omega)]; exact hd) h20 hl (by rw [hE 2 3 (by unfold Sd; omega)]; exact hn) h16 (by omega) (fun d w hd hw => by rw [if_pos hd]; exact (hD d hd).1 w hw) hsb (fun w hw => by rw [hE (w + 17) 4 (by unfold Sd; omega)]; exact hbk w hw) hb40) rfl ?_
        exact z_ireturn dX6_off_40 rfl ⟨rfl, hE.mono (fun a b q => Sd_Sw q)⟩ (Nat.le_of_ble_eq_true rfl) (Nat.le_of_ble_eq_true rfl)
      · exact absurd (nI_le (a := j) (b := 1000) (by omega) (by decide)) h2
/-- steps that halve -/
def bsN (p : Nat → Bool) : Nat → Nat → Nat
  | 0, h => h
  | e + 1, h => bsN p e (if h + 2 ^ e ≤ 1000 ∧ p (h + 2 ^ e) = true then h + 2 ^ e else h)
set_option maxHeartbeats 4000000 in
theorem c_X6_last {l : Launch} {E : EnT} (hst : l.stackTraces = false) (M : Mem) (B : Bw) (od : Nat → Nat) (dr lim : Nat) (bk : Nat → Option Nat) (hn : M 2 3 = nI B.1) (hd : M 2 4 = nI dr) (h20 : dr ≤ 20) (hW : ∀ r, r < dr + 2 → WC (rowP B r) M r) (hod : ∀ k, k < B.1 → M 9 k = nI (od k) ∧ od k < B.1) (hlm : M 0 6 = nI lim) (hl : lim ≤ 1000) (hbk : ∀ w, w < B.1 → M (w + 17) 4 = enI (bk w)) (hb40 : ∀ w x, bk w = some x → x ≤ 40) : Mm l E mX6_last 4 0 0 [.ref 0] M (RP (some (.int (if dr = 0 then -1 else nI (bsN (fun h => held (drS dr (lateS lim (fun d => if d < dr then endS (rowP B (d + 2)) od else none) dr)) (offS dr lim B.1 (fun d => if d < dr then schd (rowP B (d + 2)) od else s0) bk h)) 10 0)))) (fun N => Eqx Sd M N)) := by
  have h16 : B.1 ≤ 16 := (hW 0 (by omega)).2.1
  refine Mm_go hst (by decide) rfl (Nat.le_of_ble_eq_true rfl) [some (.ref 0), none, none, none] rfl ?_
  refine z_aload_n dX6_last_0 rfl rfl ?_
  refine z_gr6 (j := 1) dX6_last_1 (by decide) fl_X6_19 rfl rfl rfl ?_
  refine z_gi2 (j := 4) dX6_last_4 (by decide) fl_X6_125 rfl rfl rfl ?_
  refine z_if_ne (tgt := 12) dX6_last_7 (by decide) rfl (fun h0 => ?_) (fun h0 => ?_)
  · have hdr : dr ≠ 0 := fun q => h0 (by rw [hd, q]; rfl)
    rw [if_neg hdr]
    refine z_aload_n dX6_last_12 rfl rfl ?_
    refine z_gr6 (j := 1) dX6_last_13 (by decide) fl_X6_19 rfl rfl rfl ?_
    refine z_cp0 (ci := 2) (nf := 11) (y := mX2_walkDraws) dX6_last_16 ml_X6_177 iv_X2_walkDraws (Nat.le_of_ble_eq_true rfl) rfl (by decide) rfl (Nat.le_of_ble_eq_true rfl) (Nat.le_of_ble_eq_true rfl) (Nat.le_of_ble_eq_true rfl) (c_X2_walkDraws hst M B od dr hd h20 hW hod) rfl ?_
    intro N ⟨hE, hD⟩
    have e4 : N 2 4 = nI dr := by rw [hE 2 4 (by unfold Sd; omega)]; exact hd
    have hfb : ∀ d x, (if d < dr then endS (rowP B (d + 2)) od else none) = some x → x ≤ 100000 := fun d x hx => by
      split at hx
      · rename_i q
        have := end_bd (P := rowP B (d + 2)) (hW (d + 2) (by omega)).2.1 (fun k hk => (hod k hk).2) (fun w hw => ((hW (d + 2) (by omega)).2.2.2.2 w hw).2.2.2.2.2.2) hx
        omega
      · cases hx
    have hsb : ∀ d w b, (if d < dr then schd (rowP B (d + 2)) od else s0) w = some b → b ≤ 100000 := fun d w b hb => by
      split at hb
      · have := sch_bd (P := rowP B (d + 2)) h16 (fun k hk => (hod k hk).2) (fun w hw => ((hW (d + 2) (by omega)).2.2.2.2 w hw).2.2.2.2.2.2) hb
        omega
      · cases hb
    have elm : N 0 6 = nI lim := by rw [hE 0 6 (by unfold Sd; omega)]; exact hlm
    refine z_aload_n dX6_last_19 rfl rfl ?_
    refine z_gr6 (j := 1) dX6_last_20 (by decide) fl_X6_19 rfl rfl rfl ?_
    refine z_aload_n dX6_last_23 rfl rfl ?_
    refine z_gi6 (j := 6) dX6_last_24 (by decide) fl_X6_45 rfl rfl rfl ?_
    refine z_tp (b := (nI lim)) elm ?_
    refine z_cv1 (ci := 2) (nf := 11) (y := mX2_lateEnds) dX6_last_27 ml_X6_184 iv_X2_lateEnds (Nat.le_of_ble_eq_true rfl) rfl (by decide) rfl (Nat.le_of_ble_eq_true rfl) (Nat.le_of_ble_eq_true rfl) (Nat.le_of_ble_eq_true rfl) (c_X2_lateEnds hst N dr lim (fun d => if d < dr then endS (rowP B (d + 2)) od else none) e4 h20 hl (fun d hd => by rw [if_pos hd]; exact (hD d hd).2) hfb) rfl ?_
    have hob : ∀ y, drS dr (lateS lim (fun d => if d < dr then endS (rowP B (d + 2)) od else none) dr) = some y → y ≤ 10000000 := fun y hy => by
      unfold drS at hy
      rw [if_neg hdr] at hy
      have := lateS_bd (m := 100000) hfb hy
      omega
    have hO : OffC N B.1 dr lim (fun d => if d < dr then schd (rowP B (d + 2)) od else s0) bk := ⟨e4, h20, hl, by rw [hE 2 3 (by unfold Sd; omega)]; exact hn, h16, fun d w hd hw => by dsimp only; rw [if_pos hd]; exact (hD d hd).1 w hw, hsb, fun w hw => by rw [hE (w + 17) 4 (by unfold Sd; omega)]; exact hbk w hw, hb40⟩
    generalize drS dr (lateS lim (fun d => if d < dr then endS (rowP B (d + 2)) od else none) dr) = on at hob ⊢
    generalize (fun d => if d < dr then schd (rowP B (d + 2)) od else s0) = sf at hO ⊢
    generalize hp : (fun h => held on (offS dr lim B.1 sf bk h)) = p
    refine z_ist1 dX6_last_30 (Nat.le_of_ble_eq_true rfl) rfl ?_
    refine z_iconst (v := 0) dX6_last_31 (by decide) rfl ?_
    refine z_ist2 dX6_last_32 (Nat.le_of_ble_eq_true rfl) rfl ?_
    refine z_sipush (v := 512) dX6_last_33 (by decide) rfl ?_
    refine z_ist3 dX6_last_36 (Nat.le_of_ble_eq_true rfl) rfl ?_
    have loop : ∀ (e h : Nat), e ≤ 9 → h ≤ 1000 → Zz (zx l E mX6_last 4 (RP (some (.int (nI (bsN p (e + 1) h)))) (fun N => Eqx Sd M N))) 0 0 37 [some (.ref 0), some (.int (enI on)), some (.int (nI h)), some (.int (nI (2 ^ e)))] [] N := by
      intro e
      induction e with
      | zero =>
        intro h he hh
        have en : ∀ (h1 : Nat), bsN p 1 h = h1 → Zz (zx l E mX6_last 4 (RP (some (.int (nI (bsN p 1 h)))) (fun N => Eqx Sd M N))) 0 0 65 [some (.ref 0), some (.int (enI on)), some (.int (nI h1)), some (.int (nI (2 ^ 0)))] [] N := fun h1 q => by
          refine z_iload_n dX6_last_65 rfl rfl ?_
          refine z_iconst (v := 1) dX6_last_66 (by decide) rfl ?_
          refine z_ishr dX6_last_67 rfl ?_
          refine z_tp (b := (0)) (by decide) ?_
          refine z_ist3 dX6_last_68 (Nat.le_of_ble_eq_true rfl) rfl ?_
          refine z_goto (tgt := 37) dX6_last_69 (by decide) ?_
          refine z_iload_n dX6_last_37 rfl rfl ?_
          refine z_if_le (tgt := 72) dX6_last_38 (by decide) rfl (fun g1 => ?_) (fun g1 => ?_)
          · refine z_iload_n dX6_last_72 rfl rfl ?_
            exact z_ireturn dX6_last_73 rfl ⟨by rw [q], hE⟩ (Nat.le_of_ble_eq_true rfl) (Nat.le_of_ble_eq_true rfl)
          · exact absurd (by decide) g1
        refine z_iload_n dX6_last_37 rfl rfl ?_
        refine z_if_le (tgt := 72) dX6_last_38 (by decide) rfl (fun g1 => ?_) (fun g1 => ?_)
        · exact absurd g1 (by decide)
        · refine z_iload_n dX6_last_41 rfl rfl ?_
          refine z_iload_n dX6_last_42 rfl rfl ?_
          refine z_iadd dX6_last_43 rfl ?_
          refine z_sipush (v := 1000) dX6_last_44 (by decide) rfl ?_
          refine z_icmp_gt (tgt := 65) dX6_last_47 (by decide) rfl (fun g2 => ?_) (fun g2 => ?_)
          · rw [nI_add] at g2
            have := lt_nn (a := 1000) g2 (by decide) (by omega)
            exact en h (by rw [bsN, if_neg (by omega)]; rfl)
          · rw [nI_add] at g2
            have g3 := nlt_nn (a := 1000) g2 (by decide) (by omega)
            refine z_aload_n dX6_last_50 rfl rfl ?_
            refine z_iload_n dX6_last_51 rfl rfl ?_
            refine z_iload_n dX6_last_52 rfl rfl ?_
            refine z_iadd dX6_last_53 rfl ?_
            refine z_tp (b := (nI (h + 2 ^ 0))) (nI_add _ _) ?_
            refine z_iload_n dX6_last_54 rfl rfl ?_
            refine z_cv2 (ci := 6) (nf := 7) (y := mX6_isOffHeld) dX6_last_55 ml_X6_192 iv_X6_isOffHeld (Nat.le_of_ble_eq_true rfl) rfl (by decide) rfl (Nat.le_of_ble_eq_true rfl) (Nat.le_of_ble_eq_true rfl) (Nat.le_of_ble_eq_true rfl) (c_X6_isOffHeld hst N B.1 dr lim (h + 2 ^ 0) on sf bk hO elm (by omega) hob) rfl ?_
            rw [show held on (offS dr lim B.1 sf bk (h + 2 ^ 0)) = p (h + 2 ^ 0) from by rw [← hp]]
            cases hb : p (h + 2 ^ 0) with
            | false =>
              refine z_if_eq (tgt := 65) dX6_last_58 (by decide) rfl (fun g4 => ?_) (fun g4 => ?_)
              · exact en h (by rw [bsN, if_neg (by rw [hb]; simp)]; rfl)
              · exact absurd rfl g4
            | true =>
              refine z_if_eq (tgt := 65) dX6_last_58 (by decide) rfl (fun g4 => ?_) (fun g4 => ?_)
              · exact absurd g4 (by decide)
              · refine z_iload_n dX6_last_61 rfl rfl ?_
                refine z_iload_n dX6_last_62 rfl rfl ?_
                refine z_iadd dX6_last_63 rfl ?_
                refine z_tp (b := (nI (h + 2 ^ 0))) (nI_add _ _) ?_
                refine z_ist2 dX6_last_64 (Nat.le_of_ble_eq_true rfl) rfl ?_
                exact en (h + 2 ^ 0) (by rw [bsN, if_pos ⟨g3, hb⟩]; rfl)
      | succ e ih =>
        intro h he hh
        have hp2 : 2 ^ (e + 1) ≤ 512 := Nat.le_trans (Nat.pow_le_pow_right (by decide) he) (by decide)
        have hp1 : 0 < 2 ^ (e + 1) := Nat.pow_pos (by decide)
        have en : ∀ (h1 : Nat), h1 ≤ 1000 → (if h + 2 ^ (e + 1) ≤ 1000 ∧ p (h + 2 ^ (e + 1)) = true then h + 2 ^ (e + 1) else h) = h1 → Zz (zx l E mX6_last 4 (RP (some (.int (nI (bsN p (e + 1 + 1) h)))) (fun N => Eqx Sd M N))) 0 0 65 [some (.ref 0), some (.int (enI on)), some (.int (nI h1)), some (.int (nI (2 ^ (e + 1))))] [] N := fun h1 hh1 q => by
          have ih1 := ih h1 (by omega) hh1
          rw [show bsN p (e + 1 + 1) h = bsN p (e + 1) h1 from by rw [bsN, q]]
          refine z_iload_n dX6_last_65 rfl rfl ?_
          refine z_iconst (v := 1) dX6_last_66 (by decide) rfl ?_
          refine z_ishr dX6_last_67 rfl ?_
          refine z_tp (b := (nI (2 ^ e))) (by rw [pk_shrN (by omega) ((1 : Int32) &&& 31) 1 (by decide), Nat.pow_succ]; congr 1; omega) ?_
          refine z_ist3 dX6_last_68 (Nat.le_of_ble_eq_true rfl) rfl ?_
          refine z_goto (tgt := 37) dX6_last_69 (by decide) ?_
          exact ih1
        refine z_iload_n dX6_last_37 rfl rfl ?_
        refine z_if_le (tgt := 72) dX6_last_38 (by decide) rfl (fun g1 => ?_) (fun g1 => ?_)
        · exact absurd (le_nn (b := 0) g1 (by omega) (by decide)) (by omega)
        · refine z_iload_n dX6_last_41 rfl rfl ?_
          refine z_iload_n dX6_last_42 rfl rfl ?_
          refine z_iadd dX6_last_43 rfl ?_
          refine z_sipush (v := 1000) dX6_last_44 (by decide) rfl ?_
          refine z_icmp_gt (tgt := 65) dX6_last_47 (by decide) rfl (fun g2 => ?_) (fun g2 => ?_)
          · rw [nI_add] at g2
            have := lt_nn (a := 1000) g2 (by decide) (by omega)
            exact en h hh (by rw [if_neg (by omega)])
          · rw [nI_add] at g2
            have g3 := nlt_nn (a := 1000) g2 (by decide) (by omega)
            refine z_aload_n dX6_last_50 rfl rfl ?_
            refine z_iload_n dX6_last_51 rfl rfl ?_
            refine z_iload_n dX6_last_52 rfl rfl ?_
            refine z_iadd dX6_last_53 rfl ?_
            refine z_tp (b := (nI (h + 2 ^ (e + 1)))) (nI_add _ _) ?_
            refine z_iload_n dX6_last_54 rfl rfl ?_
            refine z_cv2 (ci := 6) (nf := 7) (y := mX6_isOffHeld) dX6_last_55 ml_X6_192 iv_X6_isOffHeld (Nat.le_of_ble_eq_true rfl) rfl (by decide) rfl (Nat.le_of_ble_eq_true rfl) (Nat.le_of_ble_eq_true rfl) (Nat.le_of_ble_eq_true rfl) (c_X6_isOffHeld hst N B.1 dr lim (h + 2 ^ (e + 1)) on sf bk hO elm (by omega) hob) rfl ?_
            rw [show held on (offS dr lim B.1 sf bk (h + 2 ^ (e + 1))) = p (h + 2 ^ (e + 1)) from by rw [← hp]]
            cases hb : p (h + 2 ^ (e + 1)) with
            | false =>
              refine z_if_eq (tgt := 65) dX6_last_58 (by decide) rfl (fun g4 => ?_) (fun g4 => ?_)
              · exact en h hh (by rw [if_neg (by rw [hb]; simp)])
              · exact absurd rfl g4
            | true =>
              refine z_if_eq (tgt := 65) dX6_last_58 (by decide) rfl (fun g4 => ?_) (fun g4 => ?_)
              · exact absurd g4 (by decide)
              · refine z_iload_n dX6_last_61 rfl rfl ?_
                refine z_iload_n dX6_last_62 rfl rfl ?_
                refine z_iadd dX6_last_63 rfl ?_
                refine z_tp (b := (nI (h + 2 ^ (e + 1)))) (nI_add _ _) ?_
                refine z_ist2 dX6_last_64 (Nat.le_of_ble_eq_true rfl) rfl ?_
                exact en (h + 2 ^ (e + 1)) (by omega) (by rw [if_pos ⟨g3, hb⟩])
    exact loop 9 0 (by decide) (by decide)
  · have hdr : dr = 0 := (nI_eq (by omega) (by decide)).mp (hd.symm.trans h0)
    rw [if_pos hdr]
    refine z_iconst (v := (-1)) dX6_last_10 (by decide) rfl ?_
    exact z_ireturn dX6_last_11 rfl ⟨rfl, Eqx.rf⟩ (Nat.le_of_ble_eq_true rfl) (Nat.le_of_ble_eq_true rfl)
