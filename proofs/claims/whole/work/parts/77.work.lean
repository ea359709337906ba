/-! the class's work -/
def RwC (b : Nat → Nat) (t n0 : Nat) (x : Int32) (M : Mem) : Option Value ⊕ String → Mem → Prop := fun r N => (ixB x (t + 1) = false ∧ r = .inr xIA ∧ N = M) ∨ (ixB x (t + 1) = true ∧ n0 = 16 ∧ r = .inr xIS ∧ N = M) ∨ (ixB x (t + 1) = true ∧ n0 < 16 ∧ ∃ N2, Eqx S16 M N2 ∧ N2 1 1 = 0 ∧ ((∃ k p, rdS b x.toNatClampNeg n0 = .inl (k, p) ∧ 0 < k ∧ k ≤ 3 ∧ r = .inl (some (.int (nI k - 10))) ∧ N = N2 ∧ N2 1 2 = nI p) ∨ (∃ D, rdS b x.toNatClampNeg n0 = .inr D ∧ r = .inl (some (.int (nI n0))) ∧ N = addC N2 n0 ∧ N2 1 2 = -1 ∧ DC D N2)))
set_option maxHeartbeats 8000000 in
theorem c_X6_work {l : Launch} {E : EnT} (hst : l.stackTraces = false) (hV : hVw E) (M : Mem) (b : Nat → Nat) (t n0 : Nat) (x : Int32) (ht : M 1 1 = nI t) (h200 : t ≤ 200) (hb : ∀ i, i < t → M 7 i = nI (b i) ∧ b i < 256) (hn : M 2 3 = nI n0) (h16 : n0 ≤ 16) : Mm l E mX6_work 9 1 6 [.ref 0, .int x] M (RwC b t n0 x M) := by
  refine Mm_go hst (by decide) rfl (Nat.le_of_ble_eq_true rfl) [some (.ref 0), some (.int x), none] rfl ?_
  rcases ixB_cases x (n := t + 1) (by omega) with ⟨hx, h⟩ | ⟨j, hj, rfl, hx⟩
  · refine z_iload_n dX6_work_0 rfl rfl ?_
    refine z_if_lt (tgt := 15) dX6_work_1 (by decide) rfl (fun h1 => ?_) (fun h1 => ?_)
    · exact z_throw (i := 8) rfl (Nat.le_of_ble_eq_true rfl) xok_IA (List.mem_of_getElem? (i := 16) rfl) dX6_work_15 dX6_work_18 dX6_work_19 dX6_work_21 dX6_work_24 rfl rfl (Or.inl ⟨hx, rfl, rfl⟩)
    · refine z_iload_n dX6_work_4 rfl rfl ?_
      refine z_aload_n dX6_work_5 rfl rfl ?_
      refine z_gr6 (j := 0) dX6_work_6 (by decide) fl_X6_10 rfl rfl rfl ?_
      refine z_gi3 (j := 1) dX6_work_9 (by decide) fl_X6_48 rfl rfl rfl ?_
      refine z_icmp_le (tgt := 25) dX6_work_12 (by decide) rfl (fun h2 => ?_) (fun h2 => ?_)
      · rw [ht] at h2
        exact absurd (h.resolve_left h1) (fun q => by rw [Int32.le_iff_toInt_le] at h2 q; rw [nI_toInt (by omega)] at q; rw [nI_toInt (by omega)] at h2; omega)
      · exact z_throw (i := 8) rfl (Nat.le_of_ble_eq_true rfl) xok_IA (List.mem_of_getElem? (i := 16) rfl) dX6_work_15 dX6_work_18 dX6_work_19 dX6_work_21 dX6_work_24 rfl rfl (Or.inl ⟨hx, rfl, rfl⟩)
  · refine z_iload_n dX6_work_0 rfl rfl ?_
    refine z_if_lt (tgt := 15) dX6_work_1 (by decide) rfl (fun h1 => ?_) (fun h1 => ?_)
    · exact absurd h1 (nI_pos (by omega))
    · refine z_iload_n dX6_work_4 rfl rfl ?_
      refine z_aload_n dX6_work_5 rfl rfl ?_
      refine z_gr6 (j := 0) dX6_work_6 (by decide) fl_X6_10 rfl rfl rfl ?_
      refine z_gi3 (j := 1) dX6_work_9 (by decide) fl_X6_48 rfl rfl rfl ?_
      refine z_icmp_le (tgt := 25) dX6_work_12 (by decide) rfl (fun h2 => ?_) (fun h2 => ?_)
      · refine z_aload_n dX6_work_25 rfl rfl ?_
        refine z_gr6 (j := 1) dX6_work_26 (by decide) fl_X6_19 rfl rfl rfl ?_
        refine z_gi2 (j := 3) dX6_work_29 (by decide) fl_X6_62 rfl rfl rfl ?_
        refine z_bipush (v := 16) dX6_work_32 (by decide) rfl ?_
        refine z_icmp_lt (tgt := 47) dX6_work_34 (by decide) rfl (fun h3 => ?_) (fun h3 => ?_)
        · rw [hn] at h3
          have hlt := lt_nn (b := 16) h3 (by omega) (by decide)
          refine z_aload_n dX6_work_47 rfl rfl ?_
          refine z_gr6 (j := 0) dX6_work_48 (by decide) fl_X6_10 rfl rfl rfl ?_
          refine z_iload_n dX6_work_51 rfl rfl ?_
          refine z_aload_n dX6_work_52 rfl rfl ?_
          refine z_gr6 (j := 1) dX6_work_53 (by decide) fl_X6_19 rfl rfl rfl ?_
          refine z_gi2 (j := 3) dX6_work_56 (by decide) fl_X6_62 rfl rfl rfl ?_
          refine z_tp (b := (nI n0)) hn ?_
          refine z_cg2 (ci := 3) (nf := 10) (y := mX3_read) dX6_work_59 ml_X6_70 iv_X3_read (Nat.le_of_ble_eq_true rfl) rfl (by decide) rfl (Nat.le_of_ble_eq_true rfl) (Nat.le_of_ble_eq_true rfl) (Nat.le_of_ble_eq_true rfl) (c_X3_read hst hV M b j n0 (by omega) (fun i hi => hb i (by omega)) h16) RdF_nx rfl ?_
          intro v N ⟨hE, q1, hr⟩
          rcases hr with ⟨k, p, e, k0, k3, r, k2⟩ | ⟨D, e, r, k2, hD⟩
          · cases r
            refine z_ist2 dX6_work_62 (Nat.le_of_ble_eq_true rfl) rfl ?_
            refine z_iload_n dX6_work_63 rfl rfl ?_
            refine z_if_ne (tgt := 84) dX6_work_64 (by decide) rfl (fun g => ?_) (fun g => ?_)
            · refine z_iload_n dX6_work_84 rfl rfl ?_
              refine z_bipush (v := 10) dX6_work_85 (by decide) rfl ?_
              refine z_isub dX6_work_87 rfl ?_
              exact z_ireturn dX6_work_88 rfl (Or.inr (Or.inr ⟨hx, hlt, N, hE, q1, Or.inl ⟨k, p, by rw [nI_clamp (by omega)]; exact e, k0, k3, rfl, rfl, k2⟩⟩)) (Nat.le_of_ble_eq_true rfl) (Nat.le_of_ble_eq_true rfl)
            · exact absurd ((nI_eq (b := 0) (by omega) (by decide)).mp g) (by omega)
          · cases r
            refine z_ist2 dX6_work_62 (Nat.le_of_ble_eq_true rfl) rfl ?_
            refine z_iload_n dX6_work_63 rfl rfl ?_
            refine z_if_ne (tgt := 84) dX6_work_64 (by decide) rfl (fun g => ?_) (fun g => ?_)
            · exact absurd rfl g
            · refine z_aload_n dX6_work_67 rfl rfl ?_
              refine z_gr6 (j := 1) dX6_work_68 (by decide) fl_X6_19 rfl rfl rfl ?_
              refine z_aload_n dX6_work_71 rfl rfl ?_
              refine z_gr6 (j := 0) dX6_work_72 (by decide) fl_X6_10 rfl rfl rfl ?_
              refine z_gr3 (j := 0) dX6_work_75 (by decide) fl_X6_74 rfl rfl rfl ?_
              refine z_cv1 (ci := 2) (nf := 11) (y := mX2_add) dX6_work_78 ml_X6_78 iv_X2_add (Nat.le_of_ble_eq_true rfl) rfl (by decide) rfl (Nat.le_of_ble_eq_true rfl) (Nat.le_of_ble_eq_true rfl) (Nat.le_of_ble_eq_true rfl) (c_X2_add hst N n0 (by rw [hE 2 3 (by unfold S16; omega)]; exact hn) hlt) rfl ?_
              refine z_goto (tgt := 88) dX6_work_81 (by decide) ?_
              exact z_ireturn dX6_work_88 rfl (Or.inr (Or.inr ⟨hx, hlt, N, hE, q1, Or.inr ⟨D, by rw [nI_clamp (by omega)]; exact e, rfl, rfl, k2, hD⟩⟩)) (Nat.le_of_ble_eq_true rfl) (Nat.le_of_ble_eq_true rfl)
        · rw [hn] at h3
          have := nlt_nn (b := 16) h3 (by omega) (by decide)
          exact z_throw (i := 9) rfl (Nat.le_of_ble_eq_true rfl) xok_IS (List.mem_of_getElem? (i := 17) rfl) dX6_work_37 dX6_work_40 dX6_work_41 dX6_work_43 dX6_work_46 rfl rfl (Or.inr (Or.inl ⟨hx, by omega, rfl, rfl⟩))
      · rw [ht] at h2
        exact absurd (nI_le (show j ≤ t by omega) (by omega)) h2
