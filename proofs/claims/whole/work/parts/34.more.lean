/-! told, set, noise, order, count, hours -/
def tldC (M : Mem) (w k : Int32) (n : Nat) : Option Value ⊕ String :=
  if ixB w n then (if ixB k 6 then .inl (some (.int (M (w.toNatClampNeg + 17) k.toNatClampNeg))) else .inr xIA) else .inr xIO
theorem ixB_6 {k : Int32} (h : ixB k 6 = false) : k.toInt < 0 ∨ 5 < k.toInt := by
  unfold ixB at h; simp at h; omega
set_option maxHeartbeats 4000000 in
theorem c_X6_told {l : Launch} {E : EnT} (hst : l.stackTraces = false) (w k : Int32) (M : Mem) (n : Nat) (hn : M 2 3 = nI n) (h16 : n ≤ 16) : Mm l E mX6_told 6 1 6 [.ref 0, .int w, .int k] M (Rx (tldC M w k n) M) := by
  refine Mm_go hst (by decide) rfl (Nat.le_of_ble_eq_true rfl) [some (.ref 0), some (.int w), some (.int k), none] rfl ?_
  refine z_aload_n dX6_told_0 rfl rfl ?_
  refine z_gr6 (j := 1) dX6_told_1 (by decide) fl_X6_19 rfl rfl rfl ?_
  refine z_iload_n dX6_told_4 rfl rfl ?_
  refine z_cv1 (ci := 2) (nf := 11) (y := mX2_hasWork) dX6_told_5 ml_X6_85 iv_X2_hasWork (Nat.le_of_ble_eq_true rfl) rfl (by decide) rfl (Nat.le_of_ble_eq_true rfl) (Nat.le_of_ble_eq_true rfl) (Nat.le_of_ble_eq_true rfl) (c_X2_hasWork hst w M n hn h16) rfl ?_
  rcases ixB_cases w (n := n) (by omega) with ⟨hb, h⟩ | ⟨j, hj, rfl, hb⟩
  · rw [hb]
    refine z_if_ne (tgt := 21) dX6_told_8 (by decide) rfl (fun h1 => ?_) (fun h1 => ?_)
    · exact absurd rfl h1
    · exact z_throw (i := 10) rfl (Nat.le_of_ble_eq_true rfl) xok_IO (List.mem_of_getElem? (i := 18) rfl) dX6_told_11 dX6_told_14 dX6_told_15 dX6_told_17 dX6_told_20 rfl rfl ⟨by simp [tldC, hb]; rfl, rfl⟩
  · rw [hb]
    refine z_if_ne (tgt := 21) dX6_told_8 (by decide) rfl (fun h1 => ?_) (fun h1 => ?_)
    · refine z_aload_n dX6_told_21 rfl rfl ?_
      refine z_gr6 (j := 1) dX6_told_22 (by decide) fl_X6_19 rfl rfl rfl ?_
      refine z_gr2 (j := 0) dX6_told_25 (by decide) fl_X6_94 rfl rfl rfl ?_
      refine z_iload_n dX6_told_28 rfl rfl ?_
      refine z_aldW dX6_told_29 rfl rfl (by omega) (by decide) rfl ?_
      refine z_ast3 dX6_told_30 (Nat.le_of_ble_eq_true rfl) rfl ?_
      refine z_iload_n dX6_told_31 rfl rfl ?_
      rcases ixB_cases k (n := 6) (by decide) with ⟨hk, h2⟩ | ⟨i, hi, rfl, hk⟩
      · refine z_tabOut (tgt := 102) dX6_told_32 (ixB_6 hk) (by decide) ?_
        exact z_throw (i := 11) rfl (Nat.le_of_ble_eq_true rfl) xok_IA (List.mem_of_getElem? (i := 19) rfl) dX6_told_102 dX6_told_105 dX6_told_106 dX6_told_108 dX6_told_111 rfl rfl ⟨by simp [tldC, hb, hk]; rfl, rfl⟩
      · have e1 : (nI j).toNatClampNeg = j := nI_clamp (by omega)
        rcases (show i = 0 ∨ i = 1 ∨ i = 2 ∨ i = 3 ∨ i = 4 ∨ i = 5 by omega) with rfl | rfl | rfl | rfl | rfl | rfl
        · refine z_tabIn (off := 40) (tgt := 72) dX6_told_32 (by decide) (by decide) (by decide) (by decide) ?_
          refine z_aload_n dX6_told_72 rfl rfl ?_
          refine z_gi4 (j := 0) dX6_told_73 (by decide) fl_X6_98 (by first | assumption | rfl | exact knd_w (by omega)) rfl rfl ?_
          exact z_ireturn dX6_told_76 rfl ⟨by simp [tldC, hb, hk, e1]; rfl, rfl⟩ (Nat.le_of_ble_eq_true rfl) (Nat.le_of_ble_eq_true rfl)
        · refine z_tabIn (off := 45) (tgt := 77) dX6_told_32 (by decide) (by decide) (by decide) (by decide) ?_
          refine z_aload_n dX6_told_77 rfl rfl ?_
          refine z_gi4 (j := 1) dX6_told_78 (by decide) fl_X6_103 (by first | assumption | rfl | exact knd_w (by omega)) rfl rfl ?_
          exact z_ireturn dX6_told_81 rfl ⟨by simp [tldC, hb, hk, e1]; rfl, rfl⟩ (Nat.le_of_ble_eq_true rfl) (Nat.le_of_ble_eq_true rfl)
        · refine z_tabIn (off := 50) (tgt := 82) dX6_told_32 (by decide) (by decide) (by decide) (by decide) ?_
          refine z_aload_n dX6_told_82 rfl rfl ?_
          refine z_gi4 (j := 2) dX6_told_83 (by decide) fl_X6_106 (by first | assumption | rfl | exact knd_w (by omega)) rfl rfl ?_
          exact z_ireturn dX6_told_86 rfl ⟨by simp [tldC, hb, hk, e1]; rfl, rfl⟩ (Nat.le_of_ble_eq_true rfl) (Nat.le_of_ble_eq_true rfl)
        · refine z_tabIn (off := 55) (tgt := 87) dX6_told_32 (by decide) (by decide) (by decide) (by decide) ?_
          refine z_aload_n dX6_told_87 rfl rfl ?_
          refine z_gi4 (j := 3) dX6_told_88 (by decide) fl_X6_109 (by first | assumption | rfl | exact knd_w (by omega)) rfl rfl ?_
          exact z_ireturn dX6_told_91 rfl ⟨by simp [tldC, hb, hk, e1]; rfl, rfl⟩ (Nat.le_of_ble_eq_true rfl) (Nat.le_of_ble_eq_true rfl)
        · refine z_tabIn (off := 60) (tgt := 92) dX6_told_32 (by decide) (by decide) (by decide) (by decide) ?_
          refine z_aload_n dX6_told_92 rfl rfl ?_
          refine z_gi4 (j := 4) dX6_told_93 (by decide) fl_X6_112 (by first | assumption | rfl | exact knd_w (by omega)) rfl rfl ?_
          exact z_ireturn dX6_told_96 rfl ⟨by simp [tldC, hb, hk, e1]; rfl, rfl⟩ (Nat.le_of_ble_eq_true rfl) (Nat.le_of_ble_eq_true rfl)
        · refine z_tabIn (off := 65) (tgt := 97) dX6_told_32 (by decide) (by decide) (by decide) (by decide) ?_
          refine z_aload_n dX6_told_97 rfl rfl ?_
          refine z_gi4 (j := 5) dX6_told_98 (by decide) fl_X6_115 (by first | assumption | rfl | exact knd_w (by omega)) rfl rfl ?_
          exact z_ireturn dX6_told_101 rfl ⟨by simp [tldC, hb, hk, e1]; rfl, rfl⟩ (Nat.le_of_ble_eq_true rfl) (Nat.le_of_ble_eq_true rfl)
    · exact absurd h1 (by decide)
def tldM (M : Mem) (w k : Int32) (n : Nat) : Int32 × Mem :=
  if ixB w n then (if ixB k 6 then (M (101 + k.toNatClampNeg) w.toNatClampNeg, mu M 99 0 0) else (0, mu (mu M 99 0 0) 99 0 2)) else (0, mu (mu M 99 0 0) 99 0 1)
set_option maxHeartbeats 4000000 in
theorem c_X7_told {l : Launch} {E : EnT} (hst : l.stackTraces = false) (w k : Int32) (M : Mem) (n : Nat) (hn : M 99 14 = nI n) (h16 : n ≤ 16) : Mm l E mX7_told 1 0 0 [.ref 99, .int w, .int k] M (Rt (some (.int (tldM M w k n).1)) (tldM M w k n).2) := by
  refine Mm_go hst (by decide) rfl (Nat.le_of_ble_eq_true rfl) [some (.ref 99), some (.int w), some (.int k)] rfl ?_
  refine z_aload_n dX7_told_0 rfl rfl ?_
  refine z_iconst (v := 0) dX7_told_1 (by decide) rfl ?_
  refine z_pi7 (j := 0) dX7_told_2 (by decide) fl_X7_79 rfl rfl rfl rfl rfl ?_
  refine z_aload_n dX7_told_5 rfl rfl ?_
  refine z_aload_n dX7_told_6 rfl rfl ?_
  refine z_iload_n dX7_told_7 rfl rfl ?_
  refine z_cv1 (ci := 7) (nf := 32) (y := mX7_isWork) dX7_told_8 ml_X7_164 iv_X7_isWork (Nat.le_of_ble_eq_true rfl) rfl (by decide) rfl (Nat.le_of_ble_eq_true rfl) (Nat.le_of_ble_eq_true rfl) (Nat.le_of_ble_eq_true rfl) (c_X7_isWork hst w (mu M 99 0 0) n hn h16) rfl ?_
  rcases ixB_cases w (n := n) (by omega) with ⟨hb, h⟩ | ⟨j, hj, rfl, hb⟩
  · rw [hb]
    refine z_if_ne (tgt := 18) dX7_told_11 (by decide) rfl (fun h1 => ?_) (fun h1 => ?_)
    · exact absurd rfl h1
    · refine z_iconst (v := 1) dX7_told_14 (by decide) rfl ?_
      refine z_goto (tgt := 19) dX7_told_15 (by decide) ?_
      refine z_iconst (v := 1) dX7_told_19 (by decide) rfl ?_
      refine z_cv2 (ci := 7) (nf := 32) (y := mX7_bad) dX7_told_20 ml_X7_154 iv_X7_bad (Nat.le_of_ble_eq_true rfl) rfl (by decide) rfl (Nat.le_of_ble_eq_true rfl) (Nat.le_of_ble_eq_true rfl) (Nat.le_of_ble_eq_true rfl) (c_X7_bad1 hst 1 _) rfl ?_
      refine z_if_ne (tgt := 48) dX7_told_23 (by decide) rfl (fun h2 => ?_) (fun h2 => ?_)
      · refine z_iconst (v := 0) dX7_told_48 (by decide) rfl ?_
        exact z_ireturn dX7_told_49 rfl ⟨by simp [tldM, hb], by simp [tldM, hb]⟩ (Nat.le_of_ble_eq_true rfl) (Nat.le_of_ble_eq_true rfl)
      · exact absurd h2 (by decide)
  · rw [hb]
    refine z_if_ne (tgt := 18) dX7_told_11 (by decide) rfl (fun h1 => ?_) (fun h1 => ?_)
    · refine z_iconst (v := 0) dX7_told_18 (by decide) rfl ?_
      refine z_iconst (v := 1) dX7_told_19 (by decide) rfl ?_
      refine z_cv2 (ci := 7) (nf := 32) (y := mX7_bad) dX7_told_20 ml_X7_154 iv_X7_bad (Nat.le_of_ble_eq_true rfl) rfl (by decide) rfl (Nat.le_of_ble_eq_true rfl) (Nat.le_of_ble_eq_true rfl) (Nat.le_of_ble_eq_true rfl) (c_X7_bad0 hst 1 _) rfl ?_
      refine z_if_ne (tgt := 48) dX7_told_23 (by decide) rfl (fun h2 => ?_) (fun h2 => ?_)
      · exact absurd rfl h2
      · rcases ixB_cases k (n := 6) (by decide) with ⟨hk, h3⟩ | ⟨i, hi, rfl, hk⟩
        · have bd : Zz (zx l E mX7_told 1 (Rt (some (.int (tldM M (nI j) k n).1)) (tldM M (nI j) k n).2)) 0 0 36 [some (.ref 99), some (.int (nI j)), some (.int k)] [.ref 99] (mu M 99 0 0) := by
            refine z_iconst (v := 1) dX7_told_36 (by decide) rfl ?_
            refine z_goto (tgt := 41) dX7_told_37 (by decide) ?_
            refine z_iconst (v := 2) dX7_told_41 (by decide) rfl ?_
            refine z_cv2 (ci := 7) (nf := 32) (y := mX7_bad) dX7_told_42 ml_X7_154 iv_X7_bad (Nat.le_of_ble_eq_true rfl) rfl (by decide) rfl (Nat.le_of_ble_eq_true rfl) (Nat.le_of_ble_eq_true rfl) (Nat.le_of_ble_eq_true rfl) (c_X7_bad1 hst 2 _) rfl ?_
            refine z_if_eq (tgt := 50) dX7_told_45 (by decide) rfl (fun h5 => ?_) (fun h5 => ?_)
            · exact absurd h5 (by decide)
            · refine z_iconst (v := 0) dX7_told_48 (by decide) rfl ?_
              exact z_ireturn dX7_told_49 rfl ⟨by simp [tldM, hb, hk], by simp [tldM, hb, hk]⟩ (Nat.le_of_ble_eq_true rfl) (Nat.le_of_ble_eq_true rfl)
          refine z_aload_n dX7_told_26 rfl rfl ?_
          refine z_iload_n dX7_told_27 rfl rfl ?_
          refine z_if_lt (tgt := 36) dX7_told_28 (by decide) rfl (fun h4 => ?_) (fun h4 => ?_)
          · exact bd
          · refine z_iload_n dX7_told_31 rfl rfl ?_
            refine z_iconst (v := 5) dX7_told_32 (by decide) rfl ?_
            refine z_icmp_le (tgt := 40) dX7_told_33 (by decide) rfl (fun h5 => ?_) (fun h5 => ?_)
            · exact absurd (h3.resolve_left h4) (fun q => by rw [Int32.le_iff_toInt_le] at q h5; simp at h5; rw [nI_toInt (by decide)] at q; omega)
            · exact bd
        · have e1 : (nI j).toNatClampNeg = j := nI_clamp (by omega)
          refine z_aload_n dX7_told_26 rfl rfl ?_
          refine z_iload_n dX7_told_27 rfl rfl ?_
          refine z_if_lt (tgt := 36) dX7_told_28 (by decide) rfl (fun h4 => ?_) (fun h4 => ?_)
          · exact absurd h4 (nI_pos (by omega))
          · refine z_iload_n dX7_told_31 rfl rfl ?_
            refine z_iconst (v := 5) dX7_told_32 (by decide) rfl ?_
            refine z_icmp_le (tgt := 40) dX7_told_33 (by decide) rfl (fun h5 => ?_) (fun h5 => ?_)
            · refine z_iconst (v := 0) dX7_told_40 (by decide) rfl ?_
              refine z_iconst (v := 2) dX7_told_41 (by decide) rfl ?_
              refine z_cv2 (ci := 7) (nf := 32) (y := mX7_bad) dX7_told_42 ml_X7_154 iv_X7_bad (Nat.le_of_ble_eq_true rfl) rfl (by decide) rfl (Nat.le_of_ble_eq_true rfl) (Nat.le_of_ble_eq_true rfl) (Nat.le_of_ble_eq_true rfl) (c_X7_bad0 hst 2 _) rfl ?_
              refine z_if_eq (tgt := 50) dX7_told_45 (by decide) rfl (fun h6 => ?_) (fun h6 => ?_)
              · rcases (show i = 0 ∨ i = 1 ∨ i = 2 ∨ i = 3 ∨ i = 4 ∨ i = 5 by omega) with rfl | rfl | rfl | rfl | rfl | rfl
                · refine z_iload_n dX7_told_50 rfl rfl ?_
                  refine z_if_ne (tgt := 63) dX7_told_51 (by decide) rfl (fun q0 => ?_) (fun q0 => ?_)
                  · exact absurd rfl q0
                  · refine z_aload_n dX7_told_54 rfl rfl ?_
                    refine z_gr7 (j := 7) dX7_told_55 (by decide) fl_X7_17 rfl rfl rfl ?_
                    refine z_iload_n dX7_told_58 rfl rfl ?_
                    refine z_iald dX7_told_59 (by first | rfl | exact knd_h (by omega) | exact knd_s (by omega)) rfl (by omega) (by decide) rfl ?_
                    refine z_goto (tgt := 125) dX7_told_60 (by decide) ?_
                    exact z_ireturn dX7_told_125 rfl ⟨by simp [tldM, hb, hk, e1]; rfl, by simp [tldM, hb, hk]⟩ (Nat.le_of_ble_eq_true rfl) (Nat.le_of_ble_eq_true rfl)
                · refine z_iload_n dX7_told_50 rfl rfl ?_
                  refine z_if_ne (tgt := 63) dX7_told_51 (by decide) rfl (fun q0 => ?_) (fun q0 => ?_)
                  · refine z_iload_n dX7_told_63 rfl rfl ?_
                    refine z_iconst (v := 1) dX7_told_64 (by decide) rfl ?_
                    refine z_icmp_ne (tgt := 77) dX7_told_65 (by decide) rfl (fun q1 => ?_) (fun q1 => ?_)
                    · exact absurd rfl q1
                    · refine z_aload_n dX7_told_68 rfl rfl ?_
                      refine z_gr7 (j := 8) dX7_told_69 (by decide) fl_X7_21 rfl rfl rfl ?_
                      refine z_iload_n dX7_told_72 rfl rfl ?_
                      refine z_iald dX7_told_73 (by first | rfl | exact knd_h (by omega) | exact knd_s (by omega)) rfl (by omega) (by decide) rfl ?_
                      refine z_goto (tgt := 125) dX7_told_74 (by decide) ?_
                      exact z_ireturn dX7_told_125 rfl ⟨by simp [tldM, hb, hk, e1]; rfl, by simp [tldM, hb, hk]⟩ (Nat.le_of_ble_eq_true rfl) (Nat.le_of_ble_eq_true rfl)
                  · exact absurd q0 (by decide)
                · refine z_iload_n dX7_told_50 rfl rfl ?_
                  refine z_if_ne (tgt := 63) dX7_told_51 (by decide) rfl (fun q0 => ?_) (fun q0 => ?_)
                  · refine z_iload_n dX7_told_63 rfl rfl ?_
                    refine z_iconst (v := 1) dX7_told_64 (by decide) rfl ?_
                    refine z_icmp_ne (tgt := 77) dX7_told_65 (by decide) rfl (fun q1 => ?_) (fun q1 => ?_)
                    · refine z_iload_n dX7_told_77 rfl rfl ?_
                      refine z_iconst (v := 2) dX7_told_78 (by decide) rfl ?_
                      refine z_icmp_ne (tgt := 91) dX7_told_79 (by decide) rfl (fun q2 => ?_) (fun q2 => ?_)
                      · exact absurd rfl q2
                      · refine z_aload_n dX7_told_82 rfl rfl ?_
                        refine z_gr7 (j := 9) dX7_told_83 (by decide) fl_X7_24 rfl rfl rfl ?_
                        refine z_iload_n dX7_told_86 rfl rfl ?_
                        refine z_iald dX7_told_87 (by first | rfl | exact knd_h (by omega) | exact knd_s (by omega)) rfl (by omega) (by decide) rfl ?_
                        refine z_goto (tgt := 125) dX7_told_88 (by decide) ?_
                        exact z_ireturn dX7_told_125 rfl ⟨by simp [tldM, hb, hk, e1]; rfl, by simp [tldM, hb, hk]⟩ (Nat.le_of_ble_eq_true rfl) (Nat.le_of_ble_eq_true rfl)
                    · exact absurd q1 (by decide)
                  · exact absurd q0 (by decide)
                · refine z_iload_n dX7_told_50 rfl rfl ?_
                  refine z_if_ne (tgt := 63) dX7_told_51 (by decide) rfl (fun q0 => ?_) (fun q0 => ?_)
                  · refine z_iload_n dX7_told_63 rfl rfl ?_
                    refine z_iconst (v := 1) dX7_told_64 (by decide) rfl ?_
                    refine z_icmp_ne (tgt := 77) dX7_told_65 (by decide) rfl (fun q1 => ?_) (fun q1 => ?_)
                    · refine z_iload_n dX7_told_77 rfl rfl ?_
                      refine z_iconst (v := 2) dX7_told_78 (by decide) rfl ?_
                      refine z_icmp_ne (tgt := 91) dX7_told_79 (by decide) rfl (fun q2 => ?_) (fun q2 => ?_)
                      · refine z_iload_n dX7_told_91 rfl rfl ?_
                        refine z_iconst (v := 3) dX7_told_92 (by decide) rfl ?_
                        refine z_icmp_ne (tgt := 105) dX7_told_93 (by decide) rfl (fun q3 => ?_) (fun q3 => ?_)
                        · exact absurd rfl q3
                        · refine z_aload_n dX7_told_96 rfl rfl ?_
                          refine z_gr7 (j := 10) dX7_told_97 (by decide) fl_X7_27 rfl rfl rfl ?_
                          refine z_iload_n dX7_told_100 rfl rfl ?_
                          refine z_iald dX7_told_101 (by first | rfl | exact knd_h (by omega) | exact knd_s (by omega)) rfl (by omega) (by decide) rfl ?_
                          refine z_goto (tgt := 125) dX7_told_102 (by decide) ?_
                          exact z_ireturn dX7_told_125 rfl ⟨by simp [tldM, hb, hk, e1]; rfl, by simp [tldM, hb, hk]⟩ (Nat.le_of_ble_eq_true rfl) (Nat.le_of_ble_eq_true rfl)
                      · exact absurd q2 (by decide)
                    · exact absurd q1 (by decide)
                  · exact absurd q0 (by decide)
                · refine z_iload_n dX7_told_50 rfl rfl ?_
                  refine z_if_ne (tgt := 63) dX7_told_51 (by decide) rfl (fun q0 => ?_) (fun q0 => ?_)
                  · refine z_iload_n dX7_told_63 rfl rfl ?_
                    refine z_iconst (v := 1) dX7_told_64 (by decide) rfl ?_
                    refine z_icmp_ne (tgt := 77) dX7_told_65 (by decide) rfl (fun q1 => ?_) (fun q1 => ?_)
                    · refine z_iload_n dX7_told_77 rfl rfl ?_
                      refine z_iconst (v := 2) dX7_told_78 (by decide) rfl ?_
                      refine z_icmp_ne (tgt := 91) dX7_told_79 (by decide) rfl (fun q2 => ?_) (fun q2 => ?_)
                      · refine z_iload_n dX7_told_91 rfl rfl ?_
                        refine z_iconst (v := 3) dX7_told_92 (by decide) rfl ?_
                        refine z_icmp_ne (tgt := 105) dX7_told_93 (by decide) rfl (fun q3 => ?_) (fun q3 => ?_)
                        · refine z_iload_n dX7_told_105 rfl rfl ?_
                          refine z_iconst (v := 4) dX7_told_106 (by decide) rfl ?_
                          refine z_icmp_ne (tgt := 119) dX7_told_107 (by decide) rfl (fun q4 => ?_) (fun q4 => ?_)
                          · exact absurd rfl q4
                          · refine z_aload_n dX7_told_110 rfl rfl ?_
                            refine z_gr7 (j := 11) dX7_told_111 (by decide) fl_X7_30 rfl rfl rfl ?_
                            refine z_iload_n dX7_told_114 rfl rfl ?_
                            refine z_iald dX7_told_115 (by first | rfl | exact knd_h (by omega) | exact knd_s (by omega)) rfl (by omega) (by decide) rfl ?_
                            refine z_goto (tgt := 125) dX7_told_116 (by decide) ?_
                            exact z_ireturn dX7_told_125 rfl ⟨by simp [tldM, hb, hk, e1]; rfl, by simp [tldM, hb, hk]⟩ (Nat.le_of_ble_eq_true rfl) (Nat.le_of_ble_eq_true rfl)
                        · exact absurd q3 (by decide)
                      · exact absurd q2 (by decide)
                    · exact absurd q1 (by decide)
                  · exact absurd q0 (by decide)
                · refine z_iload_n dX7_told_50 rfl rfl ?_
                  refine z_if_ne (tgt := 63) dX7_told_51 (by decide) rfl (fun q0 => ?_) (fun q0 => ?_)
                  · refine z_iload_n dX7_told_63 rfl rfl ?_
                    refine z_iconst (v := 1) dX7_told_64 (by decide) rfl ?_
                    refine z_icmp_ne (tgt := 77) dX7_told_65 (by decide) rfl (fun q1 => ?_) (fun q1 => ?_)
                    · refine z_iload_n dX7_told_77 rfl rfl ?_
                      refine z_iconst (v := 2) dX7_told_78 (by decide) rfl ?_
                      refine z_icmp_ne (tgt := 91) dX7_told_79 (by decide) rfl (fun q2 => ?_) (fun q2 => ?_)
                      · refine z_iload_n dX7_told_91 rfl rfl ?_
                        refine z_iconst (v := 3) dX7_told_92 (by decide) rfl ?_
                        refine z_icmp_ne (tgt := 105) dX7_told_93 (by decide) rfl (fun q3 => ?_) (fun q3 => ?_)
                        · refine z_iload_n dX7_told_105 rfl rfl ?_
                          refine z_iconst (v := 4) dX7_told_106 (by decide) rfl ?_
                          refine z_icmp_ne (tgt := 119) dX7_told_107 (by decide) rfl (fun q4 => ?_) (fun q4 => ?_)
                          · refine z_aload_n dX7_told_119 rfl rfl ?_
                            refine z_gr7 (j := 12) dX7_told_120 (by decide) fl_X7_33 rfl rfl rfl ?_
                            refine z_iload_n dX7_told_123 rfl rfl ?_
                            refine z_iald dX7_told_124 (by first | rfl | exact knd_h (by omega) | exact knd_s (by omega)) rfl (by omega) (by decide) rfl ?_
                            exact z_ireturn dX7_told_125 rfl ⟨by simp [tldM, hb, hk, e1]; rfl, by simp [tldM, hb, hk]⟩ (Nat.le_of_ble_eq_true rfl) (Nat.le_of_ble_eq_true rfl)
                          · exact absurd q4 (by decide)
                        · exact absurd q3 (by decide)
                      · exact absurd q2 (by decide)
                    · exact absurd q1 (by decide)
                  · exact absurd q0 (by decide)
              · exact absurd rfl h6
            · exact absurd (nI_le (a := i) (b := 5) (by omega) (by decide)) h5
    · exact absurd h1 (by decide)
/-! noise -/
set_option maxHeartbeats 4000000 in
theorem c_X6_noise {l : Launch} {E : EnT} (hst : l.stackTraces = false) (v : Int32) (M : Mem) (c : Nat) (hc0 : M 0 5 = nI c) (h20 : c ≤ 20) : Mm l E mX6_noise 0 0 0 [.ref 0, .int v] M (Rt (some (.int (if c = 20 then -1 else nI (c + 1)))) (if c = 20 then M else mu (mu M 5 c v) 0 5 (nI (c + 1)))) := by
  refine Mm_go hst (by decide) rfl (Nat.le_of_ble_eq_true rfl) [some (.ref 0), some (.int v)] rfl ?_
  refine z_aload_n dX6_noise_0 rfl rfl ?_
  refine z_gi6 (j := 5) dX6_noise_1 (by decide) fl_X6_41 rfl rfl rfl ?_
  refine z_bipush (v := 20) dX6_noise_4 (by decide) rfl ?_
  refine z_icmp_lt (tgt := 11) dX6_noise_6 (by decide) rfl (fun h1 => ?_) (fun h1 => ?_)
  · have hc : c ≠ 20 := fun q => by rw [hc0, q] at h1; exact absurd h1 (by decide)
    rw [if_neg hc, if_neg hc]
    refine z_aload_n dX6_noise_11 rfl rfl ?_
    refine z_gr6 (j := 4) dX6_noise_12 (by decide) fl_X6_37 rfl rfl rfl ?_
    refine z_aload_n dX6_noise_15 rfl rfl ?_
    refine z_gi6 (j := 5) dX6_noise_16 (by decide) fl_X6_41 rfl rfl rfl ?_
    refine z_iload_n dX6_noise_19 rfl rfl ?_
    refine z_iast dX6_noise_20 (by first | rfl | exact knd_h (by omega) | exact knd_s (by omega)) hc0 (by omega) (by decide) rfl ?_
    refine z_aload_n dX6_noise_21 rfl rfl ?_
    refine z_dup dX6_noise_22 rfl rfl ?_
    refine z_gi6 (j := 5) dX6_noise_23 (by decide) fl_X6_41 rfl rfl rfl ?_
    refine z_iconst (v := 1) dX6_noise_26 (by decide) rfl ?_
    refine z_iadd dX6_noise_27 rfl ?_
    refine z_pi6 (j := 5) dX6_noise_28 (by decide) fl_X6_41 rfl rfl rfl rfl rfl ?_
    refine z_mem (N := mu (mu M 5 c v) 0 5 (nI (c + 1))) ?_ ?_
    · rw [← nI_1 c, ← hc0]; rfl
    refine z_aload_n dX6_noise_31 rfl rfl ?_
    refine z_gi6 (j := 5) dX6_noise_32 (by decide) fl_X6_41 rfl rfl rfl ?_
    exact z_ireturn dX6_noise_35 rfl ⟨rfl, rfl⟩ (Nat.le_of_ble_eq_true rfl) (Nat.le_of_ble_eq_true rfl)
  · have hc : c = 20 := by
      rw [hc0] at h1
      have := nlt_nn (a := c) (b := 20) h1 (by omega) (by decide)
      omega
    rw [if_pos hc, if_pos hc]
    refine z_iconst (v := (-1)) dX6_noise_9 (by decide) rfl ?_
    exact z_ireturn dX6_noise_10 rfl ⟨rfl, rfl⟩ (Nat.le_of_ble_eq_true rfl) (Nat.le_of_ble_eq_true rfl)
set_option maxHeartbeats 4000000 in
theorem c_X7_noise {l : Launch} {E : EnT} (hst : l.stackTraces = false) (v : Int32) (M : Mem) (c : Nat) (hc0 : M 99 19 = nI c) (h20 : c ≤ 20) : Mm l E mX7_noise 0 0 0 [.ref 99, .int v] M (Rt (some (.int (if c = 20 then -1 else nI (c + 1)))) (if c = 20 then mu M 99 0 0 else mu (mu (mu M 99 0 0) 109 c v) 99 19 (nI (c + 1)))) := by
  refine Mm_go hst (by decide) rfl (Nat.le_of_ble_eq_true rfl) [some (.ref 99), some (.int v)] rfl ?_
  refine z_aload_n dX7_noise_0 rfl rfl ?_
  refine z_iconst (v := 0) dX7_noise_1 (by decide) rfl ?_
  refine z_pi7 (j := 0) dX7_noise_2 (by decide) fl_X7_79 rfl rfl rfl rfl rfl ?_
  refine z_aload_n dX7_noise_5 rfl rfl ?_
  refine z_gi7 (j := 19) dX7_noise_6 (by decide) fl_X7_167 rfl rfl rfl ?_
  refine z_bipush (v := 20) dX7_noise_9 (by decide) rfl ?_
  refine z_icmp_ne (tgt := 16) dX7_noise_11 (by decide) rfl (fun h1 => ?_) (fun h1 => ?_)
  · have hc : c ≠ 20 := fun q => h1 (by rw [show mu M 99 0 0 99 19 = nI c from hc0, q]; rfl)
    rw [if_neg hc, if_neg hc]
    refine z_aload_n dX7_noise_16 rfl rfl ?_
    refine z_gr7 (j := 18) dX7_noise_17 (by decide) fl_X7_49 rfl rfl rfl ?_
    refine z_aload_n dX7_noise_20 rfl rfl ?_
    refine z_gi7 (j := 19) dX7_noise_21 (by decide) fl_X7_167 rfl rfl rfl ?_
    refine z_iload_n dX7_noise_24 rfl rfl ?_
    refine z_iast dX7_noise_25 (by first | rfl | exact knd_h (by omega) | exact knd_s (by omega)) (show mu M 99 0 0 99 19 = nI c from hc0) (by omega) (by decide) rfl ?_
    refine z_aload_n dX7_noise_26 rfl rfl ?_
    refine z_dup dX7_noise_27 rfl rfl ?_
    refine z_gi7 (j := 19) dX7_noise_28 (by decide) fl_X7_167 rfl rfl rfl ?_
    refine z_iconst (v := 1) dX7_noise_31 (by decide) rfl ?_
    refine z_iadd dX7_noise_32 rfl ?_
    refine z_pi7 (j := 19) dX7_noise_33 (by decide) fl_X7_167 rfl rfl rfl rfl rfl ?_
    refine z_mem (N := mu (mu (mu M 99 0 0) 109 c v) 99 19 (nI (c + 1))) ?_ ?_
    · rw [← nI_1 c, ← hc0]; rfl
    refine z_aload_n dX7_noise_36 rfl rfl ?_
    refine z_gi7 (j := 19) dX7_noise_37 (by decide) fl_X7_167 rfl rfl rfl ?_
    exact z_ireturn dX7_noise_40 rfl ⟨rfl, rfl⟩ (Nat.le_of_ble_eq_true rfl) (Nat.le_of_ble_eq_true rfl)
  · have hc : c = 20 := (nI_eq (by omega) (by decide)).mp (hc0.symm.trans h1)
    rw [if_pos hc, if_pos hc]
    refine z_iconst (v := (-1)) dX7_noise_14 (by decide) rfl ?_
    exact z_ireturn dX7_noise_15 rfl ⟨rfl, rfl⟩ (Nat.le_of_ble_eq_true rfl) (Nat.le_of_ble_eq_true rfl)
set_option maxHeartbeats 4000000 in
theorem c_X6_order {l : Launch} {E : EnT} (hst : l.stackTraces = false) (w : Int32) (M : Mem) (n : Nat) (hn : M 2 3 = nI n) (h16 : n ≤ 16) : Mm l E mX6_order 0 0 0 [.ref 0, .int w] M (Rt (some (.int (if ixB w n then M 9 w.toNatClampNeg else -1))) M) := by
  refine Mm_go hst (by decide) rfl (Nat.le_of_ble_eq_true rfl) [some (.ref 0), some (.int w)] rfl ?_
  rcases ixB_cases w (n := n) (by omega) with ⟨hb, h⟩ | ⟨j, hj, rfl, hb⟩
  · rw [hb]
    refine z_iload_n dX6_order_0 rfl rfl ?_
    refine z_if_lt (tgt := 27) dX6_order_1 (by decide) rfl (fun h1 => ?_) (fun h1 => ?_)
    · refine z_iconst (v := (-1)) dX6_order_27 (by decide) rfl ?_
      exact z_ireturn dX6_order_28 rfl ⟨rfl, rfl⟩ (Nat.le_of_ble_eq_true rfl) (Nat.le_of_ble_eq_true rfl)
    · refine z_iload_n dX6_order_4 rfl rfl ?_
      refine z_aload_n dX6_order_5 rfl rfl ?_
      refine z_gr6 (j := 1) dX6_order_6 (by decide) fl_X6_19 rfl rfl rfl ?_
      refine z_gi2 (j := 3) dX6_order_9 (by decide) fl_X6_62 rfl rfl rfl ?_
      refine z_icmp_ge (tgt := 27) dX6_order_12 (by decide) rfl (fun h2 => ?_) (fun h2 => ?_)
      · refine z_iconst (v := (-1)) dX6_order_27 (by decide) rfl ?_
        exact z_ireturn dX6_order_28 rfl ⟨rfl, rfl⟩ (Nat.le_of_ble_eq_true rfl) (Nat.le_of_ble_eq_true rfl)
      · exact absurd (h.resolve_left h1) (by rw [hn] at h2; exact h2)
  · rw [hb, nI_clamp (show j < 2 ^ 31 by omega)]
    refine z_iload_n dX6_order_0 rfl rfl ?_
    refine z_if_lt (tgt := 27) dX6_order_1 (by decide) rfl (fun h1 => ?_) (fun h1 => ?_)
    · exact absurd h1 (nI_pos (by omega))
    · refine z_iload_n dX6_order_4 rfl rfl ?_
      refine z_aload_n dX6_order_5 rfl rfl ?_
      refine z_gr6 (j := 1) dX6_order_6 (by decide) fl_X6_19 rfl rfl rfl ?_
      refine z_gi2 (j := 3) dX6_order_9 (by decide) fl_X6_62 rfl rfl rfl ?_
      refine z_icmp_ge (tgt := 27) dX6_order_12 (by decide) rfl (fun h2 => ?_) (fun h2 => ?_)
      · exact absurd h2 (by rw [hn]; exact nI_ge hj (by omega))
      · refine z_aload_n dX6_order_15 rfl rfl ?_
        refine z_gr6 (j := 1) dX6_order_16 (by decide) fl_X6_19 rfl rfl rfl ?_
        refine z_gr2 (j := 1) dX6_order_19 (by decide) fl_X6_146 rfl rfl rfl ?_
        refine z_iload_n dX6_order_22 rfl rfl ?_
        refine z_iald dX6_order_23 (by first | rfl | exact knd_h (by omega) | exact knd_s (by omega)) rfl (by omega) (by decide) rfl ?_
        refine z_goto (tgt := 28) dX6_order_24 (by decide) ?_
        exact z_ireturn dX6_order_28 rfl ⟨rfl, rfl⟩ (Nat.le_of_ble_eq_true rfl) (Nat.le_of_ble_eq_true rfl)
set_option maxHeartbeats 4000000 in
theorem c_X7_order {l : Launch} {E : EnT} (hst : l.stackTraces = false) (w : Int32) (M : Mem) (n : Nat) (hn : M 99 14 = nI n) (h16 : n ≤ 16) : Mm l E mX7_order 0 0 0 [.ref 99, .int w] M (Rt (some (.int (if ixB w n then M 107 w.toNatClampNeg else -1))) (mu M 99 0 0)) := by
  refine Mm_go hst (by decide) rfl (Nat.le_of_ble_eq_true rfl) [some (.ref 99), some (.int w)] rfl ?_
  rcases ixB_cases w (n := n) (by omega) with ⟨hb, h⟩ | ⟨j, hj, rfl, hb⟩
  · rw [hb]
    refine z_aload_n dX7_order_0 rfl rfl ?_
    refine z_iconst (v := 0) dX7_order_1 (by decide) rfl ?_
    refine z_pi7 (j := 0) dX7_order_2 (by decide) fl_X7_79 rfl rfl rfl rfl rfl ?_
    refine z_iload_n dX7_order_5 rfl rfl ?_
    refine z_if_lt (tgt := 26) dX7_order_6 (by decide) rfl (fun h1 => ?_) (fun h1 => ?_)
    · refine z_iconst (v := (-1)) dX7_order_26 (by decide) rfl ?_
      exact z_ireturn dX7_order_27 rfl ⟨rfl, rfl⟩ (Nat.le_of_ble_eq_true rfl) (Nat.le_of_ble_eq_true rfl)
    · refine z_iload_n dX7_order_9 rfl rfl ?_
      refine z_aload_n dX7_order_10 rfl rfl ?_
      refine z_gi7 (j := 14) dX7_order_11 (by decide) fl_X7_144 rfl rfl rfl ?_
      refine z_icmp_ge (tgt := 26) dX7_order_14 (by decide) rfl (fun h2 => ?_) (fun h2 => ?_)
      · refine z_iconst (v := (-1)) dX7_order_26 (by decide) rfl ?_
        exact z_ireturn dX7_order_27 rfl ⟨rfl, rfl⟩ (Nat.le_of_ble_eq_true rfl) (Nat.le_of_ble_eq_true rfl)
      · exact absurd (h.resolve_left h1) (by rw [show mu M 99 0 0 99 14 = nI n from hn] at h2; exact h2)
  · rw [hb, nI_clamp (show j < 2 ^ 31 by omega)]
    refine z_aload_n dX7_order_0 rfl rfl ?_
    refine z_iconst (v := 0) dX7_order_1 (by decide) rfl ?_
    refine z_pi7 (j := 0) dX7_order_2 (by decide) fl_X7_79 rfl rfl rfl rfl rfl ?_
    refine z_iload_n dX7_order_5 rfl rfl ?_
    refine z_if_lt (tgt := 26) dX7_order_6 (by decide) rfl (fun h1 => ?_) (fun h1 => ?_)
    · exact absurd h1 (nI_pos (by omega))
    · refine z_iload_n dX7_order_9 rfl rfl ?_
      refine z_aload_n dX7_order_10 rfl rfl ?_
      refine z_gi7 (j := 14) dX7_order_11 (by decide) fl_X7_144 rfl rfl rfl ?_
      refine z_icmp_ge (tgt := 26) dX7_order_14 (by decide) rfl (fun h2 => ?_) (fun h2 => ?_)
      · exact absurd h2 (by rw [show mu M 99 0 0 99 14 = nI n from hn]; exact nI_ge hj (by omega))
      · refine z_aload_n dX7_order_17 rfl rfl ?_
        refine z_gr7 (j := 13) dX7_order_18 (by decide) fl_X7_36 rfl rfl rfl ?_
        refine z_iload_n dX7_order_21 rfl rfl ?_
        refine z_iald dX7_order_22 (by first | rfl | exact knd_h (by omega) | exact knd_s (by omega)) rfl (by omega) (by decide) rfl ?_
        refine z_goto (tgt := 27) dX7_order_23 (by decide) ?_
        exact z_ireturn dX7_order_27 rfl ⟨rfl, rfl⟩ (Nat.le_of_ble_eq_true rfl) (Nat.le_of_ble_eq_true rfl)
theorem ixB_5 {k : Int32} (h : ixB k 5 = false) : k.toInt < 0 ∨ 4 < k.toInt := by
  unfold ixB at h; simp at h; omega
def cntV (f : Nat → Int32) (k : Int32) : Int32 := if ixB k 5 then f k.toNatClampNeg else -1
set_option maxHeartbeats 4000000 in
theorem c_X6_count {l : Launch} {E : EnT} (hst : l.stackTraces = false) (k : Int32) (M : Mem) : Mm l E mX6_count 0 0 0 [.ref 0, .int k] M (Rt (some (.int (cntV (fun i => if i = 0 then M 2 3 else if i = 1 then M 2 4 else if i = 2 then M 0 5 else if i = 3 then M 4 0 else M 1 1) k))) M) := by
  refine Mm_go hst (by decide) rfl (Nat.le_of_ble_eq_true rfl) [some (.ref 0), some (.int k)] rfl ?_
  refine z_iload_n dX6_count_0 rfl rfl ?_
  rcases ixB_cases k (n := 5) (by decide) with ⟨hk, h2⟩ | ⟨i, hi, rfl, hk⟩
  · refine z_tabOut (tgt := 73) dX6_count_1 (ixB_5 hk) (by decide) ?_
    refine z_iconst (v := (-1)) dX6_count_73 (by decide) rfl ?_
    exact z_ireturn dX6_count_74 rfl ⟨by simp [cntV, hk], rfl⟩ (Nat.le_of_ble_eq_true rfl) (Nat.le_of_ble_eq_true rfl)
  · rcases (show i = 0 ∨ i = 1 ∨ i = 2 ∨ i = 3 ∨ i = 4 by omega) with rfl | rfl | rfl | rfl | rfl
    · refine z_tabIn (off := 35) (tgt := 36) dX6_count_1 (by decide) (by decide) (by decide) (by decide) ?_
      refine z_aload_n dX6_count_36 rfl rfl ?_
      refine z_gr6 (j := 1) dX6_count_37 (by decide) fl_X6_19 rfl rfl rfl ?_
      refine z_gi2 (j := 3) dX6_count_40 (by decide) fl_X6_62 rfl rfl rfl ?_
      exact z_ireturn dX6_count_43 rfl ⟨by unfold cntV; rw [if_pos hk]; rfl, rfl⟩ (Nat.le_of_ble_eq_true rfl) (Nat.le_of_ble_eq_true rfl)
    · refine z_tabIn (off := 43) (tgt := 44) dX6_count_1 (by decide) (by decide) (by decide) (by decide) ?_
      refine z_aload_n dX6_count_44 rfl rfl ?_
      refine z_gr6 (j := 1) dX6_count_45 (by decide) fl_X6_19 rfl rfl rfl ?_
      refine z_gi2 (j := 4) dX6_count_48 (by decide) fl_X6_125 rfl rfl rfl ?_
      exact z_ireturn dX6_count_51 rfl ⟨by unfold cntV; rw [if_pos hk]; rfl, rfl⟩ (Nat.le_of_ble_eq_true rfl) (Nat.le_of_ble_eq_true rfl)
    · refine z_tabIn (off := 51) (tgt := 52) dX6_count_1 (by decide) (by decide) (by decide) (by decide) ?_
      refine z_aload_n dX6_count_52 rfl rfl ?_
      refine z_gi6 (j := 5) dX6_count_53 (by decide) fl_X6_41 rfl rfl rfl ?_
      exact z_ireturn dX6_count_56 rfl ⟨by unfold cntV; rw [if_pos hk]; rfl, rfl⟩ (Nat.le_of_ble_eq_true rfl) (Nat.le_of_ble_eq_true rfl)
    · refine z_tabIn (off := 56) (tgt := 57) dX6_count_1 (by decide) (by decide) (by decide) (by decide) ?_
      refine z_aload_n dX6_count_57 rfl rfl ?_
      refine z_gr6 (j := 3) dX6_count_58 (by decide) fl_X6_33 rfl rfl rfl ?_
      refine z_gi5 (j := 0) dX6_count_61 (by decide) fl_X6_198 rfl rfl rfl ?_
      exact z_ireturn dX6_count_64 rfl ⟨by unfold cntV; rw [if_pos hk]; rfl, rfl⟩ (Nat.le_of_ble_eq_true rfl) (Nat.le_of_ble_eq_true rfl)
    · refine z_tabIn (off := 64) (tgt := 65) dX6_count_1 (by decide) (by decide) (by decide) (by decide) ?_
      refine z_aload_n dX6_count_65 rfl rfl ?_
      refine z_gr6 (j := 0) dX6_count_66 (by decide) fl_X6_10 rfl rfl rfl ?_
      refine z_gi3 (j := 1) dX6_count_69 (by decide) fl_X6_48 rfl rfl rfl ?_
      exact z_ireturn dX6_count_72 rfl ⟨by unfold cntV; rw [if_pos hk]; rfl, rfl⟩ (Nat.le_of_ble_eq_true rfl) (Nat.le_of_ble_eq_true rfl)
set_option maxHeartbeats 4000000 in
theorem c_X7_count {l : Launch} {E : EnT} (hst : l.stackTraces = false) (k : Int32) (M : Mem) : Mm l E mX7_count 0 0 0 [.ref 99, .int k] M (Rt (some (.int (cntV (fun i => if i = 0 then M 99 14 else if i = 1 then M 99 20 else if i = 2 then M 99 19 else if i = 3 then M 99 30 else M 99 2) k))) (mu M 99 0 0)) := by
  refine Mm_go hst (by decide) rfl (Nat.le_of_ble_eq_true rfl) [some (.ref 99), some (.int k)] rfl ?_
  refine z_aload_n dX7_count_0 rfl rfl ?_
  refine z_iconst (v := 0) dX7_count_1 (by decide) rfl ?_
  refine z_pi7 (j := 0) dX7_count_2 (by decide) fl_X7_79 rfl rfl rfl rfl rfl ?_
  refine z_iload_n dX7_count_5 rfl rfl ?_
  rcases ixB_cases k (n := 5) (by decide) with ⟨hk, h2⟩ | ⟨i, hi, rfl, hk⟩
  · refine z_tabOut (tgt := 65) dX7_count_6 (ixB_5 hk) (by decide) ?_
    refine z_iconst (v := (-1)) dX7_count_65 (by decide) rfl ?_
    exact z_ireturn dX7_count_66 rfl ⟨by simp [cntV, hk], rfl⟩ (Nat.le_of_ble_eq_true rfl) (Nat.le_of_ble_eq_true rfl)
  · rcases (show i = 0 ∨ i = 1 ∨ i = 2 ∨ i = 3 ∨ i = 4 by omega) with rfl | rfl | rfl | rfl | rfl
    · refine z_tabIn (off := 34) (tgt := 40) dX7_count_6 (by decide) (by decide) (by decide) (by decide) ?_
      refine z_aload_n dX7_count_40 rfl rfl ?_
      refine z_gi7 (j := 14) dX7_count_41 (by decide) fl_X7_144 rfl rfl rfl ?_
      exact z_ireturn dX7_count_44 rfl ⟨by unfold cntV; rw [if_pos hk]; rfl, rfl⟩ (Nat.le_of_ble_eq_true rfl) (Nat.le_of_ble_eq_true rfl)
    · refine z_tabIn (off := 39) (tgt := 45) dX7_count_6 (by decide) (by decide) (by decide) (by decide) ?_
      refine z_aload_n dX7_count_45 rfl rfl ?_
      refine z_gi7 (j := 20) dX7_count_46 (by decide) fl_X7_161 rfl rfl rfl ?_
      exact z_ireturn dX7_count_49 rfl ⟨by unfold cntV; rw [if_pos hk]; rfl, rfl⟩ (Nat.le_of_ble_eq_true rfl) (Nat.le_of_ble_eq_true rfl)
    · refine z_tabIn (off := 44) (tgt := 50) dX7_count_6 (by decide) (by decide) (by decide) (by decide) ?_
      refine z_aload_n dX7_count_50 rfl rfl ?_
      refine z_gi7 (j := 19) dX7_count_51 (by decide) fl_X7_167 rfl rfl rfl ?_
      exact z_ireturn dX7_count_54 rfl ⟨by unfold cntV; rw [if_pos hk]; rfl, rfl⟩ (Nat.le_of_ble_eq_true rfl) (Nat.le_of_ble_eq_true rfl)
    · refine z_tabIn (off := 49) (tgt := 55) dX7_count_6 (by decide) (by decide) (by decide) (by decide) ?_
      refine z_aload_n dX7_count_55 rfl rfl ?_
      refine z_gi7 (j := 30) dX7_count_56 (by decide) fl_X7_202 rfl rfl rfl ?_
      exact z_ireturn dX7_count_59 rfl ⟨by unfold cntV; rw [if_pos hk]; rfl, rfl⟩ (Nat.le_of_ble_eq_true rfl) (Nat.le_of_ble_eq_true rfl)
    · refine z_tabIn (off := 54) (tgt := 60) dX7_count_6 (by decide) (by decide) (by decide) (by decide) ?_
      refine z_aload_n dX7_count_60 rfl rfl ?_
      refine z_gi7 (j := 2) dX7_count_61 (by decide) fl_X7_82 rfl rfl rfl ?_
      exact z_ireturn dX7_count_64 rfl ⟨by unfold cntV; rw [if_pos hk]; rfl, rfl⟩ (Nat.le_of_ble_eq_true rfl) (Nat.le_of_ble_eq_true rfl)
/-! set, hours, late -/
def setOk (k v : Int32) : Bool := (decide (k = 0) && decide (1 ≤ v) && decide (v ≤ 60)) || (decide (k = 1) && decide (0 ≤ v) && decide (v ≤ 1000))
def setC (M : Mem) (k v : Int32) : (Option Value ⊕ String) × Mem :=
  if setOk k v then (if k = 0 then (.inl (some (.int (M 2 5))), mu M 2 5 v) else (.inl (some (.int (M 0 6))), mu M 0 6 v)) else (.inr xIA, M)
theorem i32_lt_of_nle {a b : Int32} (h : ¬ a ≤ b) : b < a := by
  rw [Int32.lt_iff_toInt_lt]; rw [Int32.le_iff_toInt_le] at h; omega
theorem i32_le_of_nlt {a b : Int32} (h : ¬ a < b) : b ≤ a := by
  rw [Int32.lt_iff_toInt_lt] at h; rw [Int32.le_iff_toInt_le]; omega
theorem i32_nlt {a b : Int32} (h : a ≤ b) : ¬ b < a := by
  rw [Int32.lt_iff_toInt_lt]; rw [Int32.le_iff_toInt_le] at h; omega
theorem i32_nle {a b : Int32} (h : a < b) : ¬ b ≤ a := by
  rw [Int32.lt_iff_toInt_lt] at h; rw [Int32.le_iff_toInt_le]; omega
set_option maxHeartbeats 4000000 in
theorem c_X6_set {l : Launch} {E : EnT} (hst : l.stackTraces = false) (k v : Int32) (M : Mem) : Mm l E mX6_set 6 1 6 [.ref 0, .int k, .int v] M (Rx (setC M k v).1 (setC M k v).2) := by
  refine Mm_go hst (by decide) rfl (Nat.le_of_ble_eq_true rfl) [some (.ref 0), some (.int k), some (.int v), none] rfl ?_
  have bd : setOk k v = false → Zz (zt l E mX6_set 6 (Rx (setC M k v).1 (setC M k v).2)) 0 0 61 [some (.ref 0), some (.int k), some (.int v), none] [] M := fun hb => by
    exact z_throw (i := 12) rfl (Nat.le_of_ble_eq_true rfl) xok_IA (List.mem_of_getElem? (i := 20) rfl) dX6_set_61 dX6_set_64 dX6_set_65 dX6_set_67 dX6_set_70 rfl rfl ⟨by simp [setC, hb]; rfl, by simp [setC, hb]⟩
  have p2 : ¬ (k = 0 ∧ 1 ≤ v ∧ v ≤ 60) → Zz (zt l E mX6_set 6 (Rx (setC M k v).1 (setC M k v).2)) 0 0 33 [some (.ref 0), some (.int k), some (.int v), none] [] M := fun hn => by
    have hz : (decide (k = 0) && decide (1 ≤ v) && decide (v ≤ 60)) = false := by simp; exact fun a b => i32_lt_of_nle (fun c => hn ⟨a, b, c⟩)
    refine z_iload_n dX6_set_33 rfl rfl ?_
    refine z_iconst (v := 1) dX6_set_34 (by decide) rfl ?_
    refine z_icmp_ne (tgt := 61) dX6_set_35 (by decide) rfl (fun h1 => ?_) (fun h1 => ?_)
    · exact bd (by unfold setOk; rw [hz]; simp [h1])
    · refine z_iload_n dX6_set_38 rfl rfl ?_
      refine z_if_lt (tgt := 61) dX6_set_39 (by decide) rfl (fun h2 => ?_) (fun h2 => ?_)
      · exact bd (by unfold setOk; rw [hz]; simp [i32_nle h2])
      · refine z_iload_n dX6_set_42 rfl rfl ?_
        refine z_sipush (v := 1000) dX6_set_43 (by decide) rfl ?_
        refine z_icmp_gt (tgt := 61) dX6_set_46 (by decide) rfl (fun h3 => ?_) (fun h3 => ?_)
        · exact bd (by unfold setOk; rw [hz]; simp [i32_nle h3])
        · have hok : setOk k v = true := by unfold setOk; simp [h1, i32_le_of_nlt h2, i32_le_of_nlt h3]
          have hk0 : ¬ k = 0 := fun q => by rw [q] at h1; exact absurd h1 (by decide)
          refine z_aload_n dX6_set_49 rfl rfl ?_
          refine z_gi6 (j := 6) dX6_set_50 (by decide) fl_X6_45 rfl rfl rfl ?_
          refine z_ist3 dX6_set_53 (Nat.le_of_ble_eq_true rfl) rfl ?_
          refine z_aload_n dX6_set_54 rfl rfl ?_
          refine z_iload_n dX6_set_55 rfl rfl ?_
          refine z_pi6 (j := 6) dX6_set_56 (by decide) fl_X6_45 rfl rfl rfl rfl rfl ?_
          refine z_iload_n dX6_set_59 rfl rfl ?_
          exact z_ireturn dX6_set_60 rfl ⟨by simp [setC, hok, hk0], by simp [setC, hok, hk0]⟩ (Nat.le_of_ble_eq_true rfl) (Nat.le_of_ble_eq_true rfl)
  refine z_iload_n dX6_set_0 rfl rfl ?_
  refine z_if_ne (tgt := 33) dX6_set_1 (by decide) rfl (fun h1 => ?_) (fun h1 => ?_)
  · exact p2 (fun q => h1 q.1)
  · refine z_iload_n dX6_set_4 rfl rfl ?_
    refine z_iconst (v := 1) dX6_set_5 (by decide) rfl ?_
    refine z_icmp_lt (tgt := 33) dX6_set_6 (by decide) rfl (fun h2 => ?_) (fun h2 => ?_)
    · exact p2 (fun q => i32_nle h2 q.2.1)
    · refine z_iload_n dX6_set_9 rfl rfl ?_
      refine z_bipush (v := 60) dX6_set_10 (by decide) rfl ?_
      refine z_icmp_gt (tgt := 33) dX6_set_12 (by decide) rfl (fun h3 => ?_) (fun h3 => ?_)
      · exact p2 (fun q => i32_nle h3 q.2.2)
      · have hok : setOk k v = true := by unfold setOk; simp [h1, i32_le_of_nlt h2, i32_le_of_nlt h3]
        refine z_aload_n dX6_set_15 rfl rfl ?_
        refine z_gr6 (j := 1) dX6_set_16 (by decide) fl_X6_19 rfl rfl rfl ?_
        refine z_gi2 (j := 5) dX6_set_19 (by decide) fl_X6_120 rfl rfl rfl ?_
        refine z_ist3 dX6_set_22 (Nat.le_of_ble_eq_true rfl) rfl ?_
        refine z_aload_n dX6_set_23 rfl rfl ?_
        refine z_gr6 (j := 1) dX6_set_24 (by decide) fl_X6_19 rfl rfl rfl ?_
        refine z_iload_n dX6_set_27 rfl rfl ?_
        refine z_pi2 (j := 5) dX6_set_28 (by decide) fl_X6_120 rfl rfl rfl rfl rfl ?_
        refine z_iload_n dX6_set_31 rfl rfl ?_
        exact z_ireturn dX6_set_32 rfl ⟨by unfold setC; rw [if_pos hok, if_pos h1], by unfold setC; rw [if_pos hok, if_pos h1]⟩ (Nat.le_of_ble_eq_true rfl) (Nat.le_of_ble_eq_true rfl)
def setM (M : Mem) (k v : Int32) : Int32 × Mem :=
  if setOk k v then (if k = 0 then (M 99 15, mu (mu M 99 0 0) 99 15 v) else (M 99 16, mu (mu M 99 0 0) 99 16 v)) else (0, mu (mu M 99 0 0) 99 0 1)
set_option maxHeartbeats 4000000 in
theorem c_X7_set {l : Launch} {E : EnT} (hst : l.stackTraces = false) (k v : Int32) (M : Mem) : Mm l E mX7_set 1 0 0 [.ref 99, .int k, .int v] M (Rt (some (.int (setM M k v).1)) (setM M k v).2) := by
  refine Mm_go hst (by decide) rfl (Nat.le_of_ble_eq_true rfl) [some (.ref 99), some (.int k), some (.int v), none] rfl ?_
  have bd : setOk k v = false → Zz (zx l E mX7_set 1 (Rt (some (.int (setM M k v).1)) (setM M k v).2)) 0 0 44 [some (.ref 99), some (.int k), some (.int v), none] [.ref 99] (mu M 99 0 0) := fun hb => by
    refine z_iconst (v := 1) dX7_set_44 (by decide) rfl ?_
    refine z_goto (tgt := 49) dX7_set_45 (by decide) ?_
    refine z_iconst (v := 1) dX7_set_49 (by decide) rfl ?_
    refine z_cv2 (ci := 7) (nf := 32) (y := mX7_bad) dX7_set_50 ml_X7_154 iv_X7_bad (Nat.le_of_ble_eq_true rfl) rfl (by decide) rfl (Nat.le_of_ble_eq_true rfl) (Nat.le_of_ble_eq_true rfl) (Nat.le_of_ble_eq_true rfl) (c_X7_bad1 hst 1 _) rfl ?_
    refine z_if_eq (tgt := 58) dX7_set_53 (by decide) rfl (fun h1 => ?_) (fun h1 => ?_)
    · exact absurd h1 (by decide)
    · refine z_iconst (v := 0) dX7_set_56 (by decide) rfl ?_
      exact z_ireturn dX7_set_57 rfl ⟨by simp [setM, hb], by simp [setM, hb]⟩ (Nat.le_of_ble_eq_true rfl) (Nat.le_of_ble_eq_true rfl)
  have gd : setOk k v = true → Zz (zx l E mX7_set 1 (Rt (some (.int (setM M k v).1)) (setM M k v).2)) 0 0 48 [some (.ref 99), some (.int k), some (.int v), none] [.ref 99] (mu M 99 0 0) := fun hb => by
    refine z_iconst (v := 0) dX7_set_48 (by decide) rfl ?_
    refine z_iconst (v := 1) dX7_set_49 (by decide) rfl ?_
    refine z_cv2 (ci := 7) (nf := 32) (y := mX7_bad) dX7_set_50 ml_X7_154 iv_X7_bad (Nat.le_of_ble_eq_true rfl) rfl (by decide) rfl (Nat.le_of_ble_eq_true rfl) (Nat.le_of_ble_eq_true rfl) (Nat.le_of_ble_eq_true rfl) (c_X7_bad0 hst 1 _) rfl ?_
    refine z_if_eq (tgt := 58) dX7_set_53 (by decide) rfl (fun h1 => ?_) (fun h1 => ?_)
    · refine z_iload_n dX7_set_58 rfl rfl ?_
      refine z_if_ne (tgt := 69) dX7_set_59 (by decide) rfl (fun h2 => ?_) (fun h2 => ?_)
      · refine z_aload_n dX7_set_69 rfl rfl ?_
        refine z_gi7 (j := 16) dX7_set_70 (by decide) fl_X7_42 rfl rfl rfl ?_
        refine z_ist3 dX7_set_73 (Nat.le_of_ble_eq_true rfl) rfl ?_
        refine z_iload_n dX7_set_74 rfl rfl ?_
        refine z_if_ne (tgt := 86) dX7_set_75 (by decide) rfl (fun h3 => ?_) (fun h3 => ?_)
        · refine z_aload_n dX7_set_86 rfl rfl ?_
          refine z_iload_n dX7_set_87 rfl rfl ?_
          refine z_pi7 (j := 16) dX7_set_88 (by decide) fl_X7_42 rfl rfl rfl rfl rfl ?_
          refine z_iload_n dX7_set_91 rfl rfl ?_
          exact z_ireturn dX7_set_92 rfl ⟨by simp [setM, hb, h2]; rfl, by simp [setM, hb, h2]⟩ (Nat.le_of_ble_eq_true rfl) (Nat.le_of_ble_eq_true rfl)
        · exact absurd h3 h2
      · refine z_aload_n dX7_set_62 rfl rfl ?_
        refine z_gi7 (j := 15) dX7_set_63 (by decide) fl_X7_39 rfl rfl rfl ?_
        refine z_goto (tgt := 73) dX7_set_66 (by decide) ?_
        refine z_ist3 dX7_set_73 (Nat.le_of_ble_eq_true rfl) rfl ?_
        refine z_iload_n dX7_set_74 rfl rfl ?_
        refine z_if_ne (tgt := 86) dX7_set_75 (by decide) rfl (fun h3 => ?_) (fun h3 => ?_)
        · exact absurd h2 h3
        · refine z_aload_n dX7_set_78 rfl rfl ?_
          refine z_iload_n dX7_set_79 rfl rfl ?_
          refine z_pi7 (j := 15) dX7_set_80 (by decide) fl_X7_39 rfl rfl rfl rfl rfl ?_
          refine z_goto (tgt := 91) dX7_set_83 (by decide) ?_
          refine z_iload_n dX7_set_91 rfl rfl ?_
          exact z_ireturn dX7_set_92 rfl ⟨by unfold setM; rw [if_pos hb, if_pos h2]; rfl, by unfold setM; rw [if_pos hb, if_pos h2]⟩ (Nat.le_of_ble_eq_true rfl) (Nat.le_of_ble_eq_true rfl)
    · exact absurd rfl h1
  refine z_aload_n dX7_set_0 rfl rfl ?_
  refine z_iconst (v := 0) dX7_set_1 (by decide) rfl ?_
  refine z_pi7 (j := 0) dX7_set_2 (by decide) fl_X7_79 rfl rfl rfl rfl rfl ?_
  refine z_aload_n dX7_set_5 rfl rfl ?_
  refine z_iload_n dX7_set_6 rfl rfl ?_
  refine z_if_lt (tgt := 44) dX7_set_7 (by decide) rfl (fun h1 => ?_) (fun h1 => ?_)
  · exact bd (by unfold setOk; have a : ¬ k = 0 := fun q => by rw [q] at h1; exact absurd h1 (by decide)
                 have b : ¬ k = 1 := fun q => by rw [q] at h1; exact absurd h1 (by decide)
                 simp [a, b])
  · refine z_iload_n dX7_set_10 rfl rfl ?_
    refine z_iconst (v := 1) dX7_set_11 (by decide) rfl ?_
    refine z_icmp_gt (tgt := 44) dX7_set_12 (by decide) rfl (fun h2 => ?_) (fun h2 => ?_)
    · exact bd (by unfold setOk; have a : ¬ k = 0 := fun q => by rw [q] at h2; exact absurd h2 (by decide)
                   have b : ¬ k = 1 := fun q => by rw [q] at h2; exact absurd h2 (by decide)
                   simp [a, b])
    · have h01 : k = 0 ∨ k = 1 := by
        rw [Int32.lt_iff_toInt_lt] at h1 h2
        have : k.toInt = 0 ∨ k.toInt = 1 := by simp at h1 h2; omega
        rcases this with q | q
        · exact Or.inl (Int32.toInt_inj.mp q)
        · exact Or.inr (Int32.toInt_inj.mp q)
      rcases h01 with rfl | rfl
      · refine z_iload_n dX7_set_15 rfl rfl ?_
        refine z_iload_n dX7_set_16 rfl rfl ?_
        refine z_if_ne (tgt := 24) dX7_set_17 (by decide) rfl (fun h3 => ?_) (fun h3 => ?_)
        · exact absurd rfl h3
        · refine z_iconst (v := 1) dX7_set_20 (by decide) rfl ?_
          refine z_goto (tgt := 25) dX7_set_21 (by decide) ?_
          refine z_icmp_lt (tgt := 44) dX7_set_25 (by decide) rfl (fun h4 => ?_) (fun h4 => ?_)
          · exact bd (by unfold setOk; simp [i32_nle h4])
          · refine z_iload_n dX7_set_28 rfl rfl ?_
            refine z_iload_n dX7_set_29 rfl rfl ?_
            refine z_if_ne (tgt := 38) dX7_set_30 (by decide) rfl (fun h5 => ?_) (fun h5 => ?_)
            · exact absurd rfl h5
            · refine z_bipush (v := 60) dX7_set_33 (by decide) rfl ?_
              refine z_goto (tgt := 41) dX7_set_35 (by decide) ?_
              refine z_icmp_le (tgt := 48) dX7_set_41 (by decide) rfl (fun h6 => ?_) (fun h6 => ?_)
              · exact gd (by unfold setOk; simp [i32_le_of_nlt h4, h6])
              · exact bd (by unfold setOk; simp [h6])
      · refine z_iload_n dX7_set_15 rfl rfl ?_
        refine z_iload_n dX7_set_16 rfl rfl ?_
        refine z_if_ne (tgt := 24) dX7_set_17 (by decide) rfl (fun h3 => ?_) (fun h3 => ?_)
        · refine z_iconst (v := 0) dX7_set_24 (by decide) rfl ?_
          refine z_icmp_lt (tgt := 44) dX7_set_25 (by decide) rfl (fun h4 => ?_) (fun h4 => ?_)
          · exact bd (by unfold setOk; simp [i32_nle h4])
          · refine z_iload_n dX7_set_28 rfl rfl ?_
            refine z_iload_n dX7_set_29 rfl rfl ?_
            refine z_if_ne (tgt := 38) dX7_set_30 (by decide) rfl (fun h5 => ?_) (fun h5 => ?_)
            · refine z_sipush (v := 1000) dX7_set_38 (by decide) rfl ?_
              refine z_icmp_le (tgt := 48) dX7_set_41 (by decide) rfl (fun h6 => ?_) (fun h6 => ?_)
              · exact gd (by unfold setOk; simp [i32_le_of_nlt h4, h6])
              · exact bd (by unfold setOk; simp [h6])
            · exact absurd h5 (by decide)
        · exact absurd h3 (by decide)
