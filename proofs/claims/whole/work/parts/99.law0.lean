/-! the law's turns, operations without numbers -/
abbrev mL_law : MT := (yL_law, cL_law, 7, some .boolean)
abbrev zl (l : Launch) (E : EnT) (F : List Frame → Array Value → State → State → Prop) : CT := (l, E, mL_law, [], 2048, 601024, 7293034, F)
set_option maxHeartbeats 4000000 in
theorem lw_fault {l : Launch} {E : EnT} {F : List Frame → Array Value → State → State → Prop} {M : Mem} {cu su : Nat} {x : Int32} {u5 u6 : Option Value} (hcu : cu ≤ 601024) (hsu : su ≤ 7293034) (op : OpV l E mX6_fault mX7_fault 0 0 [] M) (K : ∀ N, Inv N → Zz (zl l E F) cu su 985 [some (.ref 2000), some (.ref 0), some (.ref 99), some (.ref 119), some (.int x), u5, u6] [] N) : Zz (zl l E F) cu su 273 [some (.ref 2000), some (.ref 0), some (.ref 99), some (.ref 119), some (.int x), u5, u6] [] M := by
  obtain ⟨P1, h1, n1, k1⟩ := op
  refine z_aload_n dL_law_273 rfl rfl ?_
  refine z_cg0 (ci := 6) (nf := 7) (y := mX6_fault) dL_law_274 ml_L_63 iv_X6_fault (Nat.le_of_ble_eq_true rfl) rfl (by decide) rfl (Nat.le_of_ble_eq_true rfl) hcu hsu h1 n1 rfl (fun v N hv => ?_)
  obtain ⟨i, P2, rfl, h2, n2, k2⟩ := k1 v N hv
  refine z_aload_n dL_law_277 rfl rfl ?_
  refine z_cg0 (ci := 7) (nf := 32) (y := mX7_fault) dL_law_278 ml_L_66 iv_X7_fault (Nat.le_of_ble_eq_true rfl) rfl (by decide) rfl (Nat.le_of_ble_eq_true rfl) hcu hsu h2 n2 rfl (fun v2 N2 hv2 => ?_)
  obtain ⟨rfl, hI⟩ := k2 v2 N2 hv2
  exact z_icmp_eq (tgt := 985) dL_law_281 (by decide) rfl (fun g => K N2 hI) (fun g => absurd rfl g)
set_option maxHeartbeats 4000000 in
theorem lw_draw {l : Launch} {E : EnT} {F : List Frame → Array Value → State → State → Prop} {M : Mem} {cu su : Nat} {x : Int32} {u5 u6 : Option Value} (hcu : cu ≤ 601024) (hsu : su ≤ 7293034) (op : OpV l E mX6_draw mX7_draw 2 0 [] M) (K : ∀ N, Inv N → Zz (zl l E F) cu su 985 [some (.ref 2000), some (.ref 0), some (.ref 99), some (.ref 119), some (.int x), u5, u6] [] N) : Zz (zl l E F) cu su 447 [some (.ref 2000), some (.ref 0), some (.ref 99), some (.ref 119), some (.int x), u5, u6] [] M := by
  obtain ⟨P1, h1, n1, k1⟩ := op
  refine z_aload_n dL_law_447 rfl rfl ?_
  refine z_cg0 (ci := 6) (nf := 7) (y := mX6_draw) dL_law_448 ml_L_78 iv_X6_draw (Nat.le_of_ble_eq_true rfl) rfl (by decide) rfl (Nat.le_of_ble_eq_true rfl) hcu hsu h1 n1 rfl (fun v N hv => ?_)
  obtain ⟨i, P2, rfl, h2, n2, k2⟩ := k1 v N hv
  refine z_aload_n dL_law_451 rfl rfl ?_
  refine z_cg0 (ci := 7) (nf := 32) (y := mX7_draw) dL_law_452 ml_L_81 iv_X7_draw (Nat.le_of_ble_eq_true rfl) rfl (by decide) rfl (Nat.le_of_ble_eq_true rfl) hcu hsu h2 n2 rfl (fun v2 N2 hv2 => ?_)
  obtain ⟨rfl, hI⟩ := k2 v2 N2 hv2
  exact z_icmp_eq (tgt := 985) dL_law_455 (by decide) rfl (fun g => K N2 hI) (fun g => absurd rfl g)
set_option maxHeartbeats 4000000 in
theorem lw_best {l : Launch} {E : EnT} {F : List Frame → Array Value → State → State → Prop} {M : Mem} {cu su : Nat} {x : Int32} {u5 u6 : Option Value} (hcu : cu ≤ 601024) (hsu : su ≤ 7293034) (op : OpV l E mX6_best mX7_best 15 2 [] M) (K : ∀ N, Inv N → Zz (zl l E F) cu su 985 [some (.ref 2000), some (.ref 0), some (.ref 99), some (.ref 119), some (.int x), u5, u6] [] N) : Zz (zl l E F) cu su 652 [some (.ref 2000), some (.ref 0), some (.ref 99), some (.ref 119), some (.int x), u5, u6] [] M := by
  obtain ⟨P1, h1, n1, k1⟩ := op
  refine z_aload_n dL_law_652 rfl rfl ?_
  refine z_cg0 (ci := 6) (nf := 7) (y := mX6_best) dL_law_653 ml_L_91 iv_X6_best (Nat.le_of_ble_eq_true rfl) rfl (by decide) rfl (Nat.le_of_ble_eq_true rfl) hcu hsu h1 n1 rfl (fun v N hv => ?_)
  obtain ⟨i, P2, rfl, h2, n2, k2⟩ := k1 v N hv
  refine z_aload_n dL_law_656 rfl rfl ?_
  refine z_cg0 (ci := 7) (nf := 32) (y := mX7_best) dL_law_657 ml_L_94 iv_X7_best (Nat.le_of_ble_eq_true rfl) rfl (by decide) rfl (Nat.le_of_ble_eq_true rfl) hcu hsu h2 n2 rfl (fun v2 N2 hv2 => ?_)
  obtain ⟨rfl, hI⟩ := k2 v2 N2 hv2
  exact z_icmp_eq (tgt := 985) dL_law_660 (by decide) rfl (fun g => K N2 hI) (fun g => absurd rfl g)
set_option maxHeartbeats 4000000 in
theorem lw_part {l : Launch} {E : EnT} {F : List Frame → Array Value → State → State → Prop} {M : Mem} {cu su : Nat} {x : Int32} {u5 u6 : Option Value} (hcu : cu ≤ 601024) (hsu : su ≤ 7293034) (op : OpV l E mX6_part mX7_part 4 2 [] M) (K : ∀ N, Inv N → Zz (zl l E F) cu su 985 [some (.ref 2000), some (.ref 0), some (.ref 99), some (.ref 119), some (.int x), u5, u6] [] N) : Zz (zl l E F) cu su 758 [some (.ref 2000), some (.ref 0), some (.ref 99), some (.ref 119), some (.int x), u5, u6] [] M := by
  obtain ⟨P1, h1, n1, k1⟩ := op
  refine z_aload_n dL_law_758 rfl rfl ?_
  refine z_cg0 (ci := 6) (nf := 7) (y := mX6_part) dL_law_759 ml_L_102 iv_X6_part (Nat.le_of_ble_eq_true rfl) rfl (by decide) rfl (Nat.le_of_ble_eq_true rfl) hcu hsu h1 n1 rfl (fun v N hv => ?_)
  obtain ⟨i, P2, rfl, h2, n2, k2⟩ := k1 v N hv
  refine z_aload_n dL_law_762 rfl rfl ?_
  refine z_cg0 (ci := 7) (nf := 32) (y := mX7_part) dL_law_763 ml_L_105 iv_X7_part (Nat.le_of_ble_eq_true rfl) rfl (by decide) rfl (Nat.le_of_ble_eq_true rfl) hcu hsu h2 n2 rfl (fun v2 N2 hv2 => ?_)
  obtain ⟨rfl, hI⟩ := k2 v2 N2 hv2
  exact z_icmp_eq (tgt := 985) dL_law_766 (by decide) rfl (fun g => K N2 hI) (fun g => absurd rfl g)
set_option maxHeartbeats 4000000 in
theorem lw_on {l : Launch} {E : EnT} {F : List Frame → Array Value → State → State → Prop} {M : Mem} {cu su : Nat} {x : Int32} {u5 u6 : Option Value} (hcu : cu ≤ 601024) (hsu : su ≤ 7293034) (op : OpV l E mX6_on mX7_on 4 3 [] M) (K : ∀ N, Inv N → Zz (zl l E F) cu su 985 [some (.ref 2000), some (.ref 0), some (.ref 99), some (.ref 119), some (.int x), u5, u6] [] N) : Zz (zl l E F) cu su 771 [some (.ref 2000), some (.ref 0), some (.ref 99), some (.ref 119), some (.int x), u5, u6] [] M := by
  obtain ⟨P1, h1, n1, k1⟩ := op
  refine z_aload_n dL_law_771 rfl rfl ?_
  refine z_cg0 (ci := 6) (nf := 7) (y := mX6_on) dL_law_772 ml_L_106 iv_X6_on (Nat.le_of_ble_eq_true rfl) rfl (by decide) rfl (Nat.le_of_ble_eq_true rfl) hcu hsu h1 n1 rfl (fun v N hv => ?_)
  obtain ⟨i, P2, rfl, h2, n2, k2⟩ := k1 v N hv
  refine z_aload_n dL_law_775 rfl rfl ?_
  refine z_cg0 (ci := 7) (nf := 32) (y := mX7_on) dL_law_776 ml_L_109 iv_X7_on (Nat.le_of_ble_eq_true rfl) rfl (by decide) rfl (Nat.le_of_ble_eq_true rfl) hcu hsu h2 n2 rfl (fun v2 N2 hv2 => ?_)
  obtain ⟨rfl, hI⟩ := k2 v2 N2 hv2
  exact z_icmp_eq (tgt := 985) dL_law_779 (by decide) rfl (fun g => K N2 hI) (fun g => absurd rfl g)
set_option maxHeartbeats 4000000 in
theorem lw_last {l : Launch} {E : EnT} {F : List Frame → Array Value → State → State → Prop} {M : Mem} {cu su : Nat} {x : Int32} {u5 u6 : Option Value} (hcu : cu ≤ 601024) (hsu : su ≤ 7293034) (op : OpV l E mX6_last mX7_last 4 3 [] M) (K : ∀ N, Inv N → Zz (zl l E F) cu su 985 [some (.ref 2000), some (.ref 0), some (.ref 99), some (.ref 119), some (.int x), u5, u6] [] N) : Zz (zl l E F) cu su 840 [some (.ref 2000), some (.ref 0), some (.ref 99), some (.ref 119), some (.int x), u5, u6] [] M := by
  obtain ⟨P1, h1, n1, k1⟩ := op
  refine z_aload_n dL_law_840 rfl rfl ?_
  refine z_cg0 (ci := 6) (nf := 7) (y := mX6_last) dL_law_841 ml_L_113 iv_X6_last (Nat.le_of_ble_eq_true rfl) rfl (by decide) rfl (Nat.le_of_ble_eq_true rfl) hcu hsu h1 n1 rfl (fun v N hv => ?_)
  obtain ⟨i, P2, rfl, h2, n2, k2⟩ := k1 v N hv
  refine z_aload_n dL_law_844 rfl rfl ?_
  refine z_cg0 (ci := 7) (nf := 32) (y := mX7_last) dL_law_845 ml_L_116 iv_X7_last (Nat.le_of_ble_eq_true rfl) rfl (by decide) rfl (Nat.le_of_ble_eq_true rfl) hcu hsu h2 n2 rfl (fun v2 N2 hv2 => ?_)
  obtain ⟨rfl, hI⟩ := k2 v2 N2 hv2
  exact z_icmp_eq (tgt := 985) dL_law_848 (by decide) rfl (fun g => K N2 hI) (fun g => absurd rfl g)
set_option maxHeartbeats 4000000 in
theorem lw_ends {l : Launch} {E : EnT} {F : List Frame → Array Value → State → State → Prop} {M : Mem} {cu su : Nat} {x : Int32} {u5 u6 : Option Value} (hcu : cu ≤ 601024) (hsu : su ≤ 7293034) (op : OpV l E mX6_ends mX7_ends 0 0 [] M) (K : ∀ N, Inv N → Zz (zl l E F) cu su 985 [some (.ref 2000), some (.ref 0), some (.ref 99), some (.ref 119), some (.int x), u5, u6] [] N) : Zz (zl l E F) cu su 909 [some (.ref 2000), some (.ref 0), some (.ref 99), some (.ref 119), some (.int x), u5, u6] [] M := by
  obtain ⟨P1, h1, n1, k1⟩ := op
  refine z_aload_n dL_law_909 rfl rfl ?_
  refine z_cg0 (ci := 6) (nf := 7) (y := mX6_ends) dL_law_910 ml_L_120 iv_X6_ends (Nat.le_of_ble_eq_true rfl) rfl (by decide) rfl (Nat.le_of_ble_eq_true rfl) hcu hsu h1 n1 rfl (fun v N hv => ?_)
  obtain ⟨i, P2, rfl, h2, n2, k2⟩ := k1 v N hv
  refine z_aload_n dL_law_913 rfl rfl ?_
  refine z_cg0 (ci := 7) (nf := 32) (y := mX7_ends) dL_law_914 ml_L_123 iv_X7_ends (Nat.le_of_ble_eq_true rfl) rfl (by decide) rfl (Nat.le_of_ble_eq_true rfl) hcu hsu h2 n2 rfl (fun v2 N2 hv2 => ?_)
  obtain ⟨rfl, hI⟩ := k2 v2 N2 hv2
  exact z_icmp_eq (tgt := 985) dL_law_917 (by decide) rfl (fun g => K N2 hI) (fun g => absurd rfl g)
set_option maxHeartbeats 4000000 in
theorem lw_leave {l : Launch} {E : EnT} {F : List Frame → Array Value → State → State → Prop} {M : Mem} {cu su : Nat} {x : Int32} {u5 u6 : Option Value} (hcu : cu ≤ 601024) (hsu : su ≤ 7293034) (op : OpV l E mX6_leave mX7_leave 1 0 [] M) (K : ∀ N, Inv N → Zz (zl l E F) cu su 985 [some (.ref 2000), some (.ref 0), some (.ref 99), some (.ref 119), some (.int x), u5, u6] [] N) : Zz (zl l E F) cu su 922 [some (.ref 2000), some (.ref 0), some (.ref 99), some (.ref 119), some (.int x), u5, u6] [] M := by
  obtain ⟨P1, h1, n1, k1⟩ := op
  refine z_aload_n dL_law_922 rfl rfl ?_
  refine z_cg0 (ci := 6) (nf := 7) (y := mX6_leave) dL_law_923 ml_L_124 iv_X6_leave (Nat.le_of_ble_eq_true rfl) rfl (by decide) rfl (Nat.le_of_ble_eq_true rfl) hcu hsu h1 n1 rfl (fun v N hv => ?_)
  obtain ⟨i, P2, rfl, h2, n2, k2⟩ := k1 v N hv
  refine z_aload_n dL_law_926 rfl rfl ?_
  refine z_cg0 (ci := 7) (nf := 32) (y := mX7_leave) dL_law_927 ml_L_127 iv_X7_leave (Nat.le_of_ble_eq_true rfl) rfl (by decide) rfl (Nat.le_of_ble_eq_true rfl) hcu hsu h2 n2 rfl (fun v2 N2 hv2 => ?_)
  obtain ⟨rfl, hI⟩ := k2 v2 N2 hv2
  exact z_icmp_eq (tgt := 985) dL_law_930 (by decide) rfl (fun g => K N2 hI) (fun g => absurd rfl g)
