/-! the law's turns, operations with numbers -/
set_option maxHeartbeats 4000000 in
theorem lw_noise {l : Launch} {E : EnT} {F : List Frame → Array Value → State → State → Prop} {M : Mem} {cu su i : Nat} {u5 u6 : Option Value} (hcu : cu ≤ 601024) (hsu : su ≤ 7293034) (hi : i + 6 ≤ eL E) (hL : eL E ≤ 3072) (op : OpV l E mX6_noise mX7_noise 0 0 [.int (eX E (i + 1))] M) (K : ∀ N, Inv N → Zz (zl l E F) cu su 985 [some (.ref 2000), some (.ref 0), some (.ref 99), some (.ref 119), some (.int (nI i)), u5, u6] [] N) : Zz (zl l E F) cu su 422 [some (.ref 2000), some (.ref 0), some (.ref 99), some (.ref 119), some (.int (nI i)), u5, u6] [] M := by
  obtain ⟨P1, h1, n1, k1⟩ := op
  refine z_aload_n dL_law_422 rfl rfl ?_
  refine z_aload_n dL_law_423 rfl rfl ?_
  refine z_iload dL_law_424 rfl rfl ?_
  refine z_iconst (v := 1) dL_law_426 (by decide) rfl ?_
  refine z_iadd dL_law_427 rfl ?_
  refine z_tp (b := (nI (i + 1))) (by rw [show (1 : Int32) = nI 1 from rfl, nI_add]) ?_
  refine z_sld (X := zl l E F) (vp_in_nI (show i + 1 < eL E by omega) (show eL E < 2 ^ 31 by omega)) dL_law_428 rfl ?_
  refine z_tp (b := (eX E (i + 1))) (by rw [nI_clamp (by omega)]) ?_
  refine z_cg1 (ci := 6) (nf := 7) (y := mX6_noise) dL_law_429 ml_L_74 iv_X6_noise (Nat.le_of_ble_eq_true rfl) rfl (by decide) rfl (Nat.le_of_ble_eq_true rfl) hcu hsu h1 n1 rfl (fun v N hv => ?_)
  obtain ⟨j, P2, rfl, h2, n2, k2⟩ := k1 v N hv
  refine z_aload_n dL_law_432 rfl rfl ?_
  refine z_aload_n dL_law_433 rfl rfl ?_
  refine z_iload dL_law_434 rfl rfl ?_
  refine z_iconst (v := 1) dL_law_436 (by decide) rfl ?_
  refine z_iadd dL_law_437 rfl ?_
  refine z_tp (b := (nI (i + 1))) (by rw [show (1 : Int32) = nI 1 from rfl, nI_add]) ?_
  refine z_sld (X := zl l E F) (vp_in_nI (show i + 1 < eL E by omega) (show eL E < 2 ^ 31 by omega)) dL_law_438 rfl ?_
  refine z_tp (b := (eX E (i + 1))) (by rw [nI_clamp (by omega)]) ?_
  refine z_cg1 (ci := 7) (nf := 32) (y := mX7_noise) dL_law_439 ml_L_77 iv_X7_noise (Nat.le_of_ble_eq_true rfl) rfl (by decide) rfl (Nat.le_of_ble_eq_true rfl) hcu hsu h2 n2 rfl (fun v2 N2 hv2 => ?_)
  obtain ⟨rfl, hI⟩ := k2 v2 N2 hv2
  exact z_icmp_eq (tgt := 985) dL_law_442 (by decide) rfl (fun g => K N2 hI) (fun g => absurd rfl g)
set_option maxHeartbeats 4000000 in
theorem lw_order {l : Launch} {E : EnT} {F : List Frame → Array Value → State → State → Prop} {M : Mem} {cu su i : Nat} {u5 u6 : Option Value} (hcu : cu ≤ 601024) (hsu : su ≤ 7293034) (hi : i + 6 ≤ eL E) (hL : eL E ≤ 3072) (op : OpV l E mX6_order mX7_order 0 0 [.int (eX E (i + 1))] M) (K : ∀ N, Inv N → Zz (zl l E F) cu su 985 [some (.ref 2000), some (.ref 0), some (.ref 99), some (.ref 119), some (.int (nI i)), u5, u6] [] N) : Zz (zl l E F) cu su 665 [some (.ref 2000), some (.ref 0), some (.ref 99), some (.ref 119), some (.int (nI i)), u5, u6] [] M := by
  obtain ⟨P1, h1, n1, k1⟩ := op
  refine z_aload_n dL_law_665 rfl rfl ?_
  refine z_aload_n dL_law_666 rfl rfl ?_
  refine z_iload dL_law_667 rfl rfl ?_
  refine z_iconst (v := 1) dL_law_669 (by decide) rfl ?_
  refine z_iadd dL_law_670 rfl ?_
  refine z_tp (b := (nI (i + 1))) (by rw [show (1 : Int32) = nI 1 from rfl, nI_add]) ?_
  refine z_sld (X := zl l E F) (vp_in_nI (show i + 1 < eL E by omega) (show eL E < 2 ^ 31 by omega)) dL_law_671 rfl ?_
  refine z_tp (b := (eX E (i + 1))) (by rw [nI_clamp (by omega)]) ?_
  refine z_cg1 (ci := 6) (nf := 7) (y := mX6_order) dL_law_672 ml_L_95 iv_X6_order (Nat.le_of_ble_eq_true rfl) rfl (by decide) rfl (Nat.le_of_ble_eq_true rfl) hcu hsu h1 n1 rfl (fun v N hv => ?_)
  obtain ⟨j, P2, rfl, h2, n2, k2⟩ := k1 v N hv
  refine z_aload_n dL_law_675 rfl rfl ?_
  refine z_aload_n dL_law_676 rfl rfl ?_
  refine z_iload dL_law_677 rfl rfl ?_
  refine z_iconst (v := 1) dL_law_679 (by decide) rfl ?_
  refine z_iadd dL_law_680 rfl ?_
  refine z_tp (b := (nI (i + 1))) (by rw [show (1 : Int32) = nI 1 from rfl, nI_add]) ?_
  refine z_sld (X := zl l E F) (vp_in_nI (show i + 1 < eL E by omega) (show eL E < 2 ^ 31 by omega)) dL_law_681 rfl ?_
  refine z_tp (b := (eX E (i + 1))) (by rw [nI_clamp (by omega)]) ?_
  refine z_cg1 (ci := 7) (nf := 32) (y := mX7_order) dL_law_682 ml_L_98 iv_X7_order (Nat.le_of_ble_eq_true rfl) rfl (by decide) rfl (Nat.le_of_ble_eq_true rfl) hcu hsu h2 n2 rfl (fun v2 N2 hv2 => ?_)
  obtain ⟨rfl, hI⟩ := k2 v2 N2 hv2
  exact z_icmp_eq (tgt := 985) dL_law_685 (by decide) rfl (fun g => K N2 hI) (fun g => absurd rfl g)
set_option maxHeartbeats 4000000 in
theorem lw_out {l : Launch} {E : EnT} {F : List Frame → Array Value → State → State → Prop} {M : Mem} {cu su i : Nat} {u5 u6 : Option Value} (hcu : cu ≤ 601024) (hsu : su ≤ 7293034) (hi : i + 6 ≤ eL E) (hL : eL E ≤ 3072) (op : OpV l E mX6_out mX7_out 2 0 [.int (eX E (i + 1))] M) (K : ∀ N, Inv N → Zz (zl l E F) cu su 985 [some (.ref 2000), some (.ref 0), some (.ref 99), some (.ref 119), some (.int (nI i)), u5, u6] [] N) : Zz (zl l E F) cu su 935 [some (.ref 2000), some (.ref 0), some (.ref 99), some (.ref 119), some (.int (nI i)), u5, u6] [] M := by
  obtain ⟨P1, h1, n1, k1⟩ := op
  refine z_aload_n dL_law_935 rfl rfl ?_
  refine z_aload_n dL_law_936 rfl rfl ?_
  refine z_iload dL_law_937 rfl rfl ?_
  refine z_iconst (v := 1) dL_law_939 (by decide) rfl ?_
  refine z_iadd dL_law_940 rfl ?_
  refine z_tp (b := (nI (i + 1))) (by rw [show (1 : Int32) = nI 1 from rfl, nI_add]) ?_
  refine z_sld (X := zl l E F) (vp_in_nI (show i + 1 < eL E by omega) (show eL E < 2 ^ 31 by omega)) dL_law_941 rfl ?_
  refine z_tp (b := (eX E (i + 1))) (by rw [nI_clamp (by omega)]) ?_
  refine z_cg1 (ci := 6) (nf := 7) (y := mX6_out) dL_law_942 ml_L_128 iv_X6_out (Nat.le_of_ble_eq_true rfl) rfl (by decide) rfl (Nat.le_of_ble_eq_true rfl) hcu hsu h1 n1 rfl (fun v N hv => ?_)
  obtain ⟨j, P2, rfl, h2, n2, k2⟩ := k1 v N hv
  refine z_aload_n dL_law_945 rfl rfl ?_
  refine z_aload_n dL_law_946 rfl rfl ?_
  refine z_iload dL_law_947 rfl rfl ?_
  refine z_iconst (v := 1) dL_law_949 (by decide) rfl ?_
  refine z_iadd dL_law_950 rfl ?_
  refine z_tp (b := (nI (i + 1))) (by rw [show (1 : Int32) = nI 1 from rfl, nI_add]) ?_
  refine z_sld (X := zl l E F) (vp_in_nI (show i + 1 < eL E by omega) (show eL E < 2 ^ 31 by omega)) dL_law_951 rfl ?_
  refine z_tp (b := (eX E (i + 1))) (by rw [nI_clamp (by omega)]) ?_
  refine z_cg1 (ci := 7) (nf := 32) (y := mX7_out) dL_law_952 ml_L_131 iv_X7_out (Nat.le_of_ble_eq_true rfl) rfl (by decide) rfl (Nat.le_of_ble_eq_true rfl) hcu hsu h2 n2 rfl (fun v2 N2 hv2 => ?_)
  obtain ⟨rfl, hI⟩ := k2 v2 N2 hv2
  exact z_icmp_eq (tgt := 985) dL_law_955 (by decide) rfl (fun g => K N2 hI) (fun g => absurd rfl g)
set_option maxHeartbeats 4000000 in
theorem lw_count {l : Launch} {E : EnT} {F : List Frame → Array Value → State → State → Prop} {M : Mem} {cu su i : Nat} {u5 u6 : Option Value} (hcu : cu ≤ 601024) (hsu : su ≤ 7293034) (hi : i + 6 ≤ eL E) (hL : eL E ≤ 3072) (op : OpV l E mX6_count mX7_count 0 0 [.int (eX E (i + 1))] M) (K : ∀ N, Inv N → Zz (zl l E F) cu su 985 [some (.ref 2000), some (.ref 0), some (.ref 99), some (.ref 119), some (.int (nI i)), u5, u6] [] N) : Zz (zl l E F) cu su 960 [some (.ref 2000), some (.ref 0), some (.ref 99), some (.ref 119), some (.int (nI i)), u5, u6] [] M := by
  obtain ⟨P1, h1, n1, k1⟩ := op
  refine z_aload_n dL_law_960 rfl rfl ?_
  refine z_aload_n dL_law_961 rfl rfl ?_
  refine z_iload dL_law_962 rfl rfl ?_
  refine z_iconst (v := 1) dL_law_964 (by decide) rfl ?_
  refine z_iadd dL_law_965 rfl ?_
  refine z_tp (b := (nI (i + 1))) (by rw [show (1 : Int32) = nI 1 from rfl, nI_add]) ?_
  refine z_sld (X := zl l E F) (vp_in_nI (show i + 1 < eL E by omega) (show eL E < 2 ^ 31 by omega)) dL_law_966 rfl ?_
  refine z_tp (b := (eX E (i + 1))) (by rw [nI_clamp (by omega)]) ?_
  refine z_cg1 (ci := 6) (nf := 7) (y := mX6_count) dL_law_967 ml_L_132 iv_X6_count (Nat.le_of_ble_eq_true rfl) rfl (by decide) rfl (Nat.le_of_ble_eq_true rfl) hcu hsu h1 n1 rfl (fun v N hv => ?_)
  obtain ⟨j, P2, rfl, h2, n2, k2⟩ := k1 v N hv
  refine z_aload_n dL_law_970 rfl rfl ?_
  refine z_aload_n dL_law_971 rfl rfl ?_
  refine z_iload dL_law_972 rfl rfl ?_
  refine z_iconst (v := 1) dL_law_974 (by decide) rfl ?_
  refine z_iadd dL_law_975 rfl ?_
  refine z_tp (b := (nI (i + 1))) (by rw [show (1 : Int32) = nI 1 from rfl, nI_add]) ?_
  refine z_sld (X := zl l E F) (vp_in_nI (show i + 1 < eL E by omega) (show eL E < 2 ^ 31 by omega)) dL_law_976 rfl ?_
  refine z_tp (b := (eX E (i + 1))) (by rw [nI_clamp (by omega)]) ?_
  refine z_cg1 (ci := 7) (nf := 32) (y := mX7_count) dL_law_977 ml_L_135 iv_X7_count (Nat.le_of_ble_eq_true rfl) rfl (by decide) rfl (Nat.le_of_ble_eq_true rfl) hcu hsu h2 n2 rfl (fun v2 N2 hv2 => ?_)
  obtain ⟨rfl, hI⟩ := k2 v2 N2 hv2
  exact z_icmp_eq (tgt := 985) dL_law_980 (by decide) rfl (fun g => K N2 hI) (fun g => absurd rfl g)
set_option maxHeartbeats 4000000 in
theorem lw_feed {l : Launch} {E : EnT} {F : List Frame → Array Value → State → State → Prop} {M : Mem} {cu su i : Nat} {u5 u6 : Option Value} (hcu : cu ≤ 601024) (hsu : su ≤ 7293034) (hi : i + 6 ≤ eL E) (hL : eL E ≤ 3072) (op : OpV l E mX6_feed mX7_feed 1 0 [.int (eX E (i + 1)), .int (eX E (i + 2)), .int (eX E (i + 3)), .int (eX E (i + 4)), .int (eX E (i + 5))] M) (K : ∀ N, Inv N → Zz (zl l E F) cu su 985 [some (.ref 2000), some (.ref 0), some (.ref 99), some (.ref 119), some (.int (nI i)), u5, u6] [] N) : Zz (zl l E F) cu su 144 [some (.ref 2000), some (.ref 0), some (.ref 99), some (.ref 119), some (.int (nI i)), u5, u6] [] M := by
  obtain ⟨P1, h1, n1, k1⟩ := op
  refine z_aload_n dL_law_144 rfl rfl ?_
  refine z_aload_n dL_law_145 rfl rfl ?_
  refine z_iload dL_law_146 rfl rfl ?_
  refine z_iconst (v := 1) dL_law_148 (by decide) rfl ?_
  refine z_iadd dL_law_149 rfl ?_
  refine z_tp (b := (nI (i + 1))) (by rw [show (1 : Int32) = nI 1 from rfl, nI_add]) ?_
  refine z_sld (X := zl l E F) (vp_in_nI (show i + 1 < eL E by omega) (show eL E < 2 ^ 31 by omega)) dL_law_150 rfl ?_
  refine z_tp (b := (eX E (i + 1))) (by rw [nI_clamp (by omega)]) ?_
  refine z_aload_n dL_law_151 rfl rfl ?_
  refine z_iload dL_law_152 rfl rfl ?_
  refine z_iconst (v := 2) dL_law_154 (by decide) rfl ?_
  refine z_iadd dL_law_155 rfl ?_
  refine z_tp (b := (nI (i + 2))) (by rw [show (2 : Int32) = nI 2 from rfl, nI_add]) ?_
  refine z_sld (X := zl l E F) (vp_in_nI (show i + 2 < eL E by omega) (show eL E < 2 ^ 31 by omega)) dL_law_156 rfl ?_
  refine z_tp (b := (eX E (i + 2))) (by rw [nI_clamp (by omega)]) ?_
  refine z_aload_n dL_law_157 rfl rfl ?_
  refine z_iload dL_law_158 rfl rfl ?_
  refine z_iconst (v := 3) dL_law_160 (by decide) rfl ?_
  refine z_iadd dL_law_161 rfl ?_
  refine z_tp (b := (nI (i + 3))) (by rw [show (3 : Int32) = nI 3 from rfl, nI_add]) ?_
  refine z_sld (X := zl l E F) (vp_in_nI (show i + 3 < eL E by omega) (show eL E < 2 ^ 31 by omega)) dL_law_162 rfl ?_
  refine z_tp (b := (eX E (i + 3))) (by rw [nI_clamp (by omega)]) ?_
  refine z_aload_n dL_law_163 rfl rfl ?_
  refine z_iload dL_law_164 rfl rfl ?_
  refine z_iconst (v := 4) dL_law_166 (by decide) rfl ?_
  refine z_iadd dL_law_167 rfl ?_
  refine z_tp (b := (nI (i + 4))) (by rw [show (4 : Int32) = nI 4 from rfl, nI_add]) ?_
  refine z_sld (X := zl l E F) (vp_in_nI (show i + 4 < eL E by omega) (show eL E < 2 ^ 31 by omega)) dL_law_168 rfl ?_
  refine z_tp (b := (eX E (i + 4))) (by rw [nI_clamp (by omega)]) ?_
  refine z_aload_n dL_law_169 rfl rfl ?_
  refine z_iload dL_law_170 rfl rfl ?_
  refine z_iconst (v := 5) dL_law_172 (by decide) rfl ?_
  refine z_iadd dL_law_173 rfl ?_
  refine z_tp (b := (nI (i + 5))) (by rw [show (5 : Int32) = nI 5 from rfl, nI_add]) ?_
  refine z_sld (X := zl l E F) (vp_in_nI (show i + 5 < eL E by omega) (show eL E < 2 ^ 31 by omega)) dL_law_174 rfl ?_
  refine z_tp (b := (eX E (i + 5))) (by rw [nI_clamp (by omega)]) ?_
  refine z_cg5 (ci := 6) (nf := 7) (y := mX6_feed) dL_law_175 ml_L_48 iv_X6_feed (Nat.le_of_ble_eq_true rfl) rfl (by decide) rfl (Nat.le_of_ble_eq_true rfl) hcu hsu h1 n1 rfl (fun v N hv => ?_)
  obtain ⟨j, P2, rfl, h2, n2, k2⟩ := k1 v N hv
  refine z_aload_n dL_law_178 rfl rfl ?_
  refine z_aload_n dL_law_179 rfl rfl ?_
  refine z_iload dL_law_180 rfl rfl ?_
  refine z_iconst (v := 1) dL_law_182 (by decide) rfl ?_
  refine z_iadd dL_law_183 rfl ?_
  refine z_tp (b := (nI (i + 1))) (by rw [show (1 : Int32) = nI 1 from rfl, nI_add]) ?_
  refine z_sld (X := zl l E F) (vp_in_nI (show i + 1 < eL E by omega) (show eL E < 2 ^ 31 by omega)) dL_law_184 rfl ?_
  refine z_tp (b := (eX E (i + 1))) (by rw [nI_clamp (by omega)]) ?_
  refine z_aload_n dL_law_185 rfl rfl ?_
  refine z_iload dL_law_186 rfl rfl ?_
  refine z_iconst (v := 2) dL_law_188 (by decide) rfl ?_
  refine z_iadd dL_law_189 rfl ?_
  refine z_tp (b := (nI (i + 2))) (by rw [show (2 : Int32) = nI 2 from rfl, nI_add]) ?_
  refine z_sld (X := zl l E F) (vp_in_nI (show i + 2 < eL E by omega) (show eL E < 2 ^ 31 by omega)) dL_law_190 rfl ?_
  refine z_tp (b := (eX E (i + 2))) (by rw [nI_clamp (by omega)]) ?_
  refine z_aload_n dL_law_191 rfl rfl ?_
  refine z_iload dL_law_192 rfl rfl ?_
  refine z_iconst (v := 3) dL_law_194 (by decide) rfl ?_
  refine z_iadd dL_law_195 rfl ?_
  refine z_tp (b := (nI (i + 3))) (by rw [show (3 : Int32) = nI 3 from rfl, nI_add]) ?_
  refine z_sld (X := zl l E F) (vp_in_nI (show i + 3 < eL E by omega) (show eL E < 2 ^ 31 by omega)) dL_law_196 rfl ?_
  refine z_tp (b := (eX E (i + 3))) (by rw [nI_clamp (by omega)]) ?_
  refine z_aload_n dL_law_197 rfl rfl ?_
  refine z_iload dL_law_198 rfl rfl ?_
  refine z_iconst (v := 4) dL_law_200 (by decide) rfl ?_
  refine z_iadd dL_law_201 rfl ?_
  refine z_tp (b := (nI (i + 4))) (by rw [show (4 : Int32) = nI 4 from rfl, nI_add]) ?_
  refine z_sld (X := zl l E F) (vp_in_nI (show i + 4 < eL E by omega) (show eL E < 2 ^ 31 by omega)) dL_law_202 rfl ?_
  refine z_tp (b := (eX E (i + 4))) (by rw [nI_clamp (by omega)]) ?_
  refine z_aload_n dL_law_203 rfl rfl ?_
  refine z_iload dL_law_204 rfl rfl ?_
  refine z_iconst (v := 5) dL_law_206 (by decide) rfl ?_
  refine z_iadd dL_law_207 rfl ?_
  refine z_tp (b := (nI (i + 5))) (by rw [show (5 : Int32) = nI 5 from rfl, nI_add]) ?_
  refine z_sld (X := zl l E F) (vp_in_nI (show i + 5 < eL E by omega) (show eL E < 2 ^ 31 by omega)) dL_law_208 rfl ?_
  refine z_tp (b := (eX E (i + 5))) (by rw [nI_clamp (by omega)]) ?_
  refine z_cg5 (ci := 7) (nf := 32) (y := mX7_feed) dL_law_209 ml_L_52 iv_X7_feed (Nat.le_of_ble_eq_true rfl) rfl (by decide) rfl (Nat.le_of_ble_eq_true rfl) hcu hsu h2 n2 rfl (fun v2 N2 hv2 => ?_)
  obtain ⟨rfl, hI⟩ := k2 v2 N2 hv2
  exact z_icmp_eq (tgt := 985) dL_law_212 (by decide) rfl (fun g => K N2 hI) (fun g => absurd rfl g)
