theorem iw_X0 : Cond.instantiable RX0 3 ∈ W0 := w0_1 129 rfl rfl
theorem dvX0 : ∀ j, j < 3 → defaultValue (tyX0 j) = match rfd 0 j with | some _ => Value.null | none => .int 0
  | 0, _ => rfl
  | 1, _ => rfl
  | 2, _ => rfl
  | n + 3, h => by omega
theorem ins_X0 : InsI mX0_init := ⟨cd_X0_init, im_X0_init, rfl, rfl, in_X0, ⟨by decide, by decide⟩, by decide +kernel, by decide⟩
theorem iw_X1 : Cond.instantiable RX1 6 ∈ W0 := w0_1 193 rfl rfl
theorem dvX1 : ∀ j, j < 6 → defaultValue (tyX1 j) = match rfd 1 j with | some _ => Value.null | none => .int 0
  | 0, _ => rfl
  | 1, _ => rfl
  | 2, _ => rfl
  | 3, _ => rfl
  | 4, _ => rfl
  | 5, _ => rfl
  | n + 6, h => by omega
theorem ins_X1 : InsI mX1_init := ⟨cd_X1_init, im_X1_init, rfl, rfl, in_X1, ⟨by decide, by decide⟩, by decide +kernel, by decide⟩
theorem iw_X2 : Cond.instantiable RX2 11 ∈ W0 := w0_1 119 rfl rfl
theorem dvX2 : ∀ j, j < 11 → defaultValue (tyX2 j) = match rfd 2 j with | some _ => Value.null | none => .int 0
  | 0, _ => rfl
  | 1, _ => rfl
  | 2, _ => rfl
  | 3, _ => rfl
  | 4, _ => rfl
  | 5, _ => rfl
  | 6, _ => rfl
  | 7, _ => rfl
  | 8, _ => rfl
  | 9, _ => rfl
  | 10, _ => rfl
  | n + 11, h => by omega
theorem ins_X2 : InsI mX2_init := ⟨cd_X2_init, im_X2_init, rfl, rfl, in_X2, ⟨by decide, by decide⟩, by decide +kernel, by decide⟩
theorem iw_X3 : Cond.instantiable RX3 10 ∈ W0 := w0_1 31 rfl rfl
theorem dvX3 : ∀ j, j < 10 → defaultValue (tyX3 j) = match rfd 3 j with | some _ => Value.null | none => .int 0
  | 0, _ => rfl
  | 1, _ => rfl
  | 2, _ => rfl
  | 3, _ => rfl
  | 4, _ => rfl
  | 5, _ => rfl
  | 6, _ => rfl
  | 7, _ => rfl
  | 8, _ => rfl
  | 9, _ => rfl
  | n + 10, h => by omega
theorem ins_X3 : InsI mX3_init := ⟨cd_X3_init, im_X3_init, rfl, rfl, in_X3, ⟨by decide, by decide⟩, by decide +kernel, by decide⟩
theorem iw_X4 : Cond.instantiable RX4 7 ∈ W0 := w0_1 37 rfl rfl
theorem dvX4 : ∀ j, j < 7 → defaultValue (tyX4 j) = match rfd 4 j with | some _ => Value.null | none => .int 0
  | 0, _ => rfl
  | 1, _ => rfl
  | 2, _ => rfl
  | 3, _ => rfl
  | 4, _ => rfl
  | 5, _ => rfl
  | 6, _ => rfl
  | n + 7, h => by omega
theorem ins_X4 : InsI mX4_init := ⟨cd_X4_init, im_X4_init, rfl, rfl, in_X4, ⟨by decide, by decide⟩, by decide +kernel, by decide⟩
theorem iw_X5 : Cond.instantiable RX5 5 ∈ W0 := w0_1 220 rfl rfl
theorem dvX5 : ∀ j, j < 5 → defaultValue (tyX5 j) = match rfd 5 j with | some _ => Value.null | none => .int 0
  | 0, _ => rfl
  | 1, _ => rfl
  | 2, _ => rfl
  | 3, _ => rfl
  | 4, _ => rfl
  | n + 5, h => by omega
theorem ins_X5 : InsI mX5_init := ⟨cd_X5_init, im_X5_init, rfl, rfl, in_X5, ⟨by decide, by decide⟩, by decide +kernel, by decide⟩
theorem iw_X6 : Cond.instantiable RX6 7 ∈ W0 := w0_1 23 rfl rfl
theorem dvX6 : ∀ j, j < 7 → defaultValue (tyX6 j) = match rfd 6 j with | some _ => Value.null | none => .int 0
  | 0, _ => rfl
  | 1, _ => rfl
  | 2, _ => rfl
  | 3, _ => rfl
  | 4, _ => rfl
  | 5, _ => rfl
  | 6, _ => rfl
  | n + 7, h => by omega
theorem ins_X6 : InsI mX6_init := ⟨cd_X6_init, im_X6_init, rfl, rfl, in_X6, ⟨by decide, by decide⟩, by decide +kernel, by decide⟩
theorem iw_X7 : Cond.instantiable RX7 32 ∈ W0 := w0_4 53 rfl rfl
theorem dvX7 : ∀ j, j < 32 → defaultValue (tyX7 j) = match rfd 7 j with | some _ => Value.null | none => .int 0
  | 0, _ => rfl
  | 1, _ => rfl
  | 2, _ => rfl
  | 3, _ => rfl
  | 4, _ => rfl
  | 5, _ => rfl
  | 6, _ => rfl
  | 7, _ => rfl
  | 8, _ => rfl
  | 9, _ => rfl
  | 10, _ => rfl
  | 11, _ => rfl
  | 12, _ => rfl
  | 13, _ => rfl
  | 14, _ => rfl
  | 15, _ => rfl
  | 16, _ => rfl
  | 17, _ => rfl
  | 18, _ => rfl
  | 19, _ => rfl
  | 20, _ => rfl
  | 21, _ => rfl
  | 22, _ => rfl
  | 23, _ => rfl
  | 24, _ => rfl
  | 25, _ => rfl
  | 26, _ => rfl
  | 27, _ => rfl
  | 28, _ => rfl
  | 29, _ => rfl
  | 30, _ => rfl
  | 31, _ => rfl
  | n + 32, h => by omega
theorem ins_X7 : InsI mX7_init := ⟨cd_X7_init, im_X7_init, rfl, rfl, in_X7, ⟨by decide, by decide⟩, by decide +kernel, by decide⟩
def fX4 (b : Nat) (V : Nat → Nat → Gv) : Nat → Nat → Gv := vu (V) b 4 (some (.inr (-1)))
set_option maxRecDepth 100000 in
theorem c_iX4 {l : Launch} {E : EnT} {b n : Nat} {V : Nat → Nat → Gv} (hkb : gk b = (4, 7)) (hb : b < n) : Gm l E mX4_init 1 0 0 b (n, V) (n, fX4 b V) := by
  refine Gm_of (by decide) rfl (by decide) ?_
  refine g_aload_n dX4_init_0 rfl rfl ?_
  refine g_obj dX4_init_1 ml_X4_3 (Nat.le_of_ble_eq_true rfl) (Nat.le_of_ble_eq_true rfl) rfl ?_
  refine g_aload_n dX4_init_4 rfl rfl ?_
  refine g_iconst (v := Int32.ofInt (-1)) dX4_init_5 (by decide) rfl ?_
  refine g_put (ci := 4) (j := 4) (ty := .int) (g := some (.inr (-1))) dX4_init_6 hkb (by decide) rfl inwX4 tyX4_ok nmX4 (by decide) fl_X4_9 (Or.inl rfl) rfl (show b < n by omega) rfl rfl rfl rfl ?_
  exact g_return dX4_init_9 rfl (Nat.le_of_ble_eq_true rfl) (Nat.le_of_ble_eq_true rfl)
def fX0 (b n : Nat) (V : Nat → Nat → Gv) : Nat → Nat → Gv := vu (vu (vu (V) b 0 (some (.inl (n)))) b 1 (some (.inl (n + 1)))) b 2 (some (.inr (-1)))
set_option maxRecDepth 100000 in
theorem c_iX0 {l : Launch} {E : EnT} {b n : Nat} {V : Nat → Nat → Gv} (hkb : gk b = (0, 3)) (hb : b < n) (hk0 : gk n = (10, 16)) (hk1 : gk (n + 1) = (10, 16)) (h9 : n + 1 < 120) : Gm l E mX0_init 1 2 32 b (n, V) (n + 1 + 1, fX0 b n V) := by
  refine Gm_of (by decide) rfl (by decide) ?_
  refine g_aload_n dX0_init_0 rfl rfl ?_
  refine g_obj dX0_init_1 ml_X0_3 (Nat.le_of_ble_eq_true rfl) (Nat.le_of_ble_eq_true rfl) rfl ?_
  refine g_aload_n dX0_init_4 rfl rfl ?_
  refine g_bipush (v := Int32.ofInt (16)) dX0_init_5 (by decide) rfl ?_
  refine g_ni (N := 16) dX0_init_7 hk0 (by decide) (by decide) (by decide) (show n < 120 by omega) (Nat.le_of_ble_eq_true rfl) (Nat.le_of_ble_eq_true rfl) rfl ?_
  refine g_put (ci := 0) (j := 0) (ty := .array .int) (g := some (.inl (n))) dX0_init_9 hkb (by decide) rfl inwX0 tyX0_ok nmX0 (by decide) fl_X0_9 (Or.inr ⟨rfl, rfl, rfl⟩) rfl (show b < n + 1 by omega) rfl rfl rfl rfl ?_
  refine g_aload_n dX0_init_12 rfl rfl ?_
  refine g_bipush (v := Int32.ofInt (16)) dX0_init_13 (by decide) rfl ?_
  refine g_ni (N := 16) dX0_init_15 hk1 (by decide) (by decide) (by decide) (show n + 1 < 120 by omega) (Nat.le_of_ble_eq_true rfl) (Nat.le_of_ble_eq_true rfl) rfl ?_
  refine g_put (ci := 0) (j := 1) (ty := .array .int) (g := some (.inl (n + 1))) dX0_init_17 hkb (by decide) rfl inwX0 tyX0_ok nmX0 (by decide) fl_X0_15 (Or.inr ⟨rfl, rfl, rfl⟩) rfl (show b < n + 2 by omega) rfl rfl rfl rfl ?_
  refine g_aload_n dX0_init_20 rfl rfl ?_
  refine g_iconst (v := Int32.ofInt (-1)) dX0_init_21 (by decide) rfl ?_
  refine g_put (ci := 0) (j := 2) (ty := .int) (g := some (.inr (-1))) dX0_init_22 hkb (by decide) rfl inwX0 tyX0_ok nmX0 (by decide) fl_X0_18 (Or.inl rfl) rfl (show b < n + 2 by omega) rfl rfl rfl rfl ?_
  exact g_return dX0_init_25 rfl (Nat.le_of_ble_eq_true rfl) (Nat.le_of_ble_eq_true rfl)
def fX3 (V : Nat → Nat → Gv) : Nat → Nat → Gv := vu (vu (vu (vu (fX4 2 (V)) 1 0 (some (.inl (2)))) 1 1 (some (.inr (0)))) 1 2 (some (.inr (-1)))) 1 3 (some (.inl (3)))
set_option maxRecDepth 100000 in
theorem c_iX3 {l : Launch} {E : EnT} {V : Nat → Nat → Gv} : Gm l E mX3_init 2 2 207 1 (2, V) (4, fX3 V) := by
  refine Gm_of (by decide) rfl (by decide) ?_
  refine g_aload_n dX3_init_0 rfl rfl ?_
  refine g_obj dX3_init_1 ml_X3_3 (Nat.le_of_ble_eq_true rfl) (Nat.le_of_ble_eq_true rfl) rfl ?_
  refine g_aload_n dX3_init_4 rfl rfl ?_
  refine g_new (ci := 4) tyX4 dX3_init_5 rfl (by decide) inwX4 tyX4_ok dvX4 kl_X3_9 iw_X4 in_X4 (show gk 2 = (4, 7) by decide) (show 2 < 120 by decide) (Nat.le_of_ble_eq_true rfl) (Nat.le_of_ble_eq_true rfl) rfl ?_
  refine g_dup dX3_init_8 rfl rfl ?_
  refine g_call (y := mX4_init) (d := 1) (kc := 0) (ks := 0) dX3_init_9 (Or.inr (List.mem_of_getElem? (i := 1) rfl)) ins_X4 (Nat.le_of_ble_eq_true rfl) (Nat.le_of_ble_eq_true rfl) (Nat.le_of_ble_eq_true rfl) (Nat.le_of_ble_eq_true rfl) (c_iX4 (show gk 2 = (4, 7) by decide) (show 2 < 3 by decide)) rfl ?_
  refine g_put (ci := 3) (j := 0) (ty := .object "BridgeNight$Work") (g := some (.inl (2))) dX3_init_12 (show gk 1 = (3, 10) by decide) (by decide) rfl inwX3 tyX3_ok nmX3 (by decide) fl_X3_12 (Or.inr ⟨rfl, rfl, rfl⟩) rfl (show 1 < 3 by decide) rfl rfl rfl rfl ?_
  refine g_aload_n dX3_init_15 rfl rfl ?_
  refine g_iconst (v := Int32.ofInt (0)) dX3_init_16 (by decide) rfl ?_
  refine g_put (ci := 3) (j := 1) (ty := .int) (g := some (.inr (0))) dX3_init_17 (show gk 1 = (3, 10) by decide) (by decide) rfl inwX3 tyX3_ok nmX3 (by decide) fl_X3_18 (Or.inl rfl) rfl (show 1 < 3 by decide) rfl rfl rfl rfl ?_
  refine g_aload_n dX3_init_20 rfl rfl ?_
  refine g_iconst (v := Int32.ofInt (-1)) dX3_init_21 (by decide) rfl ?_
  refine g_put (ci := 3) (j := 2) (ty := .int) (g := some (.inr (-1))) dX3_init_22 (show gk 1 = (3, 10) by decide) (by decide) rfl inwX3 tyX3_ok nmX3 (by decide) fl_X3_22 (Or.inl rfl) rfl (show 1 < 3 by decide) rfl rfl rfl rfl ?_
  refine g_aload_n dX3_init_25 rfl rfl ?_
  refine g_sipush (v := Int32.ofInt (200)) dX3_init_26 (by decide) rfl ?_
  refine g_ni (N := 200) dX3_init_29 (show gk 3 = (10, 200) by decide) (by decide) (by decide) (by decide) (show 3 < 120 by decide) (Nat.le_of_ble_eq_true rfl) (Nat.le_of_ble_eq_true rfl) rfl ?_
  refine g_put (ci := 3) (j := 3) (ty := .array .int) (g := some (.inl (3))) dX3_init_31 (show gk 1 = (3, 10) by decide) (by decide) rfl inwX3 tyX3_ok nmX3 (by decide) fl_X3_25 (Or.inr ⟨rfl, rfl, rfl⟩) rfl (show 1 < 4 by decide) rfl rfl rfl rfl ?_
  exact g_return dX3_init_34 rfl (Nat.le_of_ble_eq_true rfl) (Nat.le_of_ble_eq_true rfl)
def fX1 (V : Nat → Nat → Gv) : Nat → Nat → Gv := vu (vu (vu (vu (V) 91 0 (some (.inl (92)))) 91 2 (some (.inl (93)))) 91 4 (some (.inr (-1)))) 91 5 (some (.inr (-1)))
set_option maxRecDepth 100000 in
theorem c_iX1 {l : Launch} {E : EnT} {V : Nat → Nat → Gv} : Gm l E mX1_init 1 2 14 91 (92, V) (94, fX1 V) := by
  refine Gm_of (by decide) rfl (by decide) ?_
  refine g_aload_n dX1_init_0 rfl rfl ?_
  refine g_obj dX1_init_1 ml_X1_3 (Nat.le_of_ble_eq_true rfl) (Nat.le_of_ble_eq_true rfl) rfl ?_
  refine g_aload_n dX1_init_4 rfl rfl ?_
  refine g_bipush (v := Int32.ofInt (7)) dX1_init_5 (by decide) rfl ?_
  refine g_ni (N := 7) dX1_init_7 (show gk 92 = (10, 7) by decide) (by decide) (by decide) (by decide) (show 92 < 120 by decide) (Nat.le_of_ble_eq_true rfl) (Nat.le_of_ble_eq_true rfl) rfl ?_
  refine g_put (ci := 1) (j := 0) (ty := .array .int) (g := some (.inl (92))) dX1_init_9 (show gk 91 = (1, 6) by decide) (by decide) rfl inwX1 tyX1_ok nmX1 (by decide) fl_X1_9 (Or.inr ⟨rfl, rfl, rfl⟩) rfl (show 91 < 93 by decide) rfl rfl rfl rfl ?_
  refine g_aload_n dX1_init_12 rfl rfl ?_
  refine g_bipush (v := Int32.ofInt (7)) dX1_init_13 (by decide) rfl ?_
  refine g_ni (N := 7) dX1_init_15 (show gk 93 = (10, 7) by decide) (by decide) (by decide) (by decide) (show 93 < 120 by decide) (Nat.le_of_ble_eq_true rfl) (Nat.le_of_ble_eq_true rfl) rfl ?_
  refine g_put (ci := 1) (j := 2) (ty := .array .int) (g := some (.inl (93))) dX1_init_17 (show gk 91 = (1, 6) by decide) (by decide) rfl inwX1 tyX1_ok nmX1 (by decide) fl_X1_15 (Or.inr ⟨rfl, rfl, rfl⟩) rfl (show 91 < 94 by decide) rfl rfl rfl rfl ?_
  refine g_aload_n dX1_init_20 rfl rfl ?_
  refine g_iconst (v := Int32.ofInt (-1)) dX1_init_21 (by decide) rfl ?_
  refine g_put (ci := 1) (j := 4) (ty := .int) (g := some (.inr (-1))) dX1_init_22 (show gk 91 = (1, 6) by decide) (by decide) rfl inwX1 tyX1_ok nmX1 (by decide) fl_X1_18 (Or.inl rfl) rfl (show 91 < 94 by decide) rfl rfl rfl rfl ?_
  refine g_aload_n dX1_init_25 rfl rfl ?_
  refine g_iconst (v := Int32.ofInt (-1)) dX1_init_26 (by decide) rfl ?_
  refine g_put (ci := 1) (j := 5) (ty := .int) (g := some (.inr (-1))) dX1_init_27 (show gk 91 = (1, 6) by decide) (by decide) rfl inwX1 tyX1_ok nmX1 (by decide) fl_X1_22 (Or.inl rfl) rfl (show 91 < 94 by decide) rfl rfl rfl rfl ?_
  exact g_return dX1_init_30 rfl (Nat.le_of_ble_eq_true rfl) (Nat.le_of_ble_eq_true rfl)
def fX5 (V : Nat → Nat → Gv) : Nat → Nat → Gv := vu (vu (vu (vu (vu (V) 94 0 (some (.inr (0)))) 94 1 (some (.inr (0)))) 94 2 (some (.inl (95)))) 94 3 (some (.inl (96)))) 94 4 (some (.inl (97)))
set_option maxRecDepth 100000 in
theorem c_iX5 {l : Launch} {E : EnT} {V : Nat → Nat → Gv} : Gm l E mX5_init 1 3 90 94 (95, V) (98, fX5 V) := by
  refine Gm_of (by decide) rfl (by decide) ?_
  refine g_aload_n dX5_init_0 rfl rfl ?_
  refine g_obj dX5_init_1 ml_X5_3 (Nat.le_of_ble_eq_true rfl) (Nat.le_of_ble_eq_true rfl) rfl ?_
  refine g_aload_n dX5_init_4 rfl rfl ?_
  refine g_iconst (v := Int32.ofInt (0)) dX5_init_5 (by decide) rfl ?_
  refine g_put (ci := 5) (j := 0) (ty := .int) (g := some (.inr (0))) dX5_init_6 (show gk 94 = (5, 5) by decide) (by decide) rfl inwX5 tyX5_ok nmX5 (by decide) fl_X5_9 (Or.inl rfl) rfl (show 94 < 95 by decide) rfl rfl rfl rfl ?_
  refine g_aload_n dX5_init_9 rfl rfl ?_
  refine g_iconst (v := Int32.ofInt (0)) dX5_init_10 (by decide) rfl ?_
  refine g_put (ci := 5) (j := 1) (ty := .int) (g := some (.inr (0))) dX5_init_11 (show gk 94 = (5, 5) by decide) (by decide) rfl inwX5 tyX5_ok nmX5 (by decide) fl_X5_15 (Or.inl rfl) rfl (show 94 < 95 by decide) rfl rfl rfl rfl ?_
  refine g_aload_n dX5_init_14 rfl rfl ?_
  refine g_bipush (v := Int32.ofInt (30)) dX5_init_15 (by decide) rfl ?_
  refine g_ni (N := 30) dX5_init_17 (show gk 95 = (10, 30) by decide) (by decide) (by decide) (by decide) (show 95 < 120 by decide) (Nat.le_of_ble_eq_true rfl) (Nat.le_of_ble_eq_true rfl) rfl ?_
  refine g_put (ci := 5) (j := 2) (ty := .array .int) (g := some (.inl (95))) dX5_init_19 (show gk 94 = (5, 5) by decide) (by decide) rfl inwX5 tyX5_ok nmX5 (by decide) fl_X5_18 (Or.inr ⟨rfl, rfl, rfl⟩) rfl (show 94 < 96 by decide) rfl rfl rfl rfl ?_
  refine g_aload_n dX5_init_22 rfl rfl ?_
  refine g_bipush (v := Int32.ofInt (30)) dX5_init_23 (by decide) rfl ?_
  refine g_ni (N := 30) dX5_init_25 (show gk 96 = (10, 30) by decide) (by decide) (by decide) (by decide) (show 96 < 120 by decide) (Nat.le_of_ble_eq_true rfl) (Nat.le_of_ble_eq_true rfl) rfl ?_
  refine g_put (ci := 5) (j := 3) (ty := .array .int) (g := some (.inl (96))) dX5_init_27 (show gk 94 = (5, 5) by decide) (by decide) rfl inwX5 tyX5_ok nmX5 (by decide) fl_X5_22 (Or.inr ⟨rfl, rfl, rfl⟩) rfl (show 94 < 97 by decide) rfl rfl rfl rfl ?_
  refine g_aload_n dX5_init_30 rfl rfl ?_
  refine g_bipush (v := Int32.ofInt (30)) dX5_init_31 (by decide) rfl ?_
  refine g_ni (N := 30) dX5_init_33 (show gk 97 = (10, 30) by decide) (by decide) (by decide) (by decide) (show 97 < 120 by decide) (Nat.le_of_ble_eq_true rfl) (Nat.le_of_ble_eq_true rfl) rfl ?_
  refine g_put (ci := 5) (j := 4) (ty := .array .int) (g := some (.inl (97))) dX5_init_35 (show gk 94 = (5, 5) by decide) (by decide) rfl inwX5 tyX5_ok nmX5 (by decide) fl_X5_25 (Or.inr ⟨rfl, rfl, rfl⟩) rfl (show 94 < 98 by decide) rfl rfl rfl rfl ?_
  exact g_return dX5_init_38 rfl (Nat.le_of_ble_eq_true rfl) (Nat.le_of_ble_eq_true rfl)
def fX7 (V : Nat → Nat → Gv) : Nat → Nat → Gv := vu (vu (vu (vu (vu (vu (vu (vu (vu (vu (vu (vu (vu (vu (vu (vu (vu (vu (vu (vu (vu (vu (V) 99 1 (some (.inl (100)))) 99 6 (some (.inr (-1)))) 99 7 (some (.inl (101)))) 99 8 (some (.inl (102)))) 99 9 (some (.inl (103)))) 99 10 (some (.inl (104)))) 99 11 (some (.inl (105)))) 99 12 (some (.inl (106)))) 99 13 (some (.inl (107)))) 99 15 (some (.inr (30)))) 99 16 (some (.inr (100)))) 99 17 (some (.inl (108)))) 99 18 (some (.inl (109)))) 99 21 (some (.inl (110)))) 99 22 (some (.inl (111)))) 99 23 (some (.inl (112)))) 99 24 (some (.inl (113)))) 99 25 (some (.inl (114)))) 99 26 (some (.inl (115)))) 99 27 (some (.inl (116)))) 99 28 (some (.inl (117)))) 99 29 (some (.inl (118)))
set_option maxRecDepth 100000 in
theorem c_iX7 {l : Launch} {E : EnT} {V : Nat → Nat → Gv} : Gm l E mX7_init 1 19 1131 99 (100, V) (119, fX7 V) := by
  refine Gm_of (by decide) rfl (by decide) ?_
  refine g_aload_n dX7_init_0 rfl rfl ?_
  refine g_obj dX7_init_1 ml_X7_1 (Nat.le_of_ble_eq_true rfl) (Nat.le_of_ble_eq_true rfl) rfl ?_
  refine g_aload_n dX7_init_4 rfl rfl ?_
  refine g_sipush (v := Int32.ofInt (200)) dX7_init_5 (by decide) rfl ?_
  refine g_nb (N := 200) dX7_init_8 (show gk 100 = (11, 200) by decide) (by decide) (by decide) (by decide) (show 100 < 120 by decide) (Nat.le_of_ble_eq_true rfl) (Nat.le_of_ble_eq_true rfl) rfl ?_
  refine g_put (ci := 7) (j := 1) (ty := .array .byte) (g := some (.inl (100))) dX7_init_10 (show gk 99 = (7, 32) by decide) (by decide) rfl inwX7 tyX7_ok nmX7 (by decide) fl_X7_7 (Or.inr ⟨rfl, rfl, rfl⟩) rfl (show 99 < 101 by decide) rfl rfl rfl rfl ?_
  refine g_aload_n dX7_init_13 rfl rfl ?_
  refine g_iconst (v := Int32.ofInt (-1)) dX7_init_14 (by decide) rfl ?_
  refine g_put (ci := 7) (j := 6) (ty := .int) (g := some (.inr (-1))) dX7_init_15 (show gk 99 = (7, 32) by decide) (by decide) rfl inwX7 tyX7_ok nmX7 (by decide) fl_X7_13 (Or.inl rfl) rfl (show 99 < 101 by decide) rfl rfl rfl rfl ?_
  refine g_aload_n dX7_init_18 rfl rfl ?_
  refine g_bipush (v := Int32.ofInt (16)) dX7_init_19 (by decide) rfl ?_
  refine g_ni (N := 16) dX7_init_21 (show gk 101 = (10, 16) by decide) (by decide) (by decide) (by decide) (show 101 < 120 by decide) (Nat.le_of_ble_eq_true rfl) (Nat.le_of_ble_eq_true rfl) rfl ?_
  refine g_put (ci := 7) (j := 7) (ty := .array .int) (g := some (.inl (101))) dX7_init_23 (show gk 99 = (7, 32) by decide) (by decide) rfl inwX7 tyX7_ok nmX7 (by decide) fl_X7_17 (Or.inr ⟨rfl, rfl, rfl⟩) rfl (show 99 < 102 by decide) rfl rfl rfl rfl ?_
  refine g_aload_n dX7_init_26 rfl rfl ?_
  refine g_bipush (v := Int32.ofInt (16)) dX7_init_27 (by decide) rfl ?_
  refine g_ni (N := 16) dX7_init_29 (show gk 102 = (10, 16) by decide) (by decide) (by decide) (by decide) (show 102 < 120 by decide) (Nat.le_of_ble_eq_true rfl) (Nat.le_of_ble_eq_true rfl) rfl ?_
  refine g_put (ci := 7) (j := 8) (ty := .array .int) (g := some (.inl (102))) dX7_init_31 (show gk 99 = (7, 32) by decide) (by decide) rfl inwX7 tyX7_ok nmX7 (by decide) fl_X7_21 (Or.inr ⟨rfl, rfl, rfl⟩) rfl (show 99 < 103 by decide) rfl rfl rfl rfl ?_
  refine g_aload_n dX7_init_34 rfl rfl ?_
  refine g_bipush (v := Int32.ofInt (16)) dX7_init_35 (by decide) rfl ?_
  refine g_ni (N := 16) dX7_init_37 (show gk 103 = (10, 16) by decide) (by decide) (by decide) (by decide) (show 103 < 120 by decide) (Nat.le_of_ble_eq_true rfl) (Nat.le_of_ble_eq_true rfl) rfl ?_
  refine g_put (ci := 7) (j := 9) (ty := .array .int) (g := some (.inl (103))) dX7_init_39 (show gk 99 = (7, 32) by decide) (by decide) rfl inwX7 tyX7_ok nmX7 (by decide) fl_X7_24 (Or.inr ⟨rfl, rfl, rfl⟩) rfl (show 99 < 104 by decide) rfl rfl rfl rfl ?_
  refine g_aload_n dX7_init_42 rfl rfl ?_
  refine g_bipush (v := Int32.ofInt (16)) dX7_init_43 (by decide) rfl ?_
  refine g_ni (N := 16) dX7_init_45 (show gk 104 = (10, 16) by decide) (by decide) (by decide) (by decide) (show 104 < 120 by decide) (Nat.le_of_ble_eq_true rfl) (Nat.le_of_ble_eq_true rfl) rfl ?_
  refine g_put (ci := 7) (j := 10) (ty := .array .int) (g := some (.inl (104))) dX7_init_47 (show gk 99 = (7, 32) by decide) (by decide) rfl inwX7 tyX7_ok nmX7 (by decide) fl_X7_27 (Or.inr ⟨rfl, rfl, rfl⟩) rfl (show 99 < 105 by decide) rfl rfl rfl rfl ?_
  refine g_aload_n dX7_init_50 rfl rfl ?_
  refine g_bipush (v := Int32.ofInt (16)) dX7_init_51 (by decide) rfl ?_
  refine g_ni (N := 16) dX7_init_53 (show gk 105 = (10, 16) by decide) (by decide) (by decide) (by decide) (show 105 < 120 by decide) (Nat.le_of_ble_eq_true rfl) (Nat.le_of_ble_eq_true rfl) rfl ?_
  refine g_put (ci := 7) (j := 11) (ty := .array .int) (g := some (.inl (105))) dX7_init_55 (show gk 99 = (7, 32) by decide) (by decide) rfl inwX7 tyX7_ok nmX7 (by decide) fl_X7_30 (Or.inr ⟨rfl, rfl, rfl⟩) rfl (show 99 < 106 by decide) rfl rfl rfl rfl ?_
  refine g_aload_n dX7_init_58 rfl rfl ?_
  refine g_bipush (v := Int32.ofInt (16)) dX7_init_59 (by decide) rfl ?_
  refine g_ni (N := 16) dX7_init_61 (show gk 106 = (10, 16) by decide) (by decide) (by decide) (by decide) (show 106 < 120 by decide) (Nat.le_of_ble_eq_true rfl) (Nat.le_of_ble_eq_true rfl) rfl ?_
  refine g_put (ci := 7) (j := 12) (ty := .array .int) (g := some (.inl (106))) dX7_init_63 (show gk 99 = (7, 32) by decide) (by decide) rfl inwX7 tyX7_ok nmX7 (by decide) fl_X7_33 (Or.inr ⟨rfl, rfl, rfl⟩) rfl (show 99 < 107 by decide) rfl rfl rfl rfl ?_
  refine g_aload_n dX7_init_66 rfl rfl ?_
  refine g_bipush (v := Int32.ofInt (16)) dX7_init_67 (by decide) rfl ?_
  refine g_ni (N := 16) dX7_init_69 (show gk 107 = (10, 16) by decide) (by decide) (by decide) (by decide) (show 107 < 120 by decide) (Nat.le_of_ble_eq_true rfl) (Nat.le_of_ble_eq_true rfl) rfl ?_
  refine g_put (ci := 7) (j := 13) (ty := .array .int) (g := some (.inl (107))) dX7_init_71 (show gk 99 = (7, 32) by decide) (by decide) rfl inwX7 tyX7_ok nmX7 (by decide) fl_X7_36 (Or.inr ⟨rfl, rfl, rfl⟩) rfl (show 99 < 108 by decide) rfl rfl rfl rfl ?_
  refine g_aload_n dX7_init_74 rfl rfl ?_
  refine g_bipush (v := Int32.ofInt (30)) dX7_init_75 (by decide) rfl ?_
  refine g_put (ci := 7) (j := 15) (ty := .int) (g := some (.inr (30))) dX7_init_77 (show gk 99 = (7, 32) by decide) (by decide) rfl inwX7 tyX7_ok nmX7 (by decide) fl_X7_39 (Or.inl rfl) rfl (show 99 < 108 by decide) rfl rfl rfl rfl ?_
  refine g_aload_n dX7_init_80 rfl rfl ?_
  refine g_bipush (v := Int32.ofInt (100)) dX7_init_81 (by decide) rfl ?_
  refine g_put (ci := 7) (j := 16) (ty := .int) (g := some (.inr (100))) dX7_init_83 (show gk 99 = (7, 32) by decide) (by decide) rfl inwX7 tyX7_ok nmX7 (by decide) fl_X7_42 (Or.inl rfl) rfl (show 99 < 108 by decide) rfl rfl rfl rfl ?_
  refine g_aload_n dX7_init_86 rfl rfl ?_
  refine g_iconst (v := Int32.ofInt (5)) dX7_init_87 (by decide) rfl ?_
  refine g_nz (N := 5) dX7_init_88 (show gk 108 = (12, 5) by decide) (by decide) (by decide) (by decide) (show 108 < 120 by decide) (Nat.le_of_ble_eq_true rfl) (Nat.le_of_ble_eq_true rfl) rfl ?_
  refine g_put (ci := 7) (j := 17) (ty := .array .boolean) (g := some (.inl (108))) dX7_init_90 (show gk 99 = (7, 32) by decide) (by decide) rfl inwX7 tyX7_ok nmX7 (by decide) fl_X7_45 (Or.inr ⟨rfl, rfl, rfl⟩) rfl (show 99 < 109 by decide) rfl rfl rfl rfl ?_
  refine g_aload_n dX7_init_93 rfl rfl ?_
  refine g_bipush (v := Int32.ofInt (20)) dX7_init_94 (by decide) rfl ?_
  refine g_ni (N := 20) dX7_init_96 (show gk 109 = (10, 20) by decide) (by decide) (by decide) (by decide) (show 109 < 120 by decide) (Nat.le_of_ble_eq_true rfl) (Nat.le_of_ble_eq_true rfl) rfl ?_
  refine g_put (ci := 7) (j := 18) (ty := .array .int) (g := some (.inl (109))) dX7_init_98 (show gk 99 = (7, 32) by decide) (by decide) rfl inwX7 tyX7_ok nmX7 (by decide) fl_X7_49 (Or.inr ⟨rfl, rfl, rfl⟩) rfl (show 99 < 110 by decide) rfl rfl rfl rfl ?_
  refine g_aload_n dX7_init_101 rfl rfl ?_
  refine g_sipush (v := Int32.ofInt (320)) dX7_init_102 (by decide) rfl ?_
  refine g_ni (N := 320) dX7_init_105 (show gk 110 = (10, 320) by decide) (by decide) (by decide) (by decide) (show 110 < 120 by decide) (Nat.le_of_ble_eq_true rfl) (Nat.le_of_ble_eq_true rfl) rfl ?_
  refine g_put (ci := 7) (j := 21) (ty := .array .int) (g := some (.inl (110))) dX7_init_107 (show gk 99 = (7, 32) by decide) (by decide) rfl inwX7 tyX7_ok nmX7 (by decide) fl_X7_52 (Or.inr ⟨rfl, rfl, rfl⟩) rfl (show 99 < 111 by decide) rfl rfl rfl rfl ?_
  refine g_aload_n dX7_init_110 rfl rfl ?_
  refine g_bipush (v := Int32.ofInt (16)) dX7_init_111 (by decide) rfl ?_
  refine g_ni (N := 16) dX7_init_113 (show gk 111 = (10, 16) by decide) (by decide) (by decide) (by decide) (show 111 < 120 by decide) (Nat.le_of_ble_eq_true rfl) (Nat.le_of_ble_eq_true rfl) rfl ?_
  refine g_put (ci := 7) (j := 22) (ty := .array .int) (g := some (.inl (111))) dX7_init_115 (show gk 99 = (7, 32) by decide) (by decide) rfl inwX7 tyX7_ok nmX7 (by decide) fl_X7_55 (Or.inr ⟨rfl, rfl, rfl⟩) rfl (show 99 < 112 by decide) rfl rfl rfl rfl ?_
  refine g_aload_n dX7_init_118 rfl rfl ?_
  refine g_bipush (v := Int32.ofInt (16)) dX7_init_119 (by decide) rfl ?_
  refine g_ni (N := 16) dX7_init_121 (show gk 112 = (10, 16) by decide) (by decide) (by decide) (by decide) (show 112 < 120 by decide) (Nat.le_of_ble_eq_true rfl) (Nat.le_of_ble_eq_true rfl) rfl ?_
  refine g_put (ci := 7) (j := 23) (ty := .array .int) (g := some (.inl (112))) dX7_init_123 (show gk 99 = (7, 32) by decide) (by decide) rfl inwX7 tyX7_ok nmX7 (by decide) fl_X7_58 (Or.inr ⟨rfl, rfl, rfl⟩) rfl (show 99 < 113 by decide) rfl rfl rfl rfl ?_
  refine g_aload_n dX7_init_126 rfl rfl ?_
  refine g_bipush (v := Int32.ofInt (16)) dX7_init_127 (by decide) rfl ?_
  refine g_ni (N := 16) dX7_init_129 (show gk 113 = (10, 16) by decide) (by decide) (by decide) (by decide) (show 113 < 120 by decide) (Nat.le_of_ble_eq_true rfl) (Nat.le_of_ble_eq_true rfl) rfl ?_
  refine g_put (ci := 7) (j := 24) (ty := .array .int) (g := some (.inl (113))) dX7_init_131 (show gk 99 = (7, 32) by decide) (by decide) rfl inwX7 tyX7_ok nmX7 (by decide) fl_X7_61 (Or.inr ⟨rfl, rfl, rfl⟩) rfl (show 99 < 114 by decide) rfl rfl rfl rfl ?_
  refine g_aload_n dX7_init_134 rfl rfl ?_
  refine g_bipush (v := Int32.ofInt (16)) dX7_init_135 (by decide) rfl ?_
  refine g_ni (N := 16) dX7_init_137 (show gk 114 = (10, 16) by decide) (by decide) (by decide) (by decide) (show 114 < 120 by decide) (Nat.le_of_ble_eq_true rfl) (Nat.le_of_ble_eq_true rfl) rfl ?_
  refine g_put (ci := 7) (j := 25) (ty := .array .int) (g := some (.inl (114))) dX7_init_139 (show gk 99 = (7, 32) by decide) (by decide) rfl inwX7 tyX7_ok nmX7 (by decide) fl_X7_64 (Or.inr ⟨rfl, rfl, rfl⟩) rfl (show 99 < 115 by decide) rfl rfl rfl rfl ?_
  refine g_aload_n dX7_init_142 rfl rfl ?_
  refine g_sipush (v := Int32.ofInt (320)) dX7_init_143 (by decide) rfl ?_
  refine g_ni (N := 320) dX7_init_146 (show gk 115 = (10, 320) by decide) (by decide) (by decide) (by decide) (show 115 < 120 by decide) (Nat.le_of_ble_eq_true rfl) (Nat.le_of_ble_eq_true rfl) rfl ?_
  refine g_put (ci := 7) (j := 26) (ty := .array .int) (g := some (.inl (115))) dX7_init_148 (show gk 99 = (7, 32) by decide) (by decide) rfl inwX7 tyX7_ok nmX7 (by decide) fl_X7_67 (Or.inr ⟨rfl, rfl, rfl⟩) rfl (show 99 < 116 by decide) rfl rfl rfl rfl ?_
  refine g_aload_n dX7_init_151 rfl rfl ?_
  refine g_bipush (v := Int32.ofInt (30)) dX7_init_152 (by decide) rfl ?_
  refine g_ni (N := 30) dX7_init_154 (show gk 116 = (10, 30) by decide) (by decide) (by decide) (by decide) (show 116 < 120 by decide) (Nat.le_of_ble_eq_true rfl) (Nat.le_of_ble_eq_true rfl) rfl ?_
  refine g_put (ci := 7) (j := 27) (ty := .array .int) (g := some (.inl (116))) dX7_init_156 (show gk 99 = (7, 32) by decide) (by decide) rfl inwX7 tyX7_ok nmX7 (by decide) fl_X7_70 (Or.inr ⟨rfl, rfl, rfl⟩) rfl (show 99 < 117 by decide) rfl rfl rfl rfl ?_
  refine g_aload_n dX7_init_159 rfl rfl ?_
  refine g_bipush (v := Int32.ofInt (30)) dX7_init_160 (by decide) rfl ?_
  refine g_ni (N := 30) dX7_init_162 (show gk 117 = (10, 30) by decide) (by decide) (by decide) (by decide) (show 117 < 120 by decide) (Nat.le_of_ble_eq_true rfl) (Nat.le_of_ble_eq_true rfl) rfl ?_
  refine g_put (ci := 7) (j := 28) (ty := .array .int) (g := some (.inl (117))) dX7_init_164 (show gk 99 = (7, 32) by decide) (by decide) rfl inwX7 tyX7_ok nmX7 (by decide) fl_X7_73 (Or.inr ⟨rfl, rfl, rfl⟩) rfl (show 99 < 118 by decide) rfl rfl rfl rfl ?_
  refine g_aload_n dX7_init_167 rfl rfl ?_
  refine g_bipush (v := Int32.ofInt (30)) dX7_init_168 (by decide) rfl ?_
  refine g_ni (N := 30) dX7_init_170 (show gk 118 = (10, 30) by decide) (by decide) (by decide) (by decide) (show 118 < 120 by decide) (Nat.le_of_ble_eq_true rfl) (Nat.le_of_ble_eq_true rfl) rfl ?_
  refine g_put (ci := 7) (j := 29) (ty := .array .int) (g := some (.inl (118))) dX7_init_172 (show gk 99 = (7, 32) by decide) (by decide) rfl inwX7 tyX7_ok nmX7 (by decide) fl_X7_76 (Or.inr ⟨rfl, rfl, rfl⟩) rfl (show 99 < 119 by decide) rfl rfl rfl rfl ?_
  exact g_return dX7_init_175 rfl (Nat.le_of_ble_eq_true rfl) (Nat.le_of_ble_eq_true rfl)
/-- the works that Site's constructor makes -/
def gW (V : Nat → Nat → Gv) : Nat → Nat → Nat → Gv
  | 0 => V
  | w + 1 => vu (fX4 (9 + w) (gW V w)) 5 w (some (.inl (9 + w)))
def gR (V : Nat → Nat → Gv) : Nat → Nat → Nat → Gv
  | 0 => V
  | r + 1 => vu (fX0 (25 + 3 * r) (25 + 3 * r + 1) (gR V r)) 7 r (some (.inl (25 + 3 * r)))
theorem gW_4 {V : Nat → Nat → Gv} : ∀ w, gW V w 4 = V 4
  | 0 => rfl
  | w + 1 => by
    show vu (vu (gW V w) (9 + w) 4 _) 5 w _ 4 = V 4
    rw [vu_o (by omega), vu_o (by omega)]; exact gW_4 w
theorem gR_4 {V : Nat → Nat → Gv} : ∀ r, gR V r 4 = V 4
  | 0 => rfl
  | r + 1 => by
    show vu (vu (vu (vu (gR V r) (25 + 3 * r) 0 _) (25 + 3 * r) 1 _) (25 + 3 * r) 2 _) 7 r _ 4 = V 4
    rw [vu_o (by omega), vu_o (by omega), vu_o (by omega), vu_o (by omega)]; exact gR_4 r
def fX2a (V : Nat → Nat → Gv) : Nat → Nat → Gv := vu (vu (vu (vu (vu (vu (vu (V) 4 0 (some (.inl (5)))) 4 1 (some (.inl (6)))) 4 2 (some (.inl (7)))) 4 3 (some (.inr (0)))) 4 4 (some (.inr (0)))) 4 5 (some (.inr (30)))) 4 6 (some (.inl (8)))
def fX2 (V : Nat → Nat → Gv) : Nat → Nat → Gv := gR (gW (fX2a V) 16) 22
section X2I
variable {l : Launch} {E : EnT} {V : Nat → Nat → Gv} {N : GM}
set_option maxRecDepth 100000 in
theorem x2_rows (h0 : V 4 2 = some (.inl 7)) (hend : Gz (l, E, mX2_init, [], 2, 86, 952, FinG E N 86 952) 86 952 114 [some (.ref 4), some (.int (nI 22))] [] (91, gR V 22)) : ∀ (k r : Nat), r + k = 22 → Gz (l, E, mX2_init, [], 2, 86, 952, FinG E N 86 952) (20 + 3 * r) (182 + 35 * r) 86 [some (.ref 4), some (.int (nI r))] [] (25 + 3 * r, gR V r)
  | k, r, hrk => by
    refine g_iload_n dX2_init_86 rfl rfl ?_
    refine g_aload_n dX2_init_87 rfl rfl ?_
    refine g_get (ci := 2) (j := 2) (r := 7) dX2_init_88 (show gk 4 = (2, 11) by decide) (by decide) rfl inwX2 (by decide) fl_X2_23 (show 4 < 25 + 3 * r by omega) (by show gR V r 4 2 = _; rw [gR_4]; exact h0) rfl ?_
    refine g_alen (n := 22) dX2_init_91 (Or.inr (show gk 7 = (14, 22) by decide)) (show 7 < 25 + 3 * r by omega) rfl ?_
    refine g_icmp_ge (tgt := 114) dX2_init_92 rfl rfl (fun q => ?_) (fun q => ?_)
    · have h1 := le_nn q (by decide) (by omega)
      obtain rfl : r = 22 := by omega
      exact hend
    · have h1 : r < 22 := nle_nn q (by decide) (by omega)
      refine g_aload_n dX2_init_95 rfl rfl ?_
      refine g_get (ci := 2) (j := 2) (r := 7) dX2_init_96 (show gk 4 = (2, 11) by decide) (by decide) rfl inwX2 (by decide) fl_X2_23 (show 4 < 25 + 3 * r by omega) (by show gR V r 4 2 = _; rw [gR_4]; exact h0) rfl ?_
      refine g_iload_n dX2_init_99 rfl rfl ?_
      refine g_new (ci := 0) tyX0 dX2_init_100 rfl (by decide) inwX0 tyX0_ok dvX0 kl_X2_21 iw_X0 in_X0 (gk_r h1) (show 25 + 3 * r < 120 by omega) (show 20 + 3 * r + 1 ≤ 86 by omega) (show 182 + 35 * r + 3 ≤ 952 by omega) rfl ?_
      refine g_dup dX2_init_103 rfl rfl ?_
      refine g_call (y := mX0_init) (d := 1) (kc := 2) (ks := 32) dX2_init_104 (Or.inr (List.mem_of_getElem? (i := 3) rfl)) ins_X0 (Nat.le_of_ble_eq_true rfl) (Nat.le_of_ble_eq_true rfl) (show 20 + 3 * r + 1 + 2 ≤ 86 by omega) (show 182 + 35 * r + 3 + 32 ≤ 952 by omega) (c_iX0 (n := 25 + 3 * r + 1) (gk_r h1) (show 25 + 3 * r < 25 + 3 * r + 1 by omega) (gk_h h1) (gk_s h1) (show 25 + 3 * r + 1 + 1 < 120 by omega)) rfl ?_
      refine g_aast (ti := 4) (ta := 14) (n := 22) (ci := 0) (C := RX0) (T := TX0) (cA := eC E 4) dX2_init_107 (show gk 7 = (14, 22) by decide) (fun V => by rw [gent_t (show gk 7 = (14, 22) by decide)]; rfl) rfl (gk_r h1) (by decide) rfl (show 7 < 25 + 3 * r + 1 + 1 + 1 by omega) (show 25 + 3 * r < 25 + 3 * r + 1 + 1 + 1 by omega) (fun q => vp_in_nI h1 (by decide) (Or.inl q)) (by rw [nI_clamp (by omega)]; exact h1) rfl ?_
      refine g_iu1 dX2_init_108 (Nat.le_of_ble_eq_true rfl) rfl ?_
      refine g_goto (tgt := 86) dX2_init_111 rfl ?_
      have ih := x2_rows h0 hend (k - 1) (r + 1) (by omega)
      rw [nI_clamp (show r < 2 ^ 31 by omega)]
      rw [show 20 + 3 * (r + 1) = 20 + 3 * r + 1 + 2 by omega, show 182 + 35 * (r + 1) = 182 + 35 * r + 3 + 32 by omega, show 25 + 3 * (r + 1) = 25 + 3 * r + 1 + 1 + 1 by omega] at ih
      exact ih
  termination_by k => k
set_option maxRecDepth 100000 in
theorem x2_works (h0 : V 4 0 = some (.inl 5)) (hend : Gz (l, E, mX2_init, [], 2, 86, 952, FinG E N 86 952) 20 182 84 [some (.ref 4), some (.int (nI 16))] [] (25, gW V 16)) : ∀ (k r : Nat), r + k = 16 → Gz (l, E, mX2_init, [], 2, 86, 952, FinG E N 86 952) (4 + r) (70 + 7 * r) 56 [some (.ref 4), some (.int (nI r))] [] (9 + r, gW V r)
  | k, r, hrk => by
    refine g_iload_n dX2_init_56 rfl rfl ?_
    refine g_aload_n dX2_init_57 rfl rfl ?_
    refine g_get (ci := 2) (j := 0) (r := 5) dX2_init_58 (show gk 4 = (2, 11) by decide) (by decide) rfl inwX2 (by decide) fl_X2_11 (show 4 < 9 + r by omega) (by show gW V r 4 0 = _; rw [gW_4]; exact h0) rfl ?_
    refine g_alen (n := 16) dX2_init_61 (Or.inl (show gk 5 = (13, 16) by decide)) (show 5 < 9 + r by omega) rfl ?_
    refine g_icmp_ge (tgt := 84) dX2_init_62 rfl rfl (fun q => ?_) (fun q => ?_)
    · have h1 := le_nn q (by decide) (by omega)
      obtain rfl : r = 16 := by omega
      exact hend
    · have h1 : r < 16 := nle_nn q (by decide) (by omega)
      refine g_aload_n dX2_init_65 rfl rfl ?_
      refine g_get (ci := 2) (j := 0) (r := 5) dX2_init_66 (show gk 4 = (2, 11) by decide) (by decide) rfl inwX2 (by decide) fl_X2_11 (show 4 < 9 + r by omega) (by show gW V r 4 0 = _; rw [gW_4]; exact h0) rfl ?_
      refine g_iload_n dX2_init_69 rfl rfl ?_
      refine g_new (ci := 4) tyX4 dX2_init_70 rfl (by decide) inwX4 tyX4_ok dvX4 kl_X2_9 iw_X4 in_X4 (gk_w h1) (show 9 + r < 120 by omega) (show 4 + r + 1 ≤ 86 by omega) (show 70 + 7 * r + 7 ≤ 952 by omega) rfl ?_
      refine g_dup dX2_init_73 rfl rfl ?_
      refine g_call (y := mX4_init) (d := 1) (kc := 0) (ks := 0) dX2_init_74 (Or.inr (List.mem_of_getElem? (i := 2) rfl)) ins_X4 (Nat.le_of_ble_eq_true rfl) (Nat.le_of_ble_eq_true rfl) (show 4 + r + 1 + 0 ≤ 86 by omega) (show 70 + 7 * r + 7 + 0 ≤ 952 by omega) (c_iX4 (gk_w h1) (show 9 + r < 9 + r + 1 by omega)) rfl ?_
      refine g_aast (ti := 3) (ta := 13) (n := 16) (ci := 4) (C := RX4) (T := TX4) (cA := eC E 3) dX2_init_77 (show gk 5 = (13, 16) by decide) (fun V => by rw [gent_t (show gk 5 = (13, 16) by decide)]; rfl) rfl (gk_w h1) (by decide) rfl (show 5 < 9 + r + 1 by omega) (show 9 + r < 9 + r + 1 by omega) (fun q => vp_in_nI h1 (by decide) (Or.inl q)) (by rw [nI_clamp (by omega)]; exact h1) rfl ?_
      refine g_iu1 dX2_init_78 (Nat.le_of_ble_eq_true rfl) rfl ?_
      refine g_goto (tgt := 56) dX2_init_81 rfl ?_
      have ih := x2_works h0 hend (k - 1) (r + 1) (by omega)
      rw [nI_clamp (show r < 2 ^ 31 by omega)]
      rw [show 70 + 7 * (r + 1) = 70 + 7 * r + 7 + 0 by omega] at ih
      exact ih
  termination_by k => k
end X2I
set_option maxRecDepth 100000 in
theorem c_iX2 {l : Launch} {E : EnT} {V : Nat → Nat → Gv} : Gm l E mX2_init 2 86 952 4 (5, V) (91, fX2 V) := by
  refine Gm_of (by decide) rfl (by decide) ?_
  refine g_aload_n dX2_init_0 rfl rfl ?_
  refine g_obj dX2_init_1 ml_X2_3 (Nat.le_of_ble_eq_true rfl) (Nat.le_of_ble_eq_true rfl) rfl ?_
  refine g_aload_n dX2_init_4 rfl rfl ?_
  refine g_bipush (v := Int32.ofInt (16)) dX2_init_5 (by decide) rfl ?_
  refine g_aw dX2_init_7 kl_X2_9 (show gk 5 = (13, 16) by decide) (by decide) (by decide) (show 5 < 120 by decide) (Nat.le_of_ble_eq_true rfl) (Nat.le_of_ble_eq_true rfl) rfl ?_
  refine g_put (ci := 2) (j := 0) (ty := .array (.object "BridgeNight$Work")) (g := some (.inl (5))) dX2_init_10 (show gk 4 = (2, 11) by decide) (by decide) rfl inwX2 tyX2_ok nmX2 (by decide) fl_X2_11 (Or.inr ⟨rfl, rfl, rfl⟩) rfl (show 4 < 6 by decide) rfl rfl rfl rfl ?_
  refine g_aload_n dX2_init_13 rfl rfl ?_
  refine g_bipush (v := Int32.ofInt (16)) dX2_init_14 (by decide) rfl ?_
  refine g_ni (N := 16) dX2_init_16 (show gk 6 = (10, 16) by decide) (by decide) (by decide) (by decide) (show 6 < 120 by decide) (Nat.le_of_ble_eq_true rfl) (Nat.le_of_ble_eq_true rfl) rfl ?_
  refine g_put (ci := 2) (j := 1) (ty := .array .int) (g := some (.inl (6))) dX2_init_18 (show gk 4 = (2, 11) by decide) (by decide) rfl inwX2 tyX2_ok nmX2 (by decide) fl_X2_17 (Or.inr ⟨rfl, rfl, rfl⟩) rfl (show 4 < 7 by decide) rfl rfl rfl rfl ?_
  refine g_aload_n dX2_init_21 rfl rfl ?_
  refine g_bipush (v := Int32.ofInt (22)) dX2_init_22 (by decide) rfl ?_
  refine g_ar dX2_init_24 kl_X2_21 (show gk 7 = (14, 22) by decide) (by decide) (by decide) (show 7 < 120 by decide) (Nat.le_of_ble_eq_true rfl) (Nat.le_of_ble_eq_true rfl) rfl ?_
  refine g_put (ci := 2) (j := 2) (ty := .array (.object "BridgeNight$Row")) (g := some (.inl (7))) dX2_init_27 (show gk 4 = (2, 11) by decide) (by decide) rfl inwX2 tyX2_ok nmX2 (by decide) fl_X2_23 (Or.inr ⟨rfl, rfl, rfl⟩) rfl (show 4 < 8 by decide) rfl rfl rfl rfl ?_
  refine g_aload_n dX2_init_30 rfl rfl ?_
  refine g_iconst (v := Int32.ofInt (0)) dX2_init_31 (by decide) rfl ?_
  refine g_put (ci := 2) (j := 3) (ty := .int) (g := some (.inr (0))) dX2_init_32 (show gk 4 = (2, 11) by decide) (by decide) rfl inwX2 tyX2_ok nmX2 (by decide) fl_X2_27 (Or.inl rfl) rfl (show 4 < 8 by decide) rfl rfl rfl rfl ?_
  refine g_aload_n dX2_init_35 rfl rfl ?_
  refine g_iconst (v := Int32.ofInt (0)) dX2_init_36 (by decide) rfl ?_
  refine g_put (ci := 2) (j := 4) (ty := .int) (g := some (.inr (0))) dX2_init_37 (show gk 4 = (2, 11) by decide) (by decide) rfl inwX2 tyX2_ok nmX2 (by decide) fl_X2_31 (Or.inl rfl) rfl (show 4 < 8 by decide) rfl rfl rfl rfl ?_
  refine g_aload_n dX2_init_40 rfl rfl ?_
  refine g_bipush (v := Int32.ofInt (30)) dX2_init_41 (by decide) rfl ?_
  refine g_put (ci := 2) (j := 5) (ty := .int) (g := some (.inr (30))) dX2_init_43 (show gk 4 = (2, 11) by decide) (by decide) rfl inwX2 tyX2_ok nmX2 (by decide) fl_X2_34 (Or.inl rfl) rfl (show 4 < 8 by decide) rfl rfl rfl rfl ?_
  refine g_aload_n dX2_init_46 rfl rfl ?_
  refine g_bipush (v := Int32.ofInt (16)) dX2_init_47 (by decide) rfl ?_
  refine g_ni (N := 16) dX2_init_49 (show gk 8 = (10, 16) by decide) (by decide) (by decide) (by decide) (show 8 < 120 by decide) (Nat.le_of_ble_eq_true rfl) (Nat.le_of_ble_eq_true rfl) rfl ?_
  refine g_put (ci := 2) (j := 6) (ty := .array .int) (g := some (.inl (8))) dX2_init_51 (show gk 4 = (2, 11) by decide) (by decide) rfl inwX2 tyX2_ok nmX2 (by decide) fl_X2_37 (Or.inr ⟨rfl, rfl, rfl⟩) rfl (show 4 < 9 by decide) rfl rfl rfl rfl ?_
  refine g_iconst (v := Int32.ofInt (0)) dX2_init_54 (by decide) rfl ?_
  refine g_istore_n dX2_init_55 (Nat.le_of_ble_eq_true rfl) rfl rfl ?_
  refine x2_works (V := fX2a V) rfl ?_ 16 0 rfl
  refine g_iconst (v := Int32.ofInt 0) dX2_init_84 rfl rfl ?_
  refine g_istore_n dX2_init_85 (Nat.le_of_ble_eq_true rfl) rfl rfl ?_
  refine x2_rows (V := gW (fX2a V) 16) (by rw [gW_4]; rfl) ?_ 22 0 rfl
  exact g_return dX2_init_114 rfl (Nat.le_of_ble_eq_true rfl) (Nat.le_of_ble_eq_true rfl)
def fX6 (V : Nat → Nat → Gv) : Nat → Nat → Gv := vu (vu (vu (vu (fX5 (vu (fX1 (vu (fX2 (vu (fX3 (V)) 0 0 (some (.inl (1))))) 0 1 (some (.inl (4))))) 0 2 (some (.inl (91))))) 0 3 (some (.inl (94)))) 0 4 (some (.inl (98)))) 0 5 (some (.inr (0)))) 0 6 (some (.inr (100)))
set_option maxRecDepth 100000 in
theorem c_iX6 {l : Launch} {E : EnT} {V : Nat → Nat → Gv} : Gm l E mX6_init 3 98 1315 0 (1, V) (99, fX6 V) := by
  refine Gm_of (by decide) rfl (by decide) ?_
  refine g_aload_n dX6_init_0 rfl rfl ?_
  refine g_obj dX6_init_1 ml_X6_1 (Nat.le_of_ble_eq_true rfl) (Nat.le_of_ble_eq_true rfl) rfl ?_
  refine g_aload_n dX6_init_4 rfl rfl ?_
  refine g_new (ci := 3) tyX3 dX6_init_5 rfl (by decide) inwX3 tyX3_ok dvX3 kl_X6_7 iw_X3 in_X3 (show gk 1 = (3, 10) by decide) (show 1 < 120 by decide) (Nat.le_of_ble_eq_true rfl) (Nat.le_of_ble_eq_true rfl) rfl ?_
  refine g_dup dX6_init_8 rfl rfl ?_
  refine g_call (y := mX3_init) (d := 2) (kc := 2) (ks := 207) dX6_init_9 (Or.inr (List.mem_of_getElem? (i := 0) rfl)) ins_X3 (Nat.le_of_ble_eq_true rfl) (Nat.le_of_ble_eq_true rfl) (Nat.le_of_ble_eq_true rfl) (Nat.le_of_ble_eq_true rfl) c_iX3 rfl ?_
  refine g_put (ci := 6) (j := 0) (ty := .object "BridgeNight$Tape") (g := some (.inl (1))) dX6_init_12 (show gk 0 = (6, 7) by decide) (by decide) rfl inwX6 tyX6_ok nmX6 (by decide) fl_X6_10 (Or.inr ⟨rfl, rfl, rfl⟩) rfl (show 0 < 4 by decide) rfl rfl rfl rfl ?_
  refine g_aload_n dX6_init_15 rfl rfl ?_
  refine g_new (ci := 2) tyX2 dX6_init_16 rfl (by decide) inwX2 tyX2_ok dvX2 kl_X6_16 iw_X2 in_X2 (show gk 4 = (2, 11) by decide) (show 4 < 120 by decide) (Nat.le_of_ble_eq_true rfl) (Nat.le_of_ble_eq_true rfl) rfl ?_
  refine g_dup dX6_init_19 rfl rfl ?_
  refine g_call (y := mX2_init) (d := 2) (kc := 86) (ks := 952) dX6_init_20 (Or.inl ml_X6_18) ins_X2 (Nat.le_of_ble_eq_true rfl) (Nat.le_of_ble_eq_true rfl) (Nat.le_of_ble_eq_true rfl) (Nat.le_of_ble_eq_true rfl) c_iX2 rfl ?_
  refine g_put (ci := 6) (j := 1) (ty := .object "BridgeNight$Site") (g := some (.inl (4))) dX6_init_23 (show gk 0 = (6, 7) by decide) (by decide) rfl inwX6 tyX6_ok nmX6 (by decide) fl_X6_19 (Or.inr ⟨rfl, rfl, rfl⟩) rfl (show 0 < 91 by decide) rfl rfl rfl rfl ?_
  refine g_aload_n dX6_init_26 rfl rfl ?_
  refine g_new (ci := 1) tyX1 dX6_init_27 rfl (by decide) inwX1 tyX1_ok dvX1 kl_X6_23 iw_X1 in_X1 (show gk 91 = (1, 6) by decide) (show 91 < 120 by decide) (Nat.le_of_ble_eq_true rfl) (Nat.le_of_ble_eq_true rfl) rfl ?_
  refine g_dup dX6_init_30 rfl rfl ?_
  refine g_call (y := mX1_init) (d := 1) (kc := 2) (ks := 14) dX6_init_31 (Or.inr (List.mem_of_getElem? (i := 4) rfl)) ins_X1 (Nat.le_of_ble_eq_true rfl) (Nat.le_of_ble_eq_true rfl) (Nat.le_of_ble_eq_true rfl) (Nat.le_of_ble_eq_true rfl) c_iX1 rfl ?_
  refine g_put (ci := 6) (j := 2) (ty := .object "BridgeNight$Search") (g := some (.inl (91))) dX6_init_34 (show gk 0 = (6, 7) by decide) (by decide) rfl inwX6 tyX6_ok nmX6 (by decide) fl_X6_26 (Or.inr ⟨rfl, rfl, rfl⟩) rfl (show 0 < 94 by decide) rfl rfl rfl rfl ?_
  refine g_aload_n dX6_init_37 rfl rfl ?_
  refine g_new (ci := 5) tyX5 dX6_init_38 rfl (by decide) inwX5 tyX5_ok dvX5 kl_X6_30 iw_X5 in_X5 (show gk 94 = (5, 5) by decide) (show 94 < 120 by decide) (Nat.le_of_ble_eq_true rfl) (Nat.le_of_ble_eq_true rfl) rfl ?_
  refine g_dup dX6_init_41 rfl rfl ?_
  refine g_call (y := mX5_init) (d := 1) (kc := 3) (ks := 90) dX6_init_42 (Or.inr (List.mem_of_getElem? (i := 5) rfl)) ins_X5 (Nat.le_of_ble_eq_true rfl) (Nat.le_of_ble_eq_true rfl) (Nat.le_of_ble_eq_true rfl) (Nat.le_of_ble_eq_true rfl) c_iX5 rfl ?_
  refine g_put (ci := 6) (j := 3) (ty := .object "BridgeNight$Yard") (g := some (.inl (94))) dX6_init_45 (show gk 0 = (6, 7) by decide) (by decide) rfl inwX6 tyX6_ok nmX6 (by decide) fl_X6_33 (Or.inr ⟨rfl, rfl, rfl⟩) rfl (show 0 < 98 by decide) rfl rfl rfl rfl ?_
  refine g_aload_n dX6_init_48 rfl rfl ?_
  refine g_bipush (v := Int32.ofInt (20)) dX6_init_49 (by decide) rfl ?_
  refine g_ni (N := 20) dX6_init_51 (show gk 98 = (10, 20) by decide) (by decide) (by decide) (by decide) (show 98 < 120 by decide) (Nat.le_of_ble_eq_true rfl) (Nat.le_of_ble_eq_true rfl) rfl ?_
  refine g_put (ci := 6) (j := 4) (ty := .array .int) (g := some (.inl (98))) dX6_init_53 (show gk 0 = (6, 7) by decide) (by decide) rfl inwX6 tyX6_ok nmX6 (by decide) fl_X6_37 (Or.inr ⟨rfl, rfl, rfl⟩) rfl (show 0 < 99 by decide) rfl rfl rfl rfl ?_
  refine g_aload_n dX6_init_56 rfl rfl ?_
  refine g_iconst (v := Int32.ofInt (0)) dX6_init_57 (by decide) rfl ?_
  refine g_put (ci := 6) (j := 5) (ty := .int) (g := some (.inr (0))) dX6_init_58 (show gk 0 = (6, 7) by decide) (by decide) rfl inwX6 tyX6_ok nmX6 (by decide) fl_X6_41 (Or.inl rfl) rfl (show 0 < 99 by decide) rfl rfl rfl rfl ?_
  refine g_aload_n dX6_init_61 rfl rfl ?_
  refine g_bipush (v := Int32.ofInt (100)) dX6_init_62 (by decide) rfl ?_
  refine g_put (ci := 6) (j := 6) (ty := .int) (g := some (.inr (100))) dX6_init_64 (show gk 0 = (6, 7) by decide) (by decide) rfl inwX6 tyX6_ok nmX6 (by decide) fl_X6_45 (Or.inl rfl) rfl (show 0 < 99 by decide) rfl rfl rfl rfl ?_
  exact g_return dX6_init_67 rfl (Nat.le_of_ble_eq_true rfl) (Nat.le_of_ble_eq_true rfl)
