/-! the law's wrappers -/
def RW (Po : Option Value ⊕ String → Mem → Prop) (code : String → Int32) : Option Value ⊕ String → Mem → Prop := fun r N2 => (∃ i N, Po (.inl (some (.int i))) N ∧ r = .inl (some (.int 0)) ∧ N2 = mu N 119 0 i) ∨ (∃ C, Po (.inr C) N2 ∧ r = .inl (some (.int (code C))))
abbrev mL_work : MT := (yL_work, cL_work, 4, some .int)
def hL_work : List (Nat × Nat × Nat × Nat) := [(0, 9, 12, 13), (0, 9, 15, 15)]
theorem cw_L_work : Cond.codeWith yL_work cL_work 4 (some .int) hL_work ∈ W0 := w0_2 193 rfl rfl
theorem sm_L_work : Cond.static yL_work ∈ W0 := w0_2 192 rfl rfl
def kL_work : String → Int32 := fun C => if C = xIA then 1 else 2
set_option maxHeartbeats 4000000 in
theorem c_L_work {l : Launch} {E : EnT} (hst : l.stackTraces = false) (M : Mem) (x : Int32) {d : Nat} {Po : Option Value ⊕ String → Mem → Prop} (hM : Mm l E mX6_work d 1 6 [.ref 0, .int x] M Po) (hv : ∀ v N, Po (.inl v) N → ∃ i, v = some (.int i)) (hC : ∀ C N, Po (.inr C) N → C = xIA ∨ C = xIS) : MmW l E mL_work hL_work (d + 1) 1 6 [.ref 0, .int x, .ref 119] M (RW Po kL_work) := by
  refine MmW_of hst (by decide) rfl (Nat.le_of_ble_eq_true rfl) [some (.ref 0), some (.int x), some (.ref 119), none] rfl ?_
  refine z_aload_n dL_work_0 rfl rfl ?_
  refine z_iconst (v := 0) dL_work_1 (by decide) rfl ?_
  refine z_aload_n dL_work_2 rfl rfl ?_
  refine z_iload_n dL_work_3 rfl rfl ?_
  refine z_callX (y := mX6_work) (ci := 6) (nf := 7) (b := 0) (st := [.int 0, .ref 119]) (As := [.int x]) dL_work_4 ml_L_7 iv_X6_work (Nat.le_refl _) rfl (by decide) rfl rfl (Nat.le_of_ble_eq_true rfl) (Nat.le_refl _) (Nat.le_refl _) hM (fun C N hp => ?_) (fun v N hp => ?_)
  · rcases hC C N hp with e | e
    · subst e
      refine ⟨[], ⟨0, 9, 12, 13⟩, [⟨0, 9, 15, 15⟩], _, rfl, fun z hz => (nomatch hz), rfl, by decide, kl_L_13, List.mem_of_getElem? (i := 0) rfl, ?_⟩
      refine hnd_n dL_work_12 (Nat.le_of_ble_eq_true rfl) rfl rfl ?_
      refine z_iconst (v := 1) dL_work_13 (by decide) rfl ?_
      exact z_ireturn dL_work_14 rfl (Or.inr ⟨_, hp, rfl⟩) (Nat.le_refl _) (Nat.le_refl _)
    · subst e
      refine ⟨[⟨0, 9, 12, 13⟩], ⟨0, 9, 15, 15⟩, [], _, rfl, fun z hz => by rw [List.mem_singleton.mp hz]; exact Or.inr ⟨by decide, _, kl_L_13, List.mem_of_getElem? (i := 0) rfl⟩, rfl, by decide, kl_L_15, List.mem_of_getElem? (i := 1) rfl, ?_⟩
      refine hnd_n dL_work_15 (Nat.le_of_ble_eq_true rfl) rfl rfl ?_
      refine z_iconst (v := 2) dL_work_16 (by decide) rfl ?_
      exact z_ireturn dL_work_17 rfl (Or.inr ⟨_, hp, rfl⟩) (Nat.le_refl _) (Nat.le_refl _)
  · obtain ⟨i, rfl⟩ := hv v N hp
    refine z_i2l dL_work_7 rfl ?_
    refine z_last dL_work_8 rfl ?_
    refine z_goto (tgt := 18) dL_work_9 (by decide) ?_
    refine z_iconst (v := 0) dL_work_18 (by decide) rfl ?_
    exact z_ireturn dL_work_19 rfl (Or.inl ⟨_, _, hp, rfl, rfl⟩) (Nat.le_refl _) (Nat.le_refl _)
abbrev mL_told : MT := (yL_told, cL_told, 5, some .int)
def hL_told : List (Nat × Nat × Nat × Nat) := [(0, 10, 13, 21), (0, 10, 17, 13)]
theorem cw_L_told : Cond.codeWith yL_told cL_told 5 (some .int) hL_told ∈ W0 := w0_3 191 rfl rfl
theorem sm_L_told : Cond.static yL_told ∈ W0 := w0_3 190 rfl rfl
def kL_told : String → Int32 := fun C => if C = xIO then 1 else 2
set_option maxHeartbeats 4000000 in
theorem c_L_told {l : Launch} {E : EnT} (hst : l.stackTraces = false) (M : Mem) (x y : Int32) {d : Nat} {Po : Option Value ⊕ String → Mem → Prop} (hM : Mm l E mX6_told d 1 6 [.ref 0, .int x, .int y] M Po) (hv : ∀ v N, Po (.inl v) N → ∃ i, v = some (.int i)) (hC : ∀ C N, Po (.inr C) N → C = xIO ∨ C = xIA) : MmW l E mL_told hL_told (d + 1) 1 6 [.ref 0, .int x, .int y, .ref 119] M (RW Po kL_told) := by
  refine MmW_of hst (by decide) rfl (Nat.le_of_ble_eq_true rfl) [some (.ref 0), some (.int x), some (.int y), some (.ref 119), none] rfl ?_
  refine z_aload_n dL_told_0 rfl rfl ?_
  refine z_iconst (v := 0) dL_told_1 (by decide) rfl ?_
  refine z_aload_n dL_told_2 rfl rfl ?_
  refine z_iload_n dL_told_3 rfl rfl ?_
  refine z_iload_n dL_told_4 rfl rfl ?_
  refine z_callX (y := mX6_told) (ci := 6) (nf := 7) (b := 0) (st := [.int 0, .ref 119]) (As := [.int x, .int y]) dL_told_5 ml_L_17 iv_X6_told (Nat.le_refl _) rfl (by decide) rfl rfl (Nat.le_of_ble_eq_true rfl) (Nat.le_refl _) (Nat.le_refl _) hM (fun C N hp => ?_) (fun v N hp => ?_)
  · rcases hC C N hp with e | e
    · subst e
      refine ⟨[], ⟨0, 10, 13, 21⟩, [⟨0, 10, 17, 13⟩], _, rfl, fun z hz => (nomatch hz), rfl, by decide, kl_L_21, List.mem_of_getElem? (i := 2) rfl, ?_⟩
      refine hnd_w dL_told_13 (Nat.le_of_ble_eq_true rfl) rfl rfl ?_
      refine z_iconst (v := 1) dL_told_15 (by decide) rfl ?_
      exact z_ireturn dL_told_16 rfl (Or.inr ⟨_, hp, rfl⟩) (Nat.le_refl _) (Nat.le_refl _)
    · subst e
      refine ⟨[⟨0, 10, 13, 21⟩], ⟨0, 10, 17, 13⟩, [], _, rfl, fun z hz => by rw [List.mem_singleton.mp hz]; exact Or.inr ⟨by decide, _, kl_L_21, List.mem_of_getElem? (i := 1) rfl⟩, rfl, by decide, kl_L_13, List.mem_of_getElem? (i := 0) rfl, ?_⟩
      refine hnd_w dL_told_17 (Nat.le_of_ble_eq_true rfl) rfl rfl ?_
      refine z_iconst (v := 2) dL_told_19 (by decide) rfl ?_
      exact z_ireturn dL_told_20 rfl (Or.inr ⟨_, hp, rfl⟩) (Nat.le_refl _) (Nat.le_refl _)
  · obtain ⟨i, rfl⟩ := hv v N hp
    refine z_i2l dL_told_8 rfl ?_
    refine z_last dL_told_9 rfl ?_
    refine z_goto (tgt := 21) dL_told_10 (by decide) ?_
    refine z_iconst (v := 0) dL_told_21 (by decide) rfl ?_
    exact z_ireturn dL_told_22 rfl (Or.inl ⟨_, _, hp, rfl, rfl⟩) (Nat.le_refl _) (Nat.le_refl _)
abbrev mL_set : MT := (yL_set, cL_set, 5, some .int)
def hL_set : List (Nat × Nat × Nat × Nat) := [(0, 10, 13, 13)]
theorem cw_L_set : Cond.codeWith yL_set cL_set 5 (some .int) hL_set ∈ W0 := w0_3 220 rfl rfl
theorem sm_L_set : Cond.static yL_set ∈ W0 := w0_3 219 rfl rfl
def kL_set : String → Int32 := fun C => if C = xIA then 1 else 2
set_option maxHeartbeats 4000000 in
theorem c_L_set {l : Launch} {E : EnT} (hst : l.stackTraces = false) (M : Mem) (x y : Int32) {d : Nat} {Po : Option Value ⊕ String → Mem → Prop} (hM : Mm l E mX6_set d 1 6 [.ref 0, .int x, .int y] M Po) (hv : ∀ v N, Po (.inl v) N → ∃ i, v = some (.int i)) (hC : ∀ C N, Po (.inr C) N → C = xIA) : MmW l E mL_set hL_set (d + 1) 1 6 [.ref 0, .int x, .int y, .ref 119] M (RW Po kL_set) := by
  refine MmW_of hst (by decide) rfl (Nat.le_of_ble_eq_true rfl) [some (.ref 0), some (.int x), some (.int y), some (.ref 119), none] rfl ?_
  refine z_aload_n dL_set_0 rfl rfl ?_
  refine z_iconst (v := 0) dL_set_1 (by decide) rfl ?_
  refine z_aload_n dL_set_2 rfl rfl ?_
  refine z_iload_n dL_set_3 rfl rfl ?_
  refine z_iload_n dL_set_4 rfl rfl ?_
  refine z_callX (y := mX6_set) (ci := 6) (nf := 7) (b := 0) (st := [.int 0, .ref 119]) (As := [.int x, .int y]) dL_set_5 ml_L_23 iv_X6_set (Nat.le_refl _) rfl (by decide) rfl rfl (Nat.le_of_ble_eq_true rfl) (Nat.le_refl _) (Nat.le_refl _) hM (fun C N hp => ?_) (fun v N hp => ?_)
  · have e := hC C N hp
    subst e
    refine ⟨[], ⟨0, 10, 13, 13⟩, [], _, rfl, fun z hz => (nomatch hz), rfl, by decide, kl_L_13, List.mem_of_getElem? (i := 0) rfl, ?_⟩
    refine hnd_w dL_set_13 (Nat.le_of_ble_eq_true rfl) rfl rfl ?_
    refine z_iconst (v := 1) dL_set_15 (by decide) rfl ?_
    exact z_ireturn dL_set_16 rfl (Or.inr ⟨_, hp, rfl⟩) (Nat.le_refl _) (Nat.le_refl _)
  · obtain ⟨i, rfl⟩ := hv v N hp
    refine z_i2l dL_set_8 rfl ?_
    refine z_last dL_set_9 rfl ?_
    refine z_goto (tgt := 17) dL_set_10 (by decide) ?_
    refine z_iconst (v := 0) dL_set_17 (by decide) rfl ?_
    exact z_ireturn dL_set_18 rfl (Or.inl ⟨_, _, hp, rfl, rfl⟩) (Nat.le_refl _) (Nat.le_refl _)
abbrev mL_hours : MT := (yL_hours, cL_hours, 5, some .int)
def hL_hours : List (Nat × Nat × Nat × Nat) := [(0, 10, 13, 21), (0, 10, 17, 13)]
theorem cw_L_hours : Cond.codeWith yL_hours cL_hours 5 (some .int) hL_hours ∈ W0 := w0_3 228 rfl rfl
theorem sm_L_hours : Cond.static yL_hours ∈ W0 := w0_3 227 rfl rfl
def kL_hours : String → Int32 := fun C => if C = xIO then 1 else 2
set_option maxHeartbeats 4000000 in
theorem c_L_hours {l : Launch} {E : EnT} (hst : l.stackTraces = false) (M : Mem) (x y : Int32) {d : Nat} {Po : Option Value ⊕ String → Mem → Prop} (hM : Mm l E mX6_hours d 1 6 [.ref 0, .int x, .int y] M Po) (hv : ∀ v N, Po (.inl v) N → ∃ i, v = some (.int i)) (hC : ∀ C N, Po (.inr C) N → C = xIO ∨ C = xIA) : MmW l E mL_hours hL_hours (d + 1) 1 6 [.ref 0, .int x, .int y, .ref 119] M (RW Po kL_hours) := by
  refine MmW_of hst (by decide) rfl (Nat.le_of_ble_eq_true rfl) [some (.ref 0), some (.int x), some (.int y), some (.ref 119), none] rfl ?_
  refine z_aload_n dL_hours_0 rfl rfl ?_
  refine z_iconst (v := 0) dL_hours_1 (by decide) rfl ?_
  refine z_aload_n dL_hours_2 rfl rfl ?_
  refine z_iload_n dL_hours_3 rfl rfl ?_
  refine z_iload_n dL_hours_4 rfl rfl ?_
  refine z_callX (y := mX6_hours) (ci := 6) (nf := 7) (b := 0) (st := [.int 0, .ref 119]) (As := [.int x, .int y]) dL_hours_5 ml_L_26 iv_X6_hours (Nat.le_refl _) rfl (by decide) rfl rfl (Nat.le_of_ble_eq_true rfl) (Nat.le_refl _) (Nat.le_refl _) hM (fun C N hp => ?_) (fun v N hp => ?_)
  · rcases hC C N hp with e | e
    · subst e
      refine ⟨[], ⟨0, 10, 13, 21⟩, [⟨0, 10, 17, 13⟩], _, rfl, fun z hz => (nomatch hz), rfl, by decide, kl_L_21, List.mem_of_getElem? (i := 2) rfl, ?_⟩
      refine hnd_w dL_hours_13 (Nat.le_of_ble_eq_true rfl) rfl rfl ?_
      refine z_iconst (v := 1) dL_hours_15 (by decide) rfl ?_
      exact z_ireturn dL_hours_16 rfl (Or.inr ⟨_, hp, rfl⟩) (Nat.le_refl _) (Nat.le_refl _)
    · subst e
      refine ⟨[⟨0, 10, 13, 21⟩], ⟨0, 10, 17, 13⟩, [], _, rfl, fun z hz => by rw [List.mem_singleton.mp hz]; exact Or.inr ⟨by decide, _, kl_L_21, List.mem_of_getElem? (i := 1) rfl⟩, rfl, by decide, kl_L_13, List.mem_of_getElem? (i := 0) rfl, ?_⟩
      refine hnd_w dL_hours_17 (Nat.le_of_ble_eq_true rfl) rfl rfl ?_
      refine z_iconst (v := 2) dL_hours_19 (by decide) rfl ?_
      exact z_ireturn dL_hours_20 rfl (Or.inr ⟨_, hp, rfl⟩) (Nat.le_refl _) (Nat.le_refl _)
  · obtain ⟨i, rfl⟩ := hv v N hp
    refine z_i2l dL_hours_8 rfl ?_
    refine z_last dL_hours_9 rfl ?_
    refine z_goto (tgt := 21) dL_hours_10 (by decide) ?_
    refine z_iconst (v := 0) dL_hours_21 (by decide) rfl ?_
    exact z_ireturn dL_hours_22 rfl (Or.inl ⟨_, _, hp, rfl, rfl⟩) (Nat.le_refl _) (Nat.le_refl _)
abbrev mL_end : MT := (yL_end, cL_end, 4, some .int)
def hL_end : List (Nat × Nat × Nat × Nat) := [(0, 9, 12, 13)]
theorem cw_L_end : Cond.codeWith yL_end cL_end 4 (some .int) hL_end ∈ W0 := w0_4 0 rfl rfl
theorem sm_L_end : Cond.static yL_end ∈ W0 := w0_3 239 rfl rfl
def kL_end : String → Int32 := fun C => if C = xIA then 1 else 2
set_option maxHeartbeats 4000000 in
theorem c_L_end {l : Launch} {E : EnT} (hst : l.stackTraces = false) (M : Mem) (x : Int32) {d : Nat} {Po : Option Value ⊕ String → Mem → Prop} (hM : Mm l E mX6_end d 1 6 [.ref 0, .int x] M Po) (hv : ∀ v N, Po (.inl v) N → ∃ i, v = some (.int i)) (hC : ∀ C N, Po (.inr C) N → C = xIA) : MmW l E mL_end hL_end (d + 1) 1 6 [.ref 0, .int x, .ref 119] M (RW Po kL_end) := by
  refine MmW_of hst (by decide) rfl (Nat.le_of_ble_eq_true rfl) [some (.ref 0), some (.int x), some (.ref 119), none] rfl ?_
  refine z_aload_n dL_end_0 rfl rfl ?_
  refine z_iconst (v := 0) dL_end_1 (by decide) rfl ?_
  refine z_aload_n dL_end_2 rfl rfl ?_
  refine z_iload_n dL_end_3 rfl rfl ?_
  refine z_callX (y := mX6_end) (ci := 6) (nf := 7) (b := 0) (st := [.int 0, .ref 119]) (As := [.int x]) dL_end_4 ml_L_29 iv_X6_end (Nat.le_refl _) rfl (by decide) rfl rfl (Nat.le_of_ble_eq_true rfl) (Nat.le_refl _) (Nat.le_refl _) hM (fun C N hp => ?_) (fun v N hp => ?_)
  · have e := hC C N hp
    subst e
    refine ⟨[], ⟨0, 9, 12, 13⟩, [], _, rfl, fun z hz => (nomatch hz), rfl, by decide, kl_L_13, List.mem_of_getElem? (i := 0) rfl, ?_⟩
    refine hnd_n dL_end_12 (Nat.le_of_ble_eq_true rfl) rfl rfl ?_
    refine z_iconst (v := 1) dL_end_13 (by decide) rfl ?_
    exact z_ireturn dL_end_14 rfl (Or.inr ⟨_, hp, rfl⟩) (Nat.le_refl _) (Nat.le_refl _)
  · obtain ⟨i, rfl⟩ := hv v N hp
    refine z_i2l dL_end_7 rfl ?_
    refine z_last dL_end_8 rfl ?_
    refine z_goto (tgt := 15) dL_end_9 (by decide) ?_
    refine z_iconst (v := 0) dL_end_15 (by decide) rfl ?_
    exact z_ireturn dL_end_16 rfl (Or.inl ⟨_, _, hp, rfl, rfl⟩) (Nat.le_refl _) (Nat.le_refl _)
abbrev mL_begins : MT := (yL_begins, cL_begins, 5, some .int)
def hL_begins : List (Nat × Nat × Nat × Nat) := [(0, 10, 13, 21), (0, 10, 17, 13)]
theorem cw_L_begins : Cond.codeWith yL_begins cL_begins 5 (some .int) hL_begins ∈ W0 := w0_4 7 rfl rfl
theorem sm_L_begins : Cond.static yL_begins ∈ W0 := w0_4 6 rfl rfl
def kL_begins : String → Int32 := fun C => if C = xIO then 1 else 2
set_option maxHeartbeats 4000000 in
theorem c_L_begins {l : Launch} {E : EnT} (hst : l.stackTraces = false) (M : Mem) (x y : Int32) {d : Nat} {Po : Option Value ⊕ String → Mem → Prop} (hM : Mm l E mX6_begins d 1 6 [.ref 0, .int x, .int y] M Po) (hv : ∀ v N, Po (.inl v) N → ∃ i, v = some (.int i)) (hC : ∀ C N, Po (.inr C) N → C = xIO ∨ C = xIA) : MmW l E mL_begins hL_begins (d + 1) 1 6 [.ref 0, .int x, .int y, .ref 119] M (RW Po kL_begins) := by
  refine MmW_of hst (by decide) rfl (Nat.le_of_ble_eq_true rfl) [some (.ref 0), some (.int x), some (.int y), some (.ref 119), none] rfl ?_
  refine z_aload_n dL_begins_0 rfl rfl ?_
  refine z_iconst (v := 0) dL_begins_1 (by decide) rfl ?_
  refine z_aload_n dL_begins_2 rfl rfl ?_
  refine z_iload_n dL_begins_3 rfl rfl ?_
  refine z_iload_n dL_begins_4 rfl rfl ?_
  refine z_callX (y := mX6_begins) (ci := 6) (nf := 7) (b := 0) (st := [.int 0, .ref 119]) (As := [.int x, .int y]) dL_begins_5 ml_L_32 iv_X6_begins (Nat.le_refl _) rfl (by decide) rfl rfl (Nat.le_of_ble_eq_true rfl) (Nat.le_refl _) (Nat.le_refl _) hM (fun C N hp => ?_) (fun v N hp => ?_)
  · rcases hC C N hp with e | e
    · subst e
      refine ⟨[], ⟨0, 10, 13, 21⟩, [⟨0, 10, 17, 13⟩], _, rfl, fun z hz => (nomatch hz), rfl, by decide, kl_L_21, List.mem_of_getElem? (i := 2) rfl, ?_⟩
      refine hnd_w dL_begins_13 (Nat.le_of_ble_eq_true rfl) rfl rfl ?_
      refine z_iconst (v := 1) dL_begins_15 (by decide) rfl ?_
      exact z_ireturn dL_begins_16 rfl (Or.inr ⟨_, hp, rfl⟩) (Nat.le_refl _) (Nat.le_refl _)
    · subst e
      refine ⟨[⟨0, 10, 13, 21⟩], ⟨0, 10, 17, 13⟩, [], _, rfl, fun z hz => by rw [List.mem_singleton.mp hz]; exact Or.inr ⟨by decide, _, kl_L_21, List.mem_of_getElem? (i := 1) rfl⟩, rfl, by decide, kl_L_13, List.mem_of_getElem? (i := 0) rfl, ?_⟩
      refine hnd_w dL_begins_17 (Nat.le_of_ble_eq_true rfl) rfl rfl ?_
      refine z_iconst (v := 2) dL_begins_19 (by decide) rfl ?_
      exact z_ireturn dL_begins_20 rfl (Or.inr ⟨_, hp, rfl⟩) (Nat.le_refl _) (Nat.le_refl _)
  · obtain ⟨i, rfl⟩ := hv v N hp
    refine z_i2l dL_begins_8 rfl ?_
    refine z_last dL_begins_9 rfl ?_
    refine z_goto (tgt := 21) dL_begins_10 (by decide) ?_
    refine z_iconst (v := 0) dL_begins_21 (by decide) rfl ?_
    exact z_ireturn dL_begins_22 rfl (Or.inl ⟨_, _, hp, rfl, rfl⟩) (Nat.le_refl _) (Nat.le_refl _)
abbrev mL_move : MT := (yL_move, cL_move, 5, some .int)
def hL_move : List (Nat × Nat × Nat × Nat) := [(0, 10, 13, 21), (0, 10, 17, 13)]
theorem cw_L_move : Cond.codeWith yL_move cL_move 5 (some .int) hL_move ∈ W0 := w0_4 14 rfl rfl
theorem sm_L_move : Cond.static yL_move ∈ W0 := w0_4 13 rfl rfl
def kL_move : String → Int32 := fun C => if C = xIO then 1 else 2
set_option maxHeartbeats 4000000 in
theorem c_L_move {l : Launch} {E : EnT} (hst : l.stackTraces = false) (M : Mem) (x y : Int32) {d : Nat} {Po : Option Value ⊕ String → Mem → Prop} (hM : Mm l E mX6_move d 1 6 [.ref 0, .int x, .int y] M Po) (hv : ∀ v N, Po (.inl v) N → ∃ i, v = some (.int i)) (hC : ∀ C N, Po (.inr C) N → C = xIO ∨ C = xIA) : MmW l E mL_move hL_move (d + 1) 1 6 [.ref 0, .int x, .int y, .ref 119] M (RW Po kL_move) := by
  refine MmW_of hst (by decide) rfl (Nat.le_of_ble_eq_true rfl) [some (.ref 0), some (.int x), some (.int y), some (.ref 119), none] rfl ?_
  refine z_aload_n dL_move_0 rfl rfl ?_
  refine z_iconst (v := 0) dL_move_1 (by decide) rfl ?_
  refine z_aload_n dL_move_2 rfl rfl ?_
  refine z_iload_n dL_move_3 rfl rfl ?_
  refine z_iload_n dL_move_4 rfl rfl ?_
  refine z_callX (y := mX6_move) (ci := 6) (nf := 7) (b := 0) (st := [.int 0, .ref 119]) (As := [.int x, .int y]) dL_move_5 ml_L_35 iv_X6_move (Nat.le_refl _) rfl (by decide) rfl rfl (Nat.le_of_ble_eq_true rfl) (Nat.le_refl _) (Nat.le_refl _) hM (fun C N hp => ?_) (fun v N hp => ?_)
  · rcases hC C N hp with e | e
    · subst e
      refine ⟨[], ⟨0, 10, 13, 21⟩, [⟨0, 10, 17, 13⟩], _, rfl, fun z hz => (nomatch hz), rfl, by decide, kl_L_21, List.mem_of_getElem? (i := 2) rfl, ?_⟩
      refine hnd_w dL_move_13 (Nat.le_of_ble_eq_true rfl) rfl rfl ?_
      refine z_iconst (v := 1) dL_move_15 (by decide) rfl ?_
      exact z_ireturn dL_move_16 rfl (Or.inr ⟨_, hp, rfl⟩) (Nat.le_refl _) (Nat.le_refl _)
    · subst e
      refine ⟨[⟨0, 10, 13, 21⟩], ⟨0, 10, 17, 13⟩, [], _, rfl, fun z hz => by rw [List.mem_singleton.mp hz]; exact Or.inr ⟨by decide, _, kl_L_21, List.mem_of_getElem? (i := 1) rfl⟩, rfl, by decide, kl_L_13, List.mem_of_getElem? (i := 0) rfl, ?_⟩
      refine hnd_w dL_move_17 (Nat.le_of_ble_eq_true rfl) rfl rfl ?_
      refine z_iconst (v := 2) dL_move_19 (by decide) rfl ?_
      exact z_ireturn dL_move_20 rfl (Or.inr ⟨_, hp, rfl⟩) (Nat.le_refl _) (Nat.le_refl _)
  · obtain ⟨i, rfl⟩ := hv v N hp
    refine z_i2l dL_move_8 rfl ?_
    refine z_last dL_move_9 rfl ?_
    refine z_goto (tgt := 21) dL_move_10 (by decide) ?_
    refine z_iconst (v := 0) dL_move_21 (by decide) rfl ?_
    exact z_ireturn dL_move_22 rfl (Or.inl ⟨_, _, hp, rfl, rfl⟩) (Nat.le_refl _) (Nat.le_refl _)
abbrev mL_off : MT := (yL_off, cL_off, 4, some .int)
def hL_off : List (Nat × Nat × Nat × Nat) := [(0, 9, 12, 13)]
theorem cw_L_off : Cond.codeWith yL_off cL_off 4 (some .int) hL_off ∈ W0 := w0_4 26 rfl rfl
theorem sm_L_off : Cond.static yL_off ∈ W0 := w0_4 25 rfl rfl
def kL_off : String → Int32 := fun C => if C = xIA then 1 else 2
set_option maxHeartbeats 4000000 in
theorem c_L_off {l : Launch} {E : EnT} (hst : l.stackTraces = false) (M : Mem) (x : Int32) {d : Nat} {Po : Option Value ⊕ String → Mem → Prop} (hM : Mm l E mX6_off d 1 6 [.ref 0, .int x] M Po) (hv : ∀ v N, Po (.inl v) N → ∃ i, v = some (.int i)) (hC : ∀ C N, Po (.inr C) N → C = xIA) : MmW l E mL_off hL_off (d + 1) 1 6 [.ref 0, .int x, .ref 119] M (RW Po kL_off) := by
  refine MmW_of hst (by decide) rfl (Nat.le_of_ble_eq_true rfl) [some (.ref 0), some (.int x), some (.ref 119), none] rfl ?_
  refine z_aload_n dL_off_0 rfl rfl ?_
  refine z_iconst (v := 0) dL_off_1 (by decide) rfl ?_
  refine z_aload_n dL_off_2 rfl rfl ?_
  refine z_iload_n dL_off_3 rfl rfl ?_
  refine z_callX (y := mX6_off) (ci := 6) (nf := 7) (b := 0) (st := [.int 0, .ref 119]) (As := [.int x]) dL_off_4 ml_L_38 iv_X6_off (Nat.le_refl _) rfl (by decide) rfl rfl (Nat.le_of_ble_eq_true rfl) (Nat.le_refl _) (Nat.le_refl _) hM (fun C N hp => ?_) (fun v N hp => ?_)
  · have e := hC C N hp
    subst e
    refine ⟨[], ⟨0, 9, 12, 13⟩, [], _, rfl, fun z hz => (nomatch hz), rfl, by decide, kl_L_13, List.mem_of_getElem? (i := 0) rfl, ?_⟩
    refine hnd_n dL_off_12 (Nat.le_of_ble_eq_true rfl) rfl rfl ?_
    refine z_iconst (v := 1) dL_off_13 (by decide) rfl ?_
    exact z_ireturn dL_off_14 rfl (Or.inr ⟨_, hp, rfl⟩) (Nat.le_refl _) (Nat.le_refl _)
  · obtain ⟨i, rfl⟩ := hv v N hp
    refine z_i2l dL_off_7 rfl ?_
    refine z_last dL_off_8 rfl ?_
    refine z_goto (tgt := 15) dL_off_9 (by decide) ?_
    refine z_iconst (v := 0) dL_off_15 (by decide) rfl ?_
    exact z_ireturn dL_off_16 rfl (Or.inl ⟨_, _, hp, rfl, rfl⟩) (Nat.le_refl _) (Nat.le_refl _)
abbrev mL_train : MT := (yL_train, cL_train, 4, some .int)
def hL_train : List (Nat × Nat × Nat × Nat) := [(0, 9, 12, 13)]
theorem cw_L_train : Cond.codeWith yL_train cL_train 4 (some .int) hL_train ∈ W0 := w0_4 34 rfl rfl
theorem sm_L_train : Cond.static yL_train ∈ W0 := w0_4 33 rfl rfl
def kL_train : String → Int32 := fun C => if C = xIA then 1 else 2
set_option maxHeartbeats 4000000 in
theorem c_L_train {l : Launch} {E : EnT} (hst : l.stackTraces = false) (M : Mem) (x : Int32) {d : Nat} {Po : Option Value ⊕ String → Mem → Prop} (hM : Mm l E mX6_train d 1 6 [.ref 0, .int x] M Po) (hv : ∀ v N, Po (.inl v) N → ∃ i, v = some (.int i)) (hC : ∀ C N, Po (.inr C) N → C = xIA) : MmW l E mL_train hL_train (d + 1) 1 6 [.ref 0, .int x, .ref 119] M (RW Po kL_train) := by
  refine MmW_of hst (by decide) rfl (Nat.le_of_ble_eq_true rfl) [some (.ref 0), some (.int x), some (.ref 119), none] rfl ?_
  refine z_aload_n dL_train_0 rfl rfl ?_
  refine z_iconst (v := 0) dL_train_1 (by decide) rfl ?_
  refine z_aload_n dL_train_2 rfl rfl ?_
  refine z_iload_n dL_train_3 rfl rfl ?_
  refine z_callX (y := mX6_train) (ci := 6) (nf := 7) (b := 0) (st := [.int 0, .ref 119]) (As := [.int x]) dL_train_4 ml_L_41 iv_X6_train (Nat.le_refl _) rfl (by decide) rfl rfl (Nat.le_of_ble_eq_true rfl) (Nat.le_refl _) (Nat.le_refl _) hM (fun C N hp => ?_) (fun v N hp => ?_)
  · have e := hC C N hp
    subst e
    refine ⟨[], ⟨0, 9, 12, 13⟩, [], _, rfl, fun z hz => (nomatch hz), rfl, by decide, kl_L_13, List.mem_of_getElem? (i := 0) rfl, ?_⟩
    refine hnd_n dL_train_12 (Nat.le_of_ble_eq_true rfl) rfl rfl ?_
    refine z_iconst (v := 1) dL_train_13 (by decide) rfl ?_
    exact z_ireturn dL_train_14 rfl (Or.inr ⟨_, hp, rfl⟩) (Nat.le_refl _) (Nat.le_refl _)
  · obtain ⟨i, rfl⟩ := hv v N hp
    refine z_i2l dL_train_7 rfl ?_
    refine z_last dL_train_8 rfl ?_
    refine z_goto (tgt := 15) dL_train_9 (by decide) ?_
    refine z_iconst (v := 0) dL_train_15 (by decide) rfl ?_
    exact z_ireturn dL_train_16 rfl (Or.inl ⟨_, _, hp, rfl, rfl⟩) (Nat.le_refl _) (Nat.le_refl _)
