/-! the words: String.length, String.charAt -/
def hVw (E : EnT) : Prop := ∀ i, i < 8 → eAd E (3000 + i) = eV E i
def wl8 (i : Nat) : Nat := wlen.getD i 0
def wb8 (i j : Nat) : Int32 := (wbyt.getD i []).getD j 0
section ZS
variable {X : CT} {cu su pc pc' d : Nat} {ls : List (Option Value)} {st : List Value} {M : Mem}
theorem z_getCS {ix : Nat} (hd : decode (xb X) pc = .ok (.getstatic ix, 3)) (hw : Cond.fieldLink (xo X) ix RJ0 "COMPACT_STRINGS" "Z" ∈ W0) (hn : pc + 3 = pc') (h : Zz X cu su pc' ls (.int 1 :: st) M) : Zz X cu su pc ls st M := by
  subst hn
  intro p e s m args below meth c H locs lsA C
  obtain ⟨⟨hx, hb, hr, hml, hown, hts, hlk, htb, hls⟩, ⟨hK, hSt, hsz⟩, ⟨hP, hD, hS⟩, hl⟩ := id C
  exact va_gets hx hb hSt.2.2.2.2.1 hS hown (hts _ hw) (fun _ q => q) hd (h p e s m args below meth c H locs lsA C)
theorem z_getSc {ix i : Nat} (hd : decode (xb X) pc = .ok (.getfield ix, 3)) (hw : Cond.fieldLink (xo X) ix "java/lang/String" "coder" "B" ∈ W0) (hi : i < 8) (hn : pc + 3 = pc') (h : Zz X cu su pc' ls (.int 0 :: st) M) : Zz X cu su pc ls (.ref (1000 + i) :: st) M := by
  subst hn
  intro p e s m args below meth c H locs lsA C
  obtain ⟨⟨hx, hb, hr, hml, hown, hts, hlk, htb, hls⟩, ⟨hK, hSt, hsz⟩, ⟨hP, hD, hS⟩, hl⟩ := id C
  exact vk_getf hx hb (hSt.2.2.2.1.1 i hi).2.1 hS hown (hts _ hw) (fun _ q => q) hd (h p e s m args below meth c H locs lsA C)
theorem z_getSv {ix i : Nat} (hV : hVw X.2.1) (hd : decode (xb X) pc = .ok (.getfield ix, 3)) (hw : Cond.fieldLink (xo X) ix "java/lang/String" "value" "[B" ∈ W0) (hi : i < 8) (hn : pc + 3 = pc') (h : Zz X cu su pc' ls (.ref (3000 + i) :: st) M) : Zz X cu su pc ls (.ref (1000 + i) :: st) M := by
  subst hn
  intro p e s m args below meth c H locs lsA C
  obtain ⟨⟨hx, hb, hr, hml, hown, hts, hlk, htb, hls⟩, ⟨hK, hSt, hsz⟩, ⟨hP, hD, hS⟩, hl⟩ := id C
  have h9 := h p e s m args below meth c H locs lsA C
  have e9 : (Value.ref (3000 + i) :: st).map (trv (eAd X.2.1)) = .ref (eV X.2.1 i) :: st.map (trv (eAd X.2.1)) := by
    show Value.ref (eAd X.2.1 (3000 + i)) :: _ = _
    rw [hV i hi]
  rw [e9] at h9
  exact vk_getf hx hb (hSt.2.2.2.1.1 i hi).2.2.1 hS hown (hts _ hw) (fun _ q => q) hd h9
theorem z_tlen {i : Nat} (hV : hVw X.2.1) (hd : decode (xb X) pc = .ok (.arraylength, 1)) (hi : i < 8) (hn : pc + 1 = pc') (h : Zz X cu su pc' ls (.int (nI (wl8 i)) :: st) M) : Zz X cu su pc ls (.ref (3000 + i) :: st) M := by
  subst hn
  intro p e s m args below meth c H locs lsA C
  obtain ⟨⟨hx, hb, hr, hml, hown, hts, hlk, htb, hls⟩, ⟨hK, hSt, hsz⟩, ⟨hP, hD, hS⟩, hl⟩ := id C
  have hT := (hSt.2.2.2.1.1 i hi).2.2.2
  rw [← hV i hi] at hT
  exact va_tlen hx hb hT hS rfl hd (h p e s m args below meth c H locs lsA C)
theorem z_tb {i j : Nat} (hV : hVw X.2.1) (hd : decode (xb X) pc = .ok (.baload, 1)) (hi : i < 8) (hj : j < wl8 i) (hj2 : j < 2 ^ 31) (hn : pc + 1 = pc') (h : Zz X cu su pc' ls (.int (wb8 i j) :: st) M) : Zz X cu su pc ls (.int (nI j) :: .ref (3000 + i) :: st) M := by
  subst hn
  intro p e s m args below meth c H locs lsA C
  obtain ⟨⟨hx, hb, hr, hml, hown, hts, hlk, htb, hls⟩, ⟨hK, hSt, hsz⟩, ⟨hP, hD, hS⟩, hl⟩ := id C
  have hT := (hSt.2.2.2.1.1 i hi).2.2.2
  rw [← hV i hi] at hT
  refine va_tb hx hb hT hS (vp_in_nI hj (Nat.lt_of_le_of_lt (show wl8 i ≤ 5 from by unfold wl8; rcases (by omega : i = 0 ∨ i = 1 ∨ i = 2 ∨ i = 3 ∨ i = 4 ∨ i = 5 ∨ i = 6 ∨ i = 7) with e | e | e | e | e | e | e | e <;> subst e <;> decide) (by decide))) (v := .int (wb8 i j)) ?_ hd (h p e s m args below meth c H locs lsA C)
  rw [nI_clamp hj2]; rfl
/-- an invokevirtual on one of the words -/
theorem z_callT {y : MT} {ix n i : Nat} {As : List Value} {Po : Option Value ⊕ String → Mem → Prop} (hd : decode (xb X) pc = .ok (.invokevirtual ix, 3)) (hw : Cond.methodLink (xo X) ix y.1 ∈ W0) (hi : InsV y n) (hdp : d + 1 ≤ X.2.2.2.2.1) (hi8 : i < 8) (hC : y.1.cls = "java/lang/String") (hlen : As.length = n) (hst : (st.map fun v => v.category).sum ≤ 8) (hcu : cu ≤ X.2.2.2.2.2.1) (hsu : su ≤ X.2.2.2.2.2.2.1)
    (hM : Mm X.1 X.2.1 y d 0 0 (.ref (1000 + i) :: As) M Po) (hnx : ∀ C M', ¬ Po (.inr C) M') (h : ∀ v M', Po (.inl v) M' → Zz X cu su (pc + 3) ls (v.toList ++ st) M') : Zz X cu su pc ls (As.reverse ++ .ref (1000 + i) :: st) M := by
  intro p e s m args below meth c H locs lsA C
  obtain ⟨⟨hx, hb, hr, hml, hown, hts, hlk, htb, hls⟩, ⟨hK, hSt, hsz⟩, ⟨hP, hD, hS⟩, hl⟩ := id C
  obtain ⟨i1, i2, i3, i4, i5, i6, i7⟩ := hi
  have hlo : 8 + (y.2.2.1 + 11) + (rmz d 0 0).locals ≤ (rmz X.2.2.2.2.1 X.2.2.2.2.2.1 X.2.2.2.2.2.2.1).locals := by
    show 8 + (y.2.2.1 + 11) + 40 * d ≤ 40 * X.2.2.2.2.1
    omega
  have cb : CallB (rmz X.2.2.2.2.1 X.2.2.2.2.2.1 X.2.2.2.2.2.2.1) s args (xo X) ix y.1 y.2.1 y.2.2.1 y.2.2.2 (wsy y) (rmz d 0 0) 0 0 n :=
    callB_of (ws' := W0) n hts (wsy_good i1) rfl rfl rfl (hts _ i4) (hts _ hw) ⟨i5.1, i5.2, i6⟩ ⟨hdp, hlo⟩
  have hcats : (((st.map (trv (eAd X.2.1))).map fun v => v.category).sum) ≤ 8 := by
    rw [List.map_map, show ((fun v : Value => v.category) ∘ trv (eAd X.2.1)) = fun v => v.category from funext fun v => trv_cat _ v]
    exact hst
  refine z_back (st := st) (pc := pc) C (vx_runV (C := y.1.cls) (b := eAd X.2.1 (1000 + i)) (As := As.map (trv (eAd X.2.1))) (rest := st.map (trv (eAd X.2.1))) (Ts := W0) (own := xo X) (nL := xn X) ⟨hx, hb, hml, hown, hts⟩ hM ⟨cb, hts _ i2, hts _ i3⟩ ⟨Pre.blind, by rw [hC]; exact vk_recv (i := i) (adK := fun i => eAd X.2.1 (1000 + i)) hSt.2.2.2.1 hi8 hS, fun U hU hW => ?_⟩ rfl (by rw [List.length_map]; exact hlen) hl.1 ?_ (lv_room hcats) hd ⟨hcu, hsu⟩) hnx (fun v M' hv => h v M' hv)
  · refine ⟨rfl, va_K.moved hW.alike hK, hSt.next hsz hW (by rw [hU]; exact hS.2.1), ?_, by rw [hU]; exact hP, hD⟩
    rw [hU]; exact Nat.le_trans hsz hS.1
  · show (As.reverse ++ .ref (1000 + i) :: st).map (trv (eAd X.2.1)) = (As.map (trv (eAd X.2.1))).reverse ++ .ref (eAd X.2.1 (1000 + i)) :: st.map (trv (eAd X.2.1))
    rw [List.map_append, List.map_reverse]; rfl
theorem z_Sv0 {y : MT} {ix i : Nat} {v : Value} {M' : Mem} (hd : decode (xb X) pc = .ok (.invokevirtual ix, 3)) (hw : Cond.methodLink (xo X) ix y.1 ∈ W0) (hi : InsV y 0) (hdp : d + 1 ≤ X.2.2.2.2.1) (hst : (st.map fun v => v.category).sum ≤ 8) (hcu : cu ≤ X.2.2.2.2.2.1) (hsu : su ≤ X.2.2.2.2.2.2.1) (hM : Mm X.1 X.2.1 y d 0 0 [.ref (1000 + i)] M (Rt (some v) M')) (hn : pc + 3 = pc') (h : Zz X cu su pc' ls (v :: st) M') (hC : y.1.cls = "java/lang/String" := by rfl) (hi8 : i < 8 := by omega) : Zz X cu su pc ls (.ref (1000 + i) :: st) M := by
  subst hn
  exact z_callT (As := []) hd hw hi hdp hi8 hC rfl hst hcu hsu hM Rt_nx (fun u N q => by obtain ⟨q1, q2⟩ := q; cases q1; rw [q2]; exact h)
theorem z_Sv1 {y : MT} {ix i : Nat} {a1 v : Value} {M' : Mem} (hd : decode (xb X) pc = .ok (.invokevirtual ix, 3)) (hw : Cond.methodLink (xo X) ix y.1 ∈ W0) (hi : InsV y 1) (hdp : d + 1 ≤ X.2.2.2.2.1) (hst : (st.map fun v => v.category).sum ≤ 8) (hcu : cu ≤ X.2.2.2.2.2.1) (hsu : su ≤ X.2.2.2.2.2.2.1) (hM : Mm X.1 X.2.1 y d 0 0 [.ref (1000 + i), a1] M (Rt (some v) M')) (hn : pc + 3 = pc') (h : Zz X cu su pc' ls (v :: st) M') (hC : y.1.cls = "java/lang/String" := by rfl) (hi8 : i < 8 := by omega) : Zz X cu su pc ls (a1 :: .ref (1000 + i) :: st) M := by
  subst hn
  exact z_callT (As := [a1]) hd hw hi hdp hi8 hC rfl hst hcu hsu hM Rt_nx (fun u N q => by obtain ⟨q1, q2⟩ := q; cases q1; rw [q2]; exact h)
end ZS
set_option maxHeartbeats 4000000 in
theorem c_J0_coder {l : Launch} {E : EnT} (hst : l.stackTraces = false) (M : Mem) (i : Nat) (hi : i < 8) : Mm l E mJ0_coder_7d493 0 0 0 [.ref (1000 + i)] M (Rt (some (.int 0)) M) := by
  refine Mm_go hst (by decide) rfl (Nat.le_of_ble_eq_true rfl) [some (.ref (1000 + i))] rfl ?_
  refine z_getCS dJ0_coder_7d493_0 fl_J0_38 rfl ?_
  refine z_if_eq (tgt := 13) dJ0_coder_7d493_3 (by decide) rfl (fun g => ?_) (fun g => ?_)
  · exact absurd g (by decide)
  · refine z_aload_n dJ0_coder_7d493_6 rfl rfl ?_
    refine z_getSc dJ0_coder_7d493_7 fl_J0_15 hi rfl ?_
    refine z_goto (tgt := 14) dJ0_coder_7d493_10 (by decide) ?_
    exact z_zreturn dJ0_coder_7d493_14 rfl rfl ⟨rfl, rfl⟩ (Nat.le_of_ble_eq_true rfl) (Nat.le_of_ble_eq_true rfl)
set_option maxHeartbeats 4000000 in
theorem c_J0_isLatin1 {l : Launch} {E : EnT} (hst : l.stackTraces = false) (M : Mem) (i : Nat) (hi : i < 8) : Mm l E mJ0_isLatin1_aae02 0 0 0 [.ref (1000 + i)] M (Rt (some (.int 1)) M) := by
  refine Mm_go hst (by decide) rfl (Nat.le_of_ble_eq_true rfl) [some (.ref (1000 + i))] rfl ?_
  refine z_getCS dJ0_isLatin1_aae02_0 fl_J0_38 rfl ?_
  refine z_if_eq (tgt := 17) dJ0_isLatin1_aae02_3 (by decide) rfl (fun g => ?_) (fun g => ?_)
  · exact absurd g (by decide)
  · refine z_aload_n dJ0_isLatin1_aae02_6 rfl rfl ?_
    refine z_getSc dJ0_isLatin1_aae02_7 fl_J0_15 hi rfl ?_
    refine z_if_ne (tgt := 17) dJ0_isLatin1_aae02_10 (by decide) rfl (fun g => ?_) (fun g => ?_)
    · exact absurd rfl g
    · refine z_iconst (v := 1) dJ0_isLatin1_aae02_13 (by decide) rfl ?_
      refine z_goto (tgt := 18) dJ0_isLatin1_aae02_14 (by decide) ?_
      exact z_zreturn dJ0_isLatin1_aae02_18 rfl rfl ⟨rfl, rfl⟩ (Nat.le_of_ble_eq_true rfl) (Nat.le_of_ble_eq_true rfl)
theorem wl8_sh : ∀ i, i < 8 → nI (wl8 i) >>> ((0 : Int32) &&& 31) = nI (wl8 i) := by decide
set_option maxHeartbeats 4000000 in
theorem c_J0_length {l : Launch} {E : EnT} (hst : l.stackTraces = false) (hV : hVw E) (M : Mem) (i : Nat) (hi : i < 8) : Mm l E mJ0_length_8abf5 1 0 0 [.ref (1000 + i)] M (Rt (some (.int (nI (wl8 i)))) M) := by
  refine Mm_go hst (by decide) rfl (Nat.le_of_ble_eq_true rfl) [some (.ref (1000 + i))] rfl ?_
  refine z_aload_n dJ0_length_8abf5_0 rfl rfl ?_
  refine z_getSv hV dJ0_length_8abf5_1 fl_J0_9 hi rfl ?_
  refine z_tlen hV dJ0_length_8abf5_4 hi rfl ?_
  refine z_aload_n dJ0_length_8abf5_5 rfl rfl ?_
  refine z_Sv0 (y := mJ0_coder_7d493) dJ0_length_8abf5_6 ml_J0_335 iv_J0_coder_7d493 (Nat.le_of_ble_eq_true rfl) (Nat.le_of_ble_eq_true rfl) (Nat.le_of_ble_eq_true rfl) (Nat.le_of_ble_eq_true rfl) (c_J0_coder hst M i hi) rfl ?_
  refine z_ishr dJ0_length_8abf5_9 rfl ?_
  refine z_tp (b := (nI (wl8 i))) (wl8_sh i hi) ?_
  exact z_ireturn dJ0_length_8abf5_10 rfl ⟨rfl, rfl⟩ (Nat.le_of_ble_eq_true rfl) (Nat.le_of_ble_eq_true rfl)
/-! the index is looked at; what would be thrown is handed on unread -/
def PreR (E : EnT) (As : List Value) (M : Mem) : Array Value → State → Prop := fun a U =>
  a = As.toArray ∧ va_K (eD E) vwCl (etys E) U ∧ St E U U.heap ∧ eS E ≤ U.heap.size ∧ va_P (eD E) vwCl (wl E M) U.heap ∧ va_D (eA E) (wl E M)
theorem PreR.blind {E : EnT} {As : List Value} {M : Mem} : FrameBlind (PreR E As M) := fun a U g mk q => by
  obtain ⟨h1, h2, h3, h4, h5, h6⟩ := q
  exact ⟨h1, va_K.moved (u := U) (U := U.calling g mk a) (Vm.Alike.refl U.vm) h2, St.same (u := U) (U := U.calling g mk a) h3 rfl, h4, h5, h6⟩
theorem M3_of {l : Launch} {E : EnT} {y : MT} {d : Nat} {M : Mem} {Post : Option Value ⊕ String → Mem → Prop} (hst : l.stackTraces = false) (hp : plainName y.1.cls = true) {a b : Int32} {v : Value} (hv9 : v.category = 1) (hy : y.2.2.1 = 3) (body : Zz (l, E, y, [], d, 0, 0, FinP E Post 0 0) 0 0 0 [some (.int a), some (.int b), none] [] M) : vx_Met l y.1 (wsy y) (rmz d 0 0) (PreR E [.int a, .int b, v] M) (Qr E Post) (Qx E Post) 0 0 (eA E) := by
  refine vx_ofW (cc := y.2.1) (maxL := y.2.2.1) (ret := y.2.2.2) hp rfl ?_
  intro p e s m args below meth c s₁ B hml hex hv
  obtain ⟨rfl, hK, hSt, hsz, hP, hD⟩ := hv
  have hts := atoms_spec (ws := wsy y) B.pre
  have hcat : ∀ u ∈ [Value.int a, .int b, v], u.category = 1 := fun u hu => by
    rcases List.mem_cons.mp hu with h | hu
    · subst h; rfl
    · rcases List.mem_cons.mp hu with h | hu
      · subst h; rfl
      · rw [List.mem_singleton.mp hu]; exact hv9
  have hl := lv_entry [Value.int a, .int b, v] (n := y.2.2.1) (by rw [lg_len hcat, hy]; exact Nat.le_refl 3)
  rw [lg_entry_eq]
  refine body p e s m _ below meth c s.heap [] _ ⟨⟨B.exec, B.bytes, B.returns, hml, findClass_of_methodNamed B.named, fun w hw => hts w (List.mem_cons_of_mem _ hw), B.notSynchronized, List.eq_nil_iff_forall_not_mem.mpr hex, hst⟩, ⟨hK, hSt, hsz⟩, ⟨hP, hD, va_S.rf⟩, hl.1, hl.2.1, fun q hq => hl.2.2 q ?_⟩
  have hq : q ∈ [(0, Value.int a), (1, Value.int b)] := hq
  rcases List.mem_cons.mp hq with h | hq
  · subst h; exact List.mem_cons_self
  · rw [List.mem_singleton.mp hq]
    exact List.mem_cons_of_mem _ List.mem_cons_self
set_option maxHeartbeats 4000000 in
theorem c_J3_checkIndex {l : Launch} {E : EnT} (hst : l.stackTraces = false) (M : Mem) (j n : Nat) (hj : j < n) (hn : n < 2 ^ 31) {v : Value} (hv : v.category = 1) : vx_Met l mJ3_checkIndex_8e157.1 (wsy mJ3_checkIndex_8e157) (rmz 0 0 0) (PreR E [.int (nI j), .int (nI n), v] M) (Qr E (Rt (some (.int (nI j))) M)) (Qx E (Rt (some (.int (nI j))) M)) 0 0 (eA E) := by
  refine M3_of hst (by decide) hv rfl ?_
  refine z_iload_n dJ3_checkIndex_8e157_0 rfl rfl ?_
  refine z_if_lt (tgt := 9) dJ3_checkIndex_8e157_1 (by decide) rfl (fun g => ?_) (fun g => ?_)
  · exact absurd g (nI_pos (by omega))
  · refine z_iload_n dJ3_checkIndex_8e157_4 rfl rfl ?_
    refine z_iload_n dJ3_checkIndex_8e157_5 rfl rfl ?_
    refine z_icmp_lt (tgt := 16) dJ3_checkIndex_8e157_6 (by decide) rfl (fun g1 => ?_) (fun g1 => ?_)
    · refine z_iload_n dJ3_checkIndex_8e157_16 rfl rfl ?_
      exact z_ireturn dJ3_checkIndex_8e157_17 rfl ⟨rfl, rfl⟩ (Nat.le_of_ble_eq_true rfl) (Nat.le_of_ble_eq_true rfl)
    · exact absurd (nI_lt hj hn) g1
set_option maxHeartbeats 4000000 in
theorem z_fmt {l : Launch} {E : EnT} {Post : Option Value ⊕ String → Mem → Prop} {ls : List (Option Value)} {M : Mem} (hst : l.stackTraces = false) {j n : Nat} (hj : j < n) (hn : n < 2 ^ 31) (h : Zz (zx l E mJ0_checkIndex_df160 1 Post) 0 0 8 ls [.int (nI j)] M) : Zz (zx l E mJ0_checkIndex_df160 1 Post) 0 0 2 ls [.int (nI n), .int (nI j)] M := by
  intro p e s m args below meth c H locs lsA C
  obtain ⟨⟨hx, hb, hr, hml, hown, hts, hlk, htb, hls⟩, ⟨hK, hSt, hsz⟩, ⟨hP, hD, hS⟩, hl⟩ := id C
  obtain ⟨i1, i2, i4, i5, i6, i7⟩ := iv_J3_checkIndex_8e157
  have cb : CallB (rmz 1 0 0) s args RJ0 1059 mJ3_checkIndex_8e157.1 mJ3_checkIndex_8e157.2.1 mJ3_checkIndex_8e157.2.2.1 mJ3_checkIndex_8e157.2.2.2 (wsy mJ3_checkIndex_8e157) (rmz 0 0 0) 0 0 3 :=
    callB_of (ws' := W0) 3 hts (wsy_good i1) rfl rfl rfl (hts _ i4) (hts _ ml_J0_1059) ⟨i5.1, i5.2, i6⟩ ⟨by decide, by decide⟩
  have key : ∀ v : Value, v.category = 1 → W p l e (rmz 1 0 0) s m args below meth c H locs 0 0 (FinP E Post 0 0 below args s) (F0 m 5 lsA (v :: .int (nI n) :: .int (nI j) :: [])) := fun v hv => by
    refine z_back (X := zx l E mJ0_checkIndex_df160 1 Post) (st := []) (pc := 5) C (vx_runS (As := [.int (nI j), .int (nI n), v]) (rest := []) (Ts := W0) (own := RJ0) (nL := 2) ⟨hx, hb, hml, hown, hts⟩ (c_J3_checkIndex hst M j n hj hn hv) ⟨cb, hts _ i2⟩ ⟨PreR.blind, fun U hU hW => ?_⟩ rfl rfl hl.1 rfl (lv_room (by decide)) dJ0_checkIndex_df160_5 ⟨Nat.le_refl _, Nat.le_refl _⟩) Rt_nx (fun v M' q => by obtain ⟨q1, q2⟩ := q; cases q1; rw [q2]; exact h)
    refine ⟨rfl, va_K.moved hW.alike hK, hSt.next hsz hW (by rw [hU]; exact hS.2.1), ?_, by rw [hU]; exact hP, hD⟩
    rw [hU]; exact Nat.le_trans hsz hS.1
  rcases hSt.2.2.2.2.2.1 with hZ | ⟨t, hZ⟩
  · exact va_gets hx hb hZ hS hown (hts _ fl_J0_1053) (fun _ q => q) dJ0_checkIndex_df160_2 (key .null rfl)
  · exact va_gets hx hb hZ hS hown (hts _ fl_J0_1053) (fun _ q => q) dJ0_checkIndex_df160_2 (key (.ref t) rfl)
set_option maxHeartbeats 4000000 in
theorem c_J0_checkIndex {l : Launch} {E : EnT} (hst : l.stackTraces = false) (M : Mem) (j n : Nat) (hj : j < n) (hn : n < 2 ^ 31) : Mm l E mJ0_checkIndex_df160 1 0 0 [.int (nI j), .int (nI n)] M (Rt none M) := by
  refine Mm_go hst (by decide) rfl (Nat.le_of_ble_eq_true rfl) [some (.int (nI j)), some (.int (nI n))] rfl ?_
  refine z_iload_n dJ0_checkIndex_df160_0 rfl rfl ?_
  refine z_iload_n dJ0_checkIndex_df160_1 rfl rfl ?_
  refine z_fmt hst hj hn ?_
  refine z_pop dJ0_checkIndex_df160_8 rfl rfl ?_
  exact z_return dJ0_checkIndex_df160_9 rfl ⟨rfl, rfl⟩ (Nat.le_of_ble_eq_true rfl) (Nat.le_of_ble_eq_true rfl)
theorem wl8_5 : ∀ i, i < 8 → wl8 i ≤ 5 := by decide
theorem wb8_c : ∀ i, i < 8 → ∀ j, j < 5 → ((wb8 i j &&& 255).toUInt32 % 65536).toInt32 = wb8 i j := by decide
theorem wb8_nar {i j : Nat} (hi : i < 8) (hj : j < 5) : narrow .char (.int (wb8 i j)) = .int (wb8 i j) := by
  rcases (by omega : i = 0 ∨ i = 1 ∨ i = 2 ∨ i = 3 ∨ i = 4 ∨ i = 5 ∨ i = 6 ∨ i = 7) with e | e | e | e | e | e | e | e <;> subst e <;> rcases (by omega : j = 0 ∨ j = 1 ∨ j = 2 ∨ j = 3 ∨ j = 4) with e | e | e | e | e <;> subst e <;> rfl
set_option maxHeartbeats 4000000 in
theorem c_J1_charAt {l : Launch} {E : EnT} (hst : l.stackTraces = false) (hV : hVw E) (M : Mem) (i j : Nat) (hi : i < 8) (hj : j < wl8 i) : Mm l E mJ1_charAt_3b067 2 0 0 [.ref (3000 + i), .int (nI j)] M (Rt (some (.int (wb8 i j))) M) := by
  have h5 := wl8_5 i hi
  refine Mm_go hst (by decide) rfl (Nat.le_of_ble_eq_true rfl) [some (.ref (3000 + i)), some (.int (nI j))] rfl ?_
  refine z_iload_n dJ1_charAt_3b067_0 rfl rfl ?_
  refine z_aload_n dJ1_charAt_3b067_1 rfl rfl ?_
  refine z_tlen hV dJ1_charAt_3b067_2 hi rfl ?_
  refine z_sn2 (y := mJ0_checkIndex_df160) dJ1_charAt_3b067_3 ml_J1_9 iv_J0_checkIndex_df160 (Nat.le_of_ble_eq_true rfl) (Nat.le_of_ble_eq_true rfl) (Nat.le_of_ble_eq_true rfl) (Nat.le_of_ble_eq_true rfl) (c_J0_checkIndex hst M j (wl8 i) hj (by omega)) rfl ?_
  refine z_aload_n dJ1_charAt_3b067_6 rfl rfl ?_
  refine z_iload_n dJ1_charAt_3b067_7 rfl rfl ?_
  refine z_tb hV dJ1_charAt_3b067_8 hi hj (by omega) rfl ?_
  refine z_sipush (v := 255) dJ1_charAt_3b067_9 (by decide) rfl ?_
  refine z_iand dJ1_charAt_3b067_12 rfl ?_
  refine z_i2c dJ1_charAt_3b067_13 rfl ?_
  refine z_tp (b := (wb8 i j)) (wb8_c i hi j (by omega)) ?_
  exact z_zreturn dJ1_charAt_3b067_14 rfl (wb8_nar hi (by omega)) ⟨rfl, rfl⟩ (Nat.le_of_ble_eq_true rfl) (Nat.le_of_ble_eq_true rfl)
set_option maxHeartbeats 4000000 in
theorem c_J0_charAt {l : Launch} {E : EnT} (hst : l.stackTraces = false) (hV : hVw E) (M : Mem) (i j : Nat) (hi : i < 8) (hj : j < wl8 i) : Mm l E mJ0_charAt_5068e 3 0 0 [.ref (1000 + i), .int (nI j)] M (Rt (some (.int (wb8 i j))) M) := by
  have h5 := wl8_5 i hi
  refine Mm_go hst (by decide) rfl (Nat.le_of_ble_eq_true rfl) [some (.ref (1000 + i)), some (.int (nI j))] rfl ?_
  refine z_aload_n dJ0_charAt_5068e_0 rfl rfl ?_
  refine z_Sv0 (y := mJ0_isLatin1_aae02) dJ0_charAt_5068e_1 ml_J0_492 iv_J0_isLatin1_aae02 (Nat.le_of_ble_eq_true rfl) (Nat.le_of_ble_eq_true rfl) (Nat.le_of_ble_eq_true rfl) (Nat.le_of_ble_eq_true rfl) (c_J0_isLatin1 hst M i hi) rfl ?_
  refine z_if_eq (tgt := 16) dJ0_charAt_5068e_4 (by decide) rfl (fun g => ?_) (fun g => ?_)
  · exact absurd g (by decide)
  · refine z_aload_n dJ0_charAt_5068e_7 rfl rfl ?_
    refine z_getSv hV dJ0_charAt_5068e_8 fl_J0_9 hi rfl ?_
    refine z_iload_n dJ0_charAt_5068e_11 rfl rfl ?_
    refine z_sv2 (y := mJ1_charAt_3b067) dJ0_charAt_5068e_12 ml_J0_495 iv_J1_charAt_3b067 (Nat.le_of_ble_eq_true rfl) (Nat.le_of_ble_eq_true rfl) (Nat.le_of_ble_eq_true rfl) (Nat.le_of_ble_eq_true rfl) (c_J1_charAt hst hV M i j hi hj) rfl ?_
    exact z_zreturn dJ0_charAt_5068e_15 rfl (wb8_nar hi (by omega)) ⟨rfl, rfl⟩ (Nat.le_of_ble_eq_true rfl) (Nat.le_of_ble_eq_true rfl)
