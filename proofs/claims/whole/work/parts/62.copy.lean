/-! System.arraycopy, from the front, between arrays of int -/
section ZC
variable {X : CT} {cu su pc pc' : Nat} {ls : List (Option Value)} {st : List Value} {M : Mem}
theorem ac_st : Cond.static arraycopyName ∈ W0 := w0_2 104 rfl rfl
theorem ac_nt : Cond.native arraycopyName ∈ W0 := w0_2 105 rfl rfl
theorem ac_in : Cond.initialized "java/lang/System" ∈ W0 := w0_1 21 rfl rfl
theorem ac_wd : nativeFrameWords "java/lang/System" "arraycopy" 5 ≤ 60 := by decide
theorem wl_fil {E : EnT} {M : Mem} {k n : Nat} {x : va_E} {f : Nat → Int32} (h : k < 120) (hx : x = ent E (fil M k 0 n f) k) : (wl E M).set k (eAd E k, x) = wl E (fil M k 0 n f) := by
  apply List.ext_getElem?
  intro a
  by_cases ha : a < 120
  · by_cases hk : a = k
    · subst hk
      rw [List.getElem?_set_self (by rw [wl_len]; exact ha), wl_at ha, hx]
    · rw [List.getElem?_set_ne (Ne.symm hk), wl_at ha, wl_at ha]
      congr 2
      unfold ent entT fv
      simp only [fil_oc (M := M) (o := 0) (n := n) (f := f) hk]
  · rw [List.getElem?_eq_none (by rw [List.length_set, wl_len]; omega), List.getElem?_eq_none (by rw [wl_len]; omega)]
theorem z_copy {ix k0 k1 n0 n1 m : Nat} {n : Int32} (hd : decode (xb X) pc = .ok (.invokestatic ix, 3)) (hw : Cond.methodLink (xo X) ix arraycopyName ∈ W0) (hdp : 2 ≤ X.2.2.2.2.1) (hst : (st.map fun v => v.category).sum ≤ 8) (hk0 : knd k0 = (10, n0)) (hk1 : knd k1 = (10, n1)) (hm : n = nI m) (h0 : m ≤ n0) (h1 : m ≤ n1) (hm31 : m < 2 ^ 31) (hn : pc + 3 = pc') (h : Zz X cu su pc' ls st (fil M k1 0 m (M k0))) : Zz X cu su pc ls (.int n :: .int 0 :: .ref k1 :: .int 0 :: .ref k0 :: st) M := by
  subst hm
  subst hn
  intro p e s mm args below meth c H locs lsA C
  obtain ⟨⟨hx, hb, hr, hml, hown, hts, hlk, htb, hls⟩, ⟨hK, hSt, hsz⟩, ⟨hP, hD, hS⟩, hl⟩ := id C
  have z0 : ((0 : Int32)).toNatClampNeg = 0 := rfl
  refine va_copyi hx hb (by rw [hml]; exact hl.1.symm) hown (hts _ hw) (hts _ ac_nt) (hts _ ac_st) (hts _ ac_in) hK hP hD hS k0 k1 0 0 ((wl_at (knd_120 hk0 (by decide))).trans (by rw [ent_10 hk0])) ((wl_at (knd_120 hk1 (by decide))).trans (by rw [ent_10 hk1])) rfl rfl rfl (by decide) (by decide) (nI_pos hm31) (by rw [z0, nI_clamp hm31]; omega) (by rw [z0, nI_clamp hm31]; omega) (fun i hi => rfl) (by show 1 ≤ X.2.2.2.2.1; omega) ?_ hd (fun H1 locs1 hP1 hD1 hS1 => ?_)
  · have hcats : (((st.map (trv (eAd X.2.1))).map fun v => v.category).sum) ≤ 8 := by
      rw [List.map_map, show ((fun v : Value => v.category) ∘ trv (eAd X.2.1)) = fun v => v.category from funext fun v => trv_cat _ v]
      exact hst
    have := ac_wd
    show _ ≤ 40 * X.2.2.2.2.1
    omega
  · rw [z0, nI_clamp hm31, wl_fil (n := m) (f := M k0) (knd_120 hk1 (by decide)) (by
      rw [ent_10 hk1]
      congr 4
      funext b
      unfold va_cpy fil
      by_cases q : b < m
      · rw [if_pos (by omega), if_pos (by omega)]; congr 1; omega
      · rw [if_neg (by omega), if_neg (by omega)])] at hP1 hD1
    exact h p e s mm args below meth c H1 locs1 lsA ⟨C.1, C.2.1, ⟨hP1, hD1, hS1⟩, hl⟩
end ZC
