/-! the law's calls of its wrappers -/
section ZL
variable {X : CT} {cu su pc pc' d : Nat} {ls : List (Option Value)} {st : List Value} {M : Mem}
theorem z_callW {y : MT} {hh : List (Nat × Nat × Nat × Nat)} {ix n : Nat} {As : List Value} {Po : Option Value ⊕ String → Mem → Prop} (hd : decode (xb X) pc = .ok (.invokestatic ix, 3)) (hw : Cond.methodLink (xo X) ix y.1 ∈ W0) (hcw : Cond.codeWith y.1 y.2.1 y.2.2.1 y.2.2.2 hh ∈ W0) (hsm : Cond.static y.1 ∈ W0) (hin : Cond.initialized y.1.cls ∈ W0) (hy : y.1.cls ≠ "java/lang/invoke/MethodHandle" ∧ y.1.cls ≠ "java/lang/invoke/VarHandle") (hds : (parseMethodDescriptor y.1.desc).map (fun d => d.parameters.length) = some n) (hmx : y.2.2.1 ≤ 21) (hdp : d + 1 ≤ X.2.2.2.2.1) (hlen : As.length = n) (hst : (st.map fun v => v.category).sum ≤ 8) (hcu : cu + 1 ≤ X.2.2.2.2.2.1) (hsu : su + 6 ≤ X.2.2.2.2.2.2.1)
    (hM : MmW X.1 X.2.1 y hh d 1 6 As M Po) (hnx : ∀ C M', ¬ Po (.inr C) M') (h : ∀ v M', Po (.inl v) M' → Zz X (cu + 1) (su + 6) (pc + 3) ls (v.toList ++ st) M') : Zz X cu su pc ls (As.reverse ++ st) M := by
  intro p e s m args below meth c H locs lsA C
  obtain ⟨⟨hx, hb, hr, hml, hown, hts, hlk, htb, hls⟩, ⟨hK, hSt, hsz⟩, ⟨hP, hD, hS⟩, hl⟩ := id C
  have hlo : 8 + (y.2.2.1 + 11) + (rmz d 1 6).locals ≤ (rmz X.2.2.2.2.1 X.2.2.2.2.2.1 X.2.2.2.2.2.2.1).locals := by
    show 8 + (y.2.2.1 + 11) + 40 * d ≤ 40 * X.2.2.2.2.1
    omega
  have hG : GoodIn W0 (va_wsS (xo X) ix y.1 (wsW y hh)) := fun w hw2 => by
    have hm : w ∈ W0 := by
      unfold va_wsS wsW at hw2
      rcases List.mem_append.mp hw2 with q | q
      · rcases List.mem_cons.mp q with q | q
        · subst q; exact hw
        · rcases List.mem_cons.mp q with q | q
          · subst q; exact hsm
          · rw [List.mem_singleton.mp q]; exact hin
      · rcases List.mem_cons.mp q with q | q
        · subst q; exact hcw
        · exact q
    exact W0_good w hm
  have cb : vx_CSW (rmz X.2.2.2.2.1 X.2.2.2.2.2.1 X.2.2.2.2.2.2.1) s args (xo X) ix y.1 y.2.1 y.2.2.1 y.2.2.2 hh (wsW y hh) (rmz d 1 6) 1 6 n := vx_cwSW (ws' := W0) n hts hG rfl rfl rfl ⟨hy.1, hy.2, hds⟩ ⟨hdp, hlo⟩
  have hcats : (((st.map (trv (eAd X.2.1))).map fun v => v.category).sum) ≤ 8 := by
    rw [List.map_map, show ((fun v : Value => v.category) ∘ trv (eAd X.2.1)) = fun v => v.category from funext fun v => trv_cat _ v]
    exact hst
  refine z_back (st := st) (pc := pc) C (vx_runSX (As := As.map (trv (eAd X.2.1))) (rest := st.map (trv (eAd X.2.1))) (Ts := W0) (own := xo X) (nL := xn X) ⟨hx, hb, hml, hown, hts⟩ hM cb ⟨Pre.blind, fun U hU hW => ?_⟩ rfl (by rw [List.length_map]; exact hlen) hl.1 ?_ (lv_room hcats) hd ⟨hcu, hsu⟩) hnx (fun v M' hv => h v M' hv)
  · refine ⟨rfl, va_K.moved hW.alike hK, hSt.next hsz hW (by rw [hU]; exact hS.2.1), ?_, by rw [hU]; exact hP, hD⟩
    rw [hU]; exact Nat.le_trans hsz hS.1
  · show (As.reverse ++ st).map (trv (eAd X.2.1)) = (As.map (trv (eAd X.2.1))).reverse ++ st.map (trv (eAd X.2.1))
    rw [List.map_append, List.map_reverse]
/-- a number of the script -/
theorem z_sld {i : Int32} (hin : vp_in i (eL X.2.1)) (hd : decode (xb X) pc = .ok (.iaload, 1)) (hn : pc + 1 = pc') (h : Zz X cu su pc' ls (.int (eX X.2.1 i.toNatClampNeg) :: st) M) : Zz X cu su pc ls (.int i :: .ref 2000 :: st) M := by
  subst hn
  intro p e s m args below meth c H locs lsA C
  obtain ⟨⟨hx, hb, hr, hml, hown, hts, hlk, htb, hls⟩, ⟨hK, hSt, hsz⟩, ⟨hP, hD, hS⟩, hl⟩ := id C
  exact va_sld hx hb hSt.2.2.2.2.2.2.1 (Nat.lt_of_lt_of_le hSt.2.2.2.2.2.2.2.1 hsz) (Nat.not_le.mpr hSt.2.2.2.2.2.2.2.1) hS hin hd (h p e s m args below meth c H locs lsA C)
theorem z_slen (hd : decode (xb X) pc = .ok (.arraylength, 1)) (hn : pc + 1 = pc') (h : Zz X cu su pc' ls (.int (nI (eL X.2.1)) :: st) M) : Zz X cu su pc ls (.ref 2000 :: st) M := by
  subst hn
  intro p e s m args below meth c H locs lsA C
  obtain ⟨⟨hx, hb, hr, hml, hown, hts, hlk, htb, hls⟩, ⟨hK, hSt, hsz⟩, ⟨hP, hD, hS⟩, hl⟩ := id C
  exact va_slen hx hb hSt.2.2.2.2.2.2.1 (Nat.lt_of_lt_of_le hSt.2.2.2.2.2.2.2.1 hsz) (Nat.not_le.mpr hSt.2.2.2.2.2.2.2.1) hS hd (h p e s m args below meth c H locs lsA C)
end ZL
