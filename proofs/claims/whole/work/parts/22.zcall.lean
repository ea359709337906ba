section ZC
variable {l : Launch} {E : EnT} {y : MT} {d kc ks cu su pc pc' : Nat} {Post : Option Value ⊕ String → Mem → Prop} {tb : List ExceptionTableEntry} {ls : List (Option Value)} {st : List Value} {M : Mem}
theorem z_ireturn {v : Int32} (hd : decode y.2.1 pc = .ok (.ireturn, 1)) (hr : y.2.2.2 = some .int) (hq : Post (.inl (some (.int v))) M) (hc : cu ≤ kc) (hs : su ≤ ks) : Zz (l, E, y, tb, d, kc, ks, FinP E Post kc ks) cu su pc ls [.int v] M := by
  intro p e s m args below meth c H locs lsA C
  obtain ⟨⟨hx, hb, hr0, hml, hown, hts, hlk, htb, hls⟩, ⟨hK, hSt, hsz⟩, ⟨hP, hD, hS⟩, hl⟩ := id C
  refine W.widen hc hs (vx_ret (W.iret (v := v) hx hb (by rw [hr0]; exact hr) (fun t ht hW => ?_) hS.2.2 hd))
  exact ⟨some (.int v), M, rfl, hq, by rw [ht]; exact hP, hD, hS.F ht⟩
theorem z_zreturn {v : Int32} {ty : FieldType} (hd : decode y.2.1 pc = .ok (.ireturn, 1)) (hr : y.2.2.2 = some ty) (hv : narrow ty (.int v) = .int v) (hq : Post (.inl (some (.int v))) M) (hc : cu ≤ kc) (hs : su ≤ ks) : Zz (l, E, y, tb, d, kc, ks, FinP E Post kc ks) cu su pc ls [.int v] M := by
  intro p e s m args below meth c H locs lsA C
  obtain ⟨⟨hx, hb, hr0, hml, hown, hts, hlk, htb, hls⟩, ⟨hK, hSt, hsz⟩, ⟨hP, hD, hS⟩, hl⟩ := id C
  refine W.widen hc hs (vx_ret (W.zret (v := v) hx hb (by rw [hr0]; exact hr) hv (fun t ht hW => ?_) hS.2.2 hd))
  exact ⟨some (.int v), M, rfl, hq, by rw [ht]; exact hP, hD, hS.F ht⟩
theorem z_return (hd : decode y.2.1 pc = .ok (.return_, 1)) (hr : y.2.2.2 = none) (hq : Post (.inl none) M) (hc : cu ≤ kc) (hs : su ≤ ks) : Zz (l, E, y, tb, d, kc, ks, FinP E Post kc ks) cu su pc ls [] M := by
  intro p e s m args below meth c H locs lsA C
  obtain ⟨⟨hx, hb, hr0, hml, hown, hts, hlk, htb, hls⟩, ⟨hK, hSt, hsz⟩, ⟨hP, hD, hS⟩, hl⟩ := id C
  refine W.widen hc hs (vx_ret (W.vret hx hb (by rw [hr0]; exact hr) (fun t ht hW => ?_) hS.2.2 hd))
  exact ⟨none, M, rfl, hq, by rw [ht]; exact hP, hD, hS.F ht⟩
theorem z_areturn {v : Nat} {C9 : String} (hd : decode y.2.1 pc = .ok (.areturn, 1)) (hr : y.2.2.2 = some (.object C9)) (hq : Post (.inl (some (.ref v))) M) (hc : cu ≤ kc) (hs : su ≤ ks) : Zz (l, E, y, tb, d, kc, ks, FinP E Post kc ks) cu su pc ls [.ref v] M := by
  intro p e s m args below meth c H locs lsA C
  obtain ⟨⟨hx, hb, hr0, hml, hown, hts, hlk, htb, hls⟩, ⟨hK, hSt, hsz⟩, ⟨hP, hD, hS⟩, hl⟩ := id C
  refine W.widen hc hs (vx_ret (W.aret (v := .ref (eAd E v)) hx hb (by rw [hr0]; exact hr) (Or.inl ⟨_, rfl⟩) (Or.inr ⟨_, rfl⟩) (fun t ht hW => ?_) hS.2.2 hd))
  exact ⟨some (.ref v), M, rfl, hq, by rw [ht]; exact hP, hD, hS.F ht⟩
end ZC
def wsy (y : MT) : List Cond := .code y.1 y.2.1 y.2.2.1 y.2.2.2 :: W0
def Pre (E : EnT) (As : List Value) (M : Mem) : Array Value → State → Prop := fun a U =>
  a = (As.map (trv (eAd E))).toArray ∧ va_K (eD E) vwCl (etys E) U ∧ St E U U.heap ∧ eS E ≤ U.heap.size ∧ va_P (eD E) vwCl (wl E M) U.heap ∧ va_D (eA E) (wl E M)
theorem Pre.blind {E : EnT} {As : List Value} {M : Mem} : FrameBlind (Pre E As M) := fun a U g mk q => by
  obtain ⟨h1, h2, h3, h4, h5, h6⟩ := q
  exact ⟨h1, va_K.moved (u := U) (U := U.calling g mk a) (Vm.Alike.refl U.vm) h2, St.same (u := U) (U := U.calling g mk a) h3 rfl, h4, h5, h6⟩
/-- a method's contract -/
def Mm (l : Launch) (E : EnT) (y : MT) (d kc ks : Nat) (As : List Value) (M : Mem) (Post : Option Value ⊕ String → Mem → Prop) : Prop :=
  vx_Met l y.1 (wsy y) (rmz d kc ks) (Pre E As M) (Qr E Post) (Qx E Post) kc ks (eA E)
theorem lvo_args {ad : Nat → Nat} : ∀ (As : List Value) (i r : Nat), (∀ v ∈ As, v.category = 1) → lvo ad i (As.map some ++ List.replicate r none) = lv_args i (As.map (trv ad))
  | [], i, r, _ => by
    show lvo ad i (List.replicate r none) = []
    induction r generalizing i with
    | zero => rfl
    | succ r ih => exact ih (i + 1)
  | v :: t, i, r, h => by
    have hv : v.category = 1 := h v List.mem_cons_self
    have ih := lvo_args (ad := ad) t (i + 1) r (fun u hu => h u (List.mem_cons_of_mem _ hu))
    simp only [List.map_cons, List.cons_append, lvo, hv, if_true]
    rw [ih]
    simp [lv_args, trv_cat, hv]
theorem lg_len {vs : List Value} (h : ∀ v ∈ vs, v.category = 1) : (lg_sl vs).length = vs.length := by
  induction vs with
  | nil => rfl
  | cons v t ih =>
    have h1 := h v List.mem_cons_self
    have h2 := ih (fun u hu => h u (List.mem_cons_of_mem _ hu))
    unfold lg_sl at h2 ⊢
    simp only [List.flatMap_cons, List.length_append, h2, h1]
    simp; omega
/-- a method's contract out of its walk -/
theorem Mm_of {l : Launch} {E : EnT} {y : MT} {d kc ks : Nat} {As : List Value} {M : Mem} {Post : Option Value ⊕ String → Mem → Prop} (hst : l.stackTraces = false) (hp : plainName y.1.cls = true) (hc : ∀ v ∈ As, v.category = 1) (hlen : As.length ≤ y.2.2.1)
    (body : Zz (l, E, y, [], d, kc, ks, FinP E Post kc ks) 0 0 0 (As.map some ++ List.replicate (y.2.2.1 - As.length) none) [] M) : Mm l E y d kc ks As M Post := by
  refine vx_ofW (cc := y.2.1) (maxL := y.2.2.1) (ret := y.2.2.2) hp rfl ?_
  intro p e s m args below meth c s₁ B hml hex hv
  obtain ⟨rfl, hK, hSt, hsz, hP, hD⟩ := hv
  have hts := atoms_spec (ws := wsy y) B.pre
  have hcat : ∀ v ∈ As.map (trv (eAd E)), v.category = 1 := fun v hv => by
    obtain ⟨u, hu, rfl⟩ := List.mem_map.mp hv
    rw [trv_cat]; exact hc u hu
  have hl := lv_entry (As.map (trv (eAd E))) (n := y.2.2.1) (by rw [lg_len hcat, List.length_map]; exact hlen)
  rw [lg_entry_eq]
  refine body p e s m _ below meth c s.heap [] _ ⟨⟨B.exec, B.bytes, B.returns, hml, findClass_of_methodNamed B.named, fun w hw => hts w (List.mem_cons_of_mem _ hw), B.notSynchronized, List.eq_nil_iff_forall_not_mem.mpr hex, hst⟩, ⟨hK, hSt, hsz⟩, ⟨hP, hD, va_S.rf⟩, ?_⟩
  rw [lvo_args As 0 _ hc]
  exact hl
section ZK
variable {X : CT} {cu su pc pc' d : Nat} {ls : List (Option Value)} {st : List Value} {M : Mem}
/-- what a call needs of a callee, beside its link -/
def InsV (y : MT) (n : Nat) : Prop := Cond.code y.1 y.2.1 y.2.2.1 y.2.2.2 ∈ W0 ∧ Cond.instanceMethod y.1 ∈ W0 ∧ Cond.selects y.1.cls y.1 y.1 ∈ W0 ∧ Cond.initialized y.1.cls ∈ W0 ∧ (y.1.cls ≠ "java/lang/invoke/MethodHandle" ∧ y.1.cls ≠ "java/lang/invoke/VarHandle") ∧ (parseMethodDescriptor y.1.desc).map (fun d => d.parameters.length) = some n ∧ y.2.2.1 ≤ 21
def InsS (y : MT) (n : Nat) : Prop := Cond.code y.1 y.2.1 y.2.2.1 y.2.2.2 ∈ W0 ∧ Cond.static y.1 ∈ W0 ∧ Cond.initialized y.1.cls ∈ W0 ∧ (y.1.cls ≠ "java/lang/invoke/MethodHandle" ∧ y.1.cls ≠ "java/lang/invoke/VarHandle") ∧ (parseMethodDescriptor y.1.desc).map (fun d => d.parameters.length) = some n ∧ y.2.2.1 ≤ 21
theorem wsy_good {y : MT} (h : Cond.code y.1 y.2.1 y.2.2.1 y.2.2.2 ∈ W0) : GoodIn W0 (wsy y) := fun w hw => by
  rcases List.mem_cons.mp hw with h1 | h1
  · subst h1; exact W0_good _ h
  · exact W0_good _ h1
/-- behind a call that returns -/
theorem z_back {kc ks : Nat} {Po : Option Value ⊕ String → Mem → Prop} {a : Array Value} {p : Program} {e : Env} {s : State} {m : MethodId} {args : Array Value} {below : List Frame} {meth : Method} {c : Code} {H : Heap} {locs : List Loc} {lsA : Array Slot} {stk : List Value} {M0 : Mem}
    (C : Cx X.2.1 X.2.2.1 X.2.2.2.1 X.1 p s m args meth c H locs lsA ls M0)
    (hr : vx_Run p X.1 e (rmz X.2.2.2.2.1 X.2.2.2.2.2.1 X.2.2.2.2.2.2.1) s m args below meth c H locs cu su kc ks (F0 m pc lsA stk) (st.map (trv (eAd X.2.1))) (Qr X.2.1 Po a) (Qx X.2.1 Po) (eA X.2.1))
    (hnx : ∀ C M', ¬ Po (.inr C) M') (h : ∀ v M', Po (.inl v) M' → Zz X (cu + kc) (su + ks) (pc + 3) ls (v.toList ++ st) M') :
    W p X.1 e (rmz X.2.2.2.2.1 X.2.2.2.2.2.1 X.2.2.2.2.2.2.1) s m args below meth c H locs cu su (X.2.2.2.2.2.2.2 below args s) (F0 m pc lsA stk) := by
  intro T hT Xs
  rcases hr T hT Xs with ⟨v, st₀, t, T', L, h0, X', hL, e1, e2, ⟨v1, M1, hv, hp1, hP1, hD1, hF⟩, sg⟩ | ⟨q, st₀, t, T', L, E9, ce, h0, X', hL, e1, e2, ⟨M1, hp1, -⟩, -⟩
  · obtain ⟨k1, k2, k3⟩ := vx_keep h0 e1 C.2.2.1.2.2 (fun q _ hq => hq) (fun q hq => hq) hL hF
    cases hv
    have h9 := h v1 M1 hp1 p e s m args below meth c T'.heap (locs ++ L) lsA ⟨C.1, C.2.1, ⟨by rw [e1]; exact hP1, hD1, k3⟩, C.2.2.2⟩
    obtain ⟨t2, a1, b1⟩ := h9 T' rfl X'
    refine ⟨t2, sg t2 ?_, b1⟩
    have e3 : (v1.toList ++ st).map (trv (eAd X.2.1)) = (v1.map (trv (eAd X.2.1))).toList ++ st.map (trv (eAd X.2.1)) := by cases v1 <;> simp
    rw [e3] at a1
    exact a1
  · exact absurd hp1 (hnx _ _)
theorem va_recvZ {E : EnT} {M : Mem} {s : State} {H : Heap} {b ci n : Nat} {C : String} {T : u_T} (hK : va_K (eD E) vwCl (etys E) s) (hP : va_P (eD E) vwCl (wl E M) H) (hk : knd b = (ci, n)) (hci : ci < 8) (hC : vwCl[ci]? = some (C, T, n)) : ∃ cellB : Cell, H[eAd E b]? = some cellB ∧ cellB.vm.isStatics = false ∧ s.vm.findClass C = some cellB.cls :=
  va_recv hK hP (ci := ci) (q0 := b) hC (wl_obj hk hci)
/-- an invokevirtual of a method that only returns -/
theorem z_callV {y : MT} {ix n ci b nf : Nat} {T : u_T} {As : List Value} {Po : Option Value ⊕ String → Mem → Prop} (hd : decode (xb X) pc = .ok (.invokevirtual ix, 3)) (hw : Cond.methodLink (xo X) ix y.1 ∈ W0) (hi : InsV y n) (hdp : d + 1 ≤ X.2.2.2.2.1) (hk : knd b = (ci, nf)) (hci : ci < 8) (hC : vwCl[ci]? = some (y.1.cls, T, nf)) (hlen : As.length = n) (hst : (st.map fun v => v.category).sum ≤ 8) (hcu : cu ≤ X.2.2.2.2.2.1) (hsu : su ≤ X.2.2.2.2.2.2.1)
    (hM : Mm X.1 X.2.1 y d 0 0 (.ref b :: As) M Po) (hnx : ∀ C M', ¬ Po (.inr C) M') (h : ∀ v M', Po (.inl v) M' → Zz X cu su (pc + 3) ls (v.toList ++ st) M') : Zz X cu su pc ls (As.reverse ++ .ref b :: st) M := by
  intro p e s m args below meth c H locs lsA C
  obtain ⟨⟨hx, hb, hr, hml, hown, hts, hlk, htb, hls⟩, ⟨hK, hSt, hsz⟩, ⟨hP, hD, hS⟩, hl⟩ := id C
  obtain ⟨i1, i2, i3, i4, i5, i6, i7⟩ := hi
  have hlo : 8 + (y.2.2.1 + 11) + (rmz d 0 0).locals ≤ (rmz X.2.2.2.2.1 X.2.2.2.2.2.1 X.2.2.2.2.2.2.1).locals := by
    show 8 + (y.2.2.1 + 11) + 40 * d ≤ 40 * X.2.2.2.2.1
    omega
  have cb : CallB (rmz X.2.2.2.2.1 X.2.2.2.2.2.1 X.2.2.2.2.2.2.1) s args (xo X) ix y.1 y.2.1 y.2.2.1 y.2.2.2 (wsy y) (rmz d 0 0) 0 0 n :=
    callB_of (ws' := W0) n hts (wsy_good i1) rfl rfl rfl (hts _ i4) (hts _ hw) ⟨i5.1, i5.2, i6⟩ ⟨hdp, hlo⟩
  have hcats : (((st.map (trv (eAd X.2.1))).map fun v => v.category).sum) ≤ 8 := by
    rw [List.map_map, show ((fun v : Value => v.category) ∘ trv (eAd X.2.1)) = fun v => v.category from funext fun v => trv_cat _ v]
    exact hst
  refine z_back (st := st) (pc := pc) C (vx_runV (C := y.1.cls) (b := eAd X.2.1 b) (As := As.map (trv (eAd X.2.1))) (rest := st.map (trv (eAd X.2.1))) (Ts := W0) (own := xo X) (nL := xn X) ⟨hx, hb, hml, hown, hts⟩ hM ⟨cb, hts _ i2, hts _ i3⟩ ⟨Pre.blind, va_recvZ hK hP hk hci hC, fun U hU hW => ?_⟩ rfl (by rw [List.length_map]; exact hlen) hl.1 ?_ (lv_room hcats) hd ⟨hcu, hsu⟩) hnx (fun v M' hv => h v M' hv)
  · refine ⟨rfl, va_K.moved hW.alike hK, hSt.next hsz hW (by rw [hU]; exact hS.2.1), ?_, by rw [hU]; exact hP, hD⟩
    rw [hU]; exact Nat.le_trans hsz hS.1
  · show (As.reverse ++ .ref b :: st).map (trv (eAd X.2.1)) = (As.map (trv (eAd X.2.1))).reverse ++ .ref (eAd X.2.1 b) :: st.map (trv (eAd X.2.1))
    rw [List.map_append, List.map_reverse]; rfl
/-- an invokestatic of a method that only returns -/
theorem z_callS {y : MT} {ix n : Nat} {As : List Value} {Po : Option Value ⊕ String → Mem → Prop} (hd : decode (xb X) pc = .ok (.invokestatic ix, 3)) (hw : Cond.methodLink (xo X) ix y.1 ∈ W0) (hi : InsS y n) (hdp : d + 1 ≤ X.2.2.2.2.1) (hlen : As.length = n) (hst : (st.map fun v => v.category).sum ≤ 8) (hcu : cu ≤ X.2.2.2.2.2.1) (hsu : su ≤ X.2.2.2.2.2.2.1)
    (hM : Mm X.1 X.2.1 y d 0 0 As M Po) (hnx : ∀ C M', ¬ Po (.inr C) M') (h : ∀ v M', Po (.inl v) M' → Zz X cu su (pc + 3) ls (v.toList ++ st) M') : Zz X cu su pc ls (As.reverse ++ st) M := by
  intro p e s m args below meth c H locs lsA C
  obtain ⟨⟨hx, hb, hr, hml, hown, hts, hlk, htb, hls⟩, ⟨hK, hSt, hsz⟩, ⟨hP, hD, hS⟩, hl⟩ := id C
  obtain ⟨i1, i2, i4, i5, i6, i7⟩ := hi
  have hlo : 8 + (y.2.2.1 + 11) + (rmz d 0 0).locals ≤ (rmz X.2.2.2.2.1 X.2.2.2.2.2.1 X.2.2.2.2.2.2.1).locals := by
    show 8 + (y.2.2.1 + 11) + 40 * d ≤ 40 * X.2.2.2.2.1
    omega
  have cb : CallB (rmz X.2.2.2.2.1 X.2.2.2.2.2.1 X.2.2.2.2.2.2.1) s args (xo X) ix y.1 y.2.1 y.2.2.1 y.2.2.2 (wsy y) (rmz d 0 0) 0 0 n :=
    callB_of (ws' := W0) n hts (wsy_good i1) rfl rfl rfl (hts _ i4) (hts _ hw) ⟨i5.1, i5.2, i6⟩ ⟨hdp, hlo⟩
  have hcats : (((st.map (trv (eAd X.2.1))).map fun v => v.category).sum) ≤ 8 := by
    rw [List.map_map, show ((fun v : Value => v.category) ∘ trv (eAd X.2.1)) = fun v => v.category from funext fun v => trv_cat _ v]
    exact hst
  refine z_back (st := st) (pc := pc) C (vx_runS (As := As.map (trv (eAd X.2.1))) (rest := st.map (trv (eAd X.2.1))) (Ts := W0) (own := xo X) (nL := xn X) ⟨hx, hb, hml, hown, hts⟩ hM ⟨cb, hts _ i2⟩ ⟨Pre.blind, fun U hU hW => ?_⟩ rfl (by rw [List.length_map]; exact hlen) hl.1 ?_ (lv_room hcats) hd ⟨hcu, hsu⟩) hnx (fun v M' hv => h v M' hv)
  · refine ⟨rfl, va_K.moved hW.alike hK, hSt.next hsz hW (by rw [hU]; exact hS.2.1), ?_, by rw [hU]; exact hP, hD⟩
    rw [hU]; exact Nat.le_trans hsz hS.1
  · show (As.reverse ++ st).map (trv (eAd X.2.1)) = (As.map (trv (eAd X.2.1))).reverse ++ st.map (trv (eAd X.2.1))
    rw [List.map_append, List.map_reverse]
end ZK
