/-! methods with a table: what is thrown is caught here -/
def wsW (y : MT) (hh : List (Nat × Nat × Nat × Nat)) : List Cond := .codeWith y.1 y.2.1 y.2.2.1 y.2.2.2 hh :: W0
def MmW (l : Launch) (E : EnT) (y : MT) (hh : List (Nat × Nat × Nat × Nat)) (d kc ks : Nat) (As : List Value) (M : Mem) (Post : Option Value ⊕ String → Mem → Prop) : Prop :=
  vx_Met l y.1 (wsW y hh) (rmz d kc ks) (Pre E As M) (Qr E Post) (Qx E Post) kc ks (eA E)
theorem MmW_of {l : Launch} {E : EnT} {y : MT} {hh : List (Nat × Nat × Nat × Nat)} {d kc ks : Nat} {As : List Value} {M : Mem} {Post : Option Value ⊕ String → Mem → Prop} (hst : l.stackTraces = false) (hp : plainName y.1.cls = true) (hc : As.all (fun v => v.category == 1) = true) (hlen : As.length ≤ y.2.2.1) (ls0 : List (Option Value)) (hls : As.map some ++ List.replicate (y.2.2.1 - As.length) none = ls0)
    (body : Zz (l, E, y, tableOf hh, d, kc, ks, FinP E Post kc ks) 0 0 0 ls0 [] M) : MmW l E y hh d kc ks As M Post := by
  subst hls
  have hc : ∀ v ∈ As, v.category = 1 := fun v hv => by have := List.all_eq_true.mp hc v hv; simpa using this
  refine vx_ofWH (cc := y.2.1) (maxL := y.2.2.1) (ret := y.2.2.2) (hh := hh) hp rfl ?_
  intro p e s m args below meth c s₁ B hml hv
  obtain ⟨rfl, hK, hSt, hsz, hP, hD⟩ := hv
  have hts := atoms_spec (ws := wsW y hh) B.pre
  have hcat : ∀ v ∈ As.map (trv (eAd E)), v.category = 1 := fun v hv => by
    obtain ⟨u, hu, rfl⟩ := List.mem_map.mp hv
    rw [trv_cat]; exact hc u hu
  have hl := lv_entry (As.map (trv (eAd E))) (n := y.2.2.1) (by rw [lg_len hcat, List.length_map]; exact hlen)
  rw [lg_entry_eq]
  refine body p e s m _ below meth c s.heap [] _ ⟨⟨B.exec, B.bytes, B.returns, hml, findClass_of_methodNamed B.named, fun w hw => hts w (List.mem_cons_of_mem _ hw), B.notSynchronized, vx_table (x := y.1) B (hts _ List.mem_cons_self), hst⟩, ⟨hK, hSt, hsz⟩, ⟨hP, hD, va_S.rf⟩, ?_⟩
  rw [lvo_args As 0 _ hc]
  exact hl
theorem lvo_drop {ad : Nat → Nat} {lsA : Array Slot} {nL i : Nat} {ls : List (Option Value)} {v : Value} (h : lv_has lsA nL ((i, v) :: (lvo ad 0 ls).filter (fun q => !(q.1 == i) && !(q.1 + 1 == i && q.2.category == 2)))) : lv_has lsA nL (lvo ad 0 (ls.set i none)) := by
  refine ⟨h.1, h.2.1, fun q hq => ?_⟩
  obtain ⟨n, u, h1, h2, h3⟩ := lvo_of hq
  by_cases hn : n = i
  · subst hn
    rw [List.getElem?_set] at h1
    simp only [if_true] at h1
    split at h1 <;> cases h1
  · rw [List.getElem?_set_ne (Ne.symm hn)] at h1
    have h4 := lvo_in (ad := ad) (i := 0) h1 h2
    rw [h3]
    refine h.2.2 _ (List.mem_cons_of_mem _ (List.mem_filter.mpr ⟨h4, ?_⟩))
    simp [trv_cat, h2, hn]
/-- the handler at pc goes on, whatever was caught -/
def Hnd (X : CT) (cu su pc : Nat) (ls : List (Option Value)) (M : Mem) : Prop :=
  ∀ (q : Nat) (p : Program) (e : Env) (s : State) (m : MethodId) (args : Array Value) (below : List Frame) (meth : Method) (c : Code) (H : Heap) (locs : List Loc) (lsA : Array Slot),
    Cx X.2.1 X.2.2.1 X.2.2.2.1 X.1 p s m args meth c H locs lsA ls M →
    W p X.1 e (rmz X.2.2.2.2.1 X.2.2.2.2.2.1 X.2.2.2.2.2.2.1) s m args below meth c H locs cu su (X.2.2.2.2.2.2.2 below args s) (F0 m pc lsA [.ref q])
section ZW
variable {X : CT} {cu su pc pc' d : Nat} {ls : List (Option Value)} {st : List Value} {M : Mem}
theorem hnd_n {k : Fin 4} {ls2 : List (Option Value)} (hd : decode (xb X) pc = .ok (.astore_n k, 1)) (hL : k.val < xn X) (hs : ls.set k.val none = ls2) (hn : pc + 1 = pc') (h : Zz X cu su pc' ls2 [] M) : Hnd X cu su pc ls M := by
  subst hn
  intro q p e s m args below meth c H locs lsA C
  obtain ⟨⟨hx, hb, hr, hml, hown, hts, hlk, htb, hls⟩, ⟨hK, hSt, hsz⟩, ⟨hP, hD, hS⟩, hl⟩ := id C
  exact lv_astore_n hx hb hd rfl hl hL rfl (fun ls' hl' => h p e s m args below meth c H locs ls' ⟨C.1, C.2.1, C.2.2.1, by rw [← hs]; exact lvo_drop hl'⟩)
theorem hnd_w {k : Nat} {ls2 : List (Option Value)} (hd : decode (xb X) pc = .ok (.astore k, 2)) (hL : k < xn X) (hs : ls.set k none = ls2) (hn : pc + 2 = pc') (h : Zz X cu su pc' ls2 [] M) : Hnd X cu su pc ls M := by
  subst hn
  intro q p e s m args below meth c H locs lsA C
  obtain ⟨⟨hx, hb, hr, hml, hown, hts, hlk, htb, hls⟩, ⟨hK, hSt, hsz⟩, ⟨hP, hD, hS⟩, hl⟩ := id C
  exact lv_astore hx hb hd hl hL rfl (fun ls' hl' => h p e s m args below meth c H locs ls' ⟨C.1, C.2.1, C.2.2.1, by rw [← hs]; exact lvo_drop hl'⟩)
/-- C, thrown at pc, is caught by a row of the table -/
def Cat (X : CT) (cu su pc : Nat) (ls : List (Option Value)) (C : String) (M : Mem) : Prop := ∃ (pre : List ExceptionTableEntry) (x : ExceptionTableEntry) (suf : List ExceptionTableEntry) (name : String), X.2.2.2.1 = pre ++ x :: suf ∧ (∀ z ∈ pre, covers z pc = false ∨ (z.catchType ≠ 0 ∧ ∃ nm, Cond.classLink (xo X) z.catchType nm ∈ W0 ∧ (C, nm) ∈ XDn)) ∧ covers x pc = true ∧ x.catchType ≠ 0 ∧ Cond.classLink (xo X) x.catchType name ∈ W0 ∧ (C, name) ∈ XDc ∧ Hnd X cu su x.handlerPc ls M
/-- an invokevirtual of a method that returns or throws -/
theorem z_callX {y : MT} {ix n ci b nf : Nat} {T : u_T} {As : List Value} {Po : Option Value ⊕ String → Mem → Prop} (hd : decode (xb X) pc = .ok (.invokevirtual ix, 3)) (hw : Cond.methodLink (xo X) ix y.1 ∈ W0) (hi : InsV y n) (hdp : d + 1 ≤ X.2.2.2.2.1) (hk : knd b = (ci, nf)) (hci : ci < 8) (hC : vwCl[ci]? = some (y.1.cls, T, nf)) (hlen : As.length = n) (hst : (st.map fun v => v.category).sum ≤ 8) (hcu : cu + 1 ≤ X.2.2.2.2.2.1) (hsu : su + 6 ≤ X.2.2.2.2.2.2.1)
    (hM : Mm X.1 X.2.1 y d 1 6 (.ref b :: As) M Po) (hx9 : ∀ C M', Po (.inr C) M' → Cat X (cu + 1) (su + 6) pc ls C M') (h : ∀ v M', Po (.inl v) M' → Zz X (cu + 1) (su + 6) (pc + 3) ls (v.toList ++ st) M') : Zz X cu su pc ls (As.reverse ++ .ref b :: st) M := by
  intro p e s m args below meth c H locs lsA C
  obtain ⟨⟨hx, hb, hr, hml, hown, hts, hlk, htb, hls⟩, ⟨hK, hSt, hsz⟩, ⟨hP, hD, hS⟩, hl⟩ := id C
  obtain ⟨i1, i2, i3, i4, i5, i6, i7⟩ := hi
  have hlo : 8 + (y.2.2.1 + 11) + (rmz d 1 6).locals ≤ (rmz X.2.2.2.2.1 X.2.2.2.2.2.1 X.2.2.2.2.2.2.1).locals := by
    show 8 + (y.2.2.1 + 11) + 40 * d ≤ 40 * X.2.2.2.2.1
    omega
  have cb : CallB (rmz X.2.2.2.2.1 X.2.2.2.2.2.1 X.2.2.2.2.2.2.1) s args (xo X) ix y.1 y.2.1 y.2.2.1 y.2.2.2 (wsy y) (rmz d 1 6) 1 6 n :=
    callB_of (ws' := W0) n hts (wsy_good i1) rfl rfl rfl (hts _ i4) (hts _ hw) ⟨i5.1, i5.2, i6⟩ ⟨hdp, hlo⟩
  have hcats : (((st.map (trv (eAd X.2.1))).map fun v => v.category).sum) ≤ 8 := by
    rw [List.map_map, show ((fun v : Value => v.category) ∘ trv (eAd X.2.1)) = fun v => v.category from funext fun v => trv_cat _ v]
    exact hst
  have hrun := vx_runV (p := p) (l := X.1) (e := e) (R := rmz X.2.2.2.2.1 X.2.2.2.2.2.1 X.2.2.2.2.2.2.1) (below := below) (meth := meth) (H := H) (locs := locs) (cells := cu) (slots := su) (g := F0 m pc lsA ((As.reverse ++ .ref b :: st).map (trv (eAd X.2.1)))) (C := y.1.cls) (b := eAd X.2.1 b) (As := As.map (trv (eAd X.2.1))) (rest := st.map (trv (eAd X.2.1))) (Ts := W0) (own := xo X) (nL := xn X) ⟨hx, hb, hml, hown, hts⟩ hM ⟨cb, hts _ i2, hts _ i3⟩ ⟨Pre.blind, va_recvZ hK hP hk hci hC, fun U hU hW => ⟨rfl, va_K.moved hW.alike hK, hSt.next hsz hW (by rw [hU]; exact hS.2.1), by rw [hU]; exact Nat.le_trans hsz hS.1, by rw [hU]; exact hP, hD⟩⟩ rfl (by rw [List.length_map]; exact hlen) hl.1 (by
    show (As.reverse ++ .ref b :: st).map (trv (eAd X.2.1)) = (As.map (trv (eAd X.2.1))).reverse ++ .ref (eAd X.2.1 b) :: st.map (trv (eAd X.2.1))
    rw [List.map_append, List.map_reverse]; rfl) (lv_room hcats) hd ⟨hcu, hsu⟩
  intro T9 hT Xs
  rcases hrun T9 hT Xs with ⟨v, st₀, t, T', L, h0, X', hL, e1, e2, ⟨v1, M1, hv, hp1, hP1, hD1, hF⟩, sg⟩ | ⟨q, st₀, t, T', L, E9, ce, h0, X', hL, e1, e2, ⟨M1, hp1, hP1, hD1, hF⟩, hce, hcv, hcl, sg⟩
  · obtain ⟨k1, k2, k3⟩ := vx_keep h0 e1 C.2.2.1.2.2 (fun q _ hq => hq) (fun q hq => hq) hL hF
    cases hv
    have h9 := h v1 M1 hp1 p e s m args below meth c T'.heap (locs ++ L) lsA ⟨C.1, C.2.1, ⟨by rw [e1]; exact hP1, hD1, k3⟩, C.2.2.2⟩
    obtain ⟨t2, a1, b1⟩ := h9 T' rfl X'
    refine ⟨t2, sg t2 ?_, b1⟩
    have e3 : (v1.toList ++ st).map (trv (eAd X.2.1)) = (v1.map (trv (eAd X.2.1))).toList ++ st.map (trv (eAd X.2.1)) := by cases v1 <;> simp
    rw [e3] at a1
    exact a1
  · obtain ⟨k1, k2, k3⟩ := vx_keep h0 e1 C.2.2.1.2.2 (fun q _ hq => hq) (fun q hq => hq) hL hF
    obtain ⟨pre, x, suf, name, c1, c2, c3, c4, c5, c6, c7⟩ := hx9 E9 M1 hp1
    have hh := c7 q p e s m args below meth c T'.heap (locs ++ L) lsA ⟨C.1, C.2.1, ⟨by rw [e1]; exact hP1, hD1, k3⟩, C.2.2.2⟩
    have hk9 := vx_catch (rest := st.map (trv (eAd X.2.1))) (pc := pc) hown pre x suf (htb.trans c1) (fun z hz => (c2 z hz).imp id (fun ⟨z1, nm, z2, z3⟩ => ⟨z1, nm, hts _ z2, hSt.2.2.2.2.2.2.2.2.2.2 (E9, nm) z3⟩)) c3 c4 (hts _ c5) (va_Nw.use rfl (hSt.2.2.2.2.2.2.2.2.2.1 (E9, name) c6)) (by rw [e1]; exact hce) hcv hcl hh
    obtain ⟨t2, a1, b1⟩ := hk9 T' rfl X'
    exact ⟨t2, sg.trans a1, b1⟩
/-- out[0] -/
theorem z_last {v : Int32} (hd : decode (xb X) pc = .ok (.lastore, 1)) (hn : pc + 1 = pc') (h : Zz X cu su pc' ls st (mu M 119 0 v)) : Zz X cu su pc ls (.long v.toInt64 :: .int 0 :: .ref 119 :: st) M := by
  subst hn
  intro p e s m args below meth c H locs lsA C
  obtain ⟨⟨hx, hb, hr, hml, hown, hts, hlk, htb, hls⟩, ⟨hK, hSt, hsz⟩, ⟨hP, hD, hS⟩, hl⟩ := id C
  have hk : knd 119 = (15, 1) := rfl
  refine va_last hx hb hK hP hD hS 119 5 ((wl_at (knd_120 hk (by decide))).trans (by rw [ent_15 hk])) rfl (vp_in_nI (n := 0) (N := 1) (by decide) (by decide)) hd (fun H1 locs1 hP1 hD1 hS1 => ?_)
  rw [show ((0 : Int32)).toNatClampNeg = 0 from rfl, wl_set (v := v) (i := 0) (knd_120 hk (by decide)) (by
    rw [ent_15 hk, mu_k]
    congr 5
    funext j
    unfold vp_updL upd
    split <;> rfl)] at hP1 hD1
  exact h p e s m args below meth c H1 locs1 lsA ⟨C.1, C.2.1, ⟨hP1, hD1, hS1⟩, hl⟩
theorem z_lald {i : Int32} (hi : i = 0) (hd : decode (xb X) pc = .ok (.laload, 1)) (hn : pc + 1 = pc') (h : Zz X cu su pc' ls (.long (M 119 0).toInt64 :: st) M) : Zz X cu su pc ls (.int i :: .ref 119 :: st) M := by
  subst hn
  subst hi
  intro p e s m args below meth c H locs lsA C
  obtain ⟨⟨hx, hb, hr, hml, hown, hts, hlk, htb, hls⟩, ⟨hK, hSt, hsz⟩, ⟨hP, hD, hS⟩, hl⟩ := id C
  have hk : knd 119 = (15, 1) := rfl
  exact va_lald (f := fun j => (M 119 j).toInt64) hx hb hK hP 119 5 ((wl_at (knd_120 hk (by decide))).trans (by rw [ent_15 hk])) rfl (vp_in_nI (n := 0) (N := 1) (by decide) (by decide)) hd (h p e s m args below meth c H locs lsA C)
end ZW
