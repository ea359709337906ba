/-- a method that returns v and leaves M' -/
def Rt (v : Option Value) (M' : Mem) : Option Value ⊕ String → Mem → Prop := fun r N => r = .inl v ∧ N = M'
theorem Rt_nx {v : Option Value} {M' : Mem} : ∀ C N, ¬ Rt v M' (.inr C) N := fun _ _ h => nomatch h.1
theorem Mm_go {l : Launch} {E : EnT} {y : MT} {d kc ks : Nat} {As : List Value} {M : Mem} {Post : Option Value ⊕ String → Mem → Prop} (hst : l.stackTraces = false) (hp : plainName y.1.cls = true) (hc : As.all (fun v => v.category == 1) = true) (hlen : As.length ≤ y.2.2.1) (ls0 : List (Option Value)) (hls : As.map some ++ List.replicate (y.2.2.1 - As.length) none = ls0)
    (body : Zz (l, E, y, [], d, kc, ks, FinP E Post kc ks) 0 0 0 ls0 [] M) : Mm l E y d kc ks As M Post := by
  subst hls
  exact Mm_of hst hp (fun v hv => by have := List.all_eq_true.mp hc v hv; simpa using this) hlen body
theorem Mm_post {l : Launch} {E : EnT} {y : MT} {d kc ks : Nat} {As : List Value} {M : Mem} {P1 P2 : Option Value ⊕ String → Mem → Prop} (h : Mm l E y d kc ks As M P1) (h2 : ∀ r N, P1 r N → P2 r N) : Mm l E y d kc ks As M P2 := by
  have q1 : ∀ a st o t, Qr E P1 a st o t → Qr E P2 a st o t := fun a st o t ⟨v, M', e1, e2, e3⟩ => ⟨v, M', e1, h2 _ _ e2, e3⟩
  have q2 : ∀ C st t, Qx E P1 C st t → Qx E P2 C st t := fun C st t ⟨M', e2, e3⟩ => ⟨M', h2 _ _ e2, e3⟩
  intro p e ha hc hk s m args below hf hfit hheap happ
  obtain ⟨k, o, h1, h2, h3, hQ⟩ := h p e ha hc hk s m args below hf hfit hheap happ
  refine ⟨k, o, h1, h2, h3, ?_⟩
  rcases hQ with ⟨hq, hL⟩ | ⟨q, hq, C, ce, L, hx, hr⟩
  · exact Or.inl ⟨q1 _ _ _ _ hq, hL⟩
  · exact Or.inr ⟨q, hq, C, ce, L, q2 _ _ _ hx, hr⟩
section ZA
variable {X : CT} {cu su pc pc' d : Nat} {ls : List (Option Value)} {st : List Value} {M M' : Mem}
theorem z_cg0 {y : MT} {ix ci b nf : Nat} {T : u_T} {Po : Option Value ⊕ String → Mem → Prop} (hd : decode (xb X) pc = .ok (.invokevirtual ix, 3)) (hw : Cond.methodLink (xo X) ix y.1 ∈ W0) (hi : InsV y 0) (hdp : d + 1 ≤ X.2.2.2.2.1) (hC : vwCl[ci]? = some (y.1.cls, T, nf)) (hci : ci < 8) (hk : knd b = (ci, nf)) (hst : (st.map fun v => v.category).sum ≤ 8) (hcu : cu ≤ X.2.2.2.2.2.1) (hsu : su ≤ X.2.2.2.2.2.2.1) (hM : Mm X.1 X.2.1 y d 0 0 [.ref b] M Po) (hnx : ∀ C N, ¬ Po (.inr C) N) (hn : pc + 3 = pc') (h : ∀ v N, Po (.inl v) N → Zz X cu su pc' ls (v.toList ++ st) N) : Zz X cu su pc ls (.ref b :: st) M := by
  subst hn
  exact z_callV (As := []) hd hw hi hdp hk hci hC rfl hst hcu hsu hM hnx h
theorem z_cv0 {y : MT} {ix ci b nf : Nat} {T : u_T} {v : Value} (hd : decode (xb X) pc = .ok (.invokevirtual ix, 3)) (hw : Cond.methodLink (xo X) ix y.1 ∈ W0) (hi : InsV y 0) (hdp : d + 1 ≤ X.2.2.2.2.1) (hC : vwCl[ci]? = some (y.1.cls, T, nf)) (hci : ci < 8) (hk : knd b = (ci, nf)) (hst : (st.map fun v => v.category).sum ≤ 8) (hcu : cu ≤ X.2.2.2.2.2.1) (hsu : su ≤ X.2.2.2.2.2.2.1) (hM : Mm X.1 X.2.1 y d 0 0 [.ref b] M (Rt (some v) M')) (hn : pc + 3 = pc') (h : Zz X cu su pc' ls (v :: st) M') : Zz X cu su pc ls (.ref b :: st) M := z_cg0 hd hw hi hdp hC hci hk hst hcu hsu hM Rt_nx hn (fun u N q => by obtain ⟨q1, q2⟩ := q; cases q1; rw [q2]; exact h)
theorem z_cn0 {y : MT} {ix ci b nf : Nat} {T : u_T} (hd : decode (xb X) pc = .ok (.invokevirtual ix, 3)) (hw : Cond.methodLink (xo X) ix y.1 ∈ W0) (hi : InsV y 0) (hdp : d + 1 ≤ X.2.2.2.2.1) (hC : vwCl[ci]? = some (y.1.cls, T, nf)) (hci : ci < 8) (hk : knd b = (ci, nf)) (hst : (st.map fun v => v.category).sum ≤ 8) (hcu : cu ≤ X.2.2.2.2.2.1) (hsu : su ≤ X.2.2.2.2.2.2.1) (hM : Mm X.1 X.2.1 y d 0 0 [.ref b] M (Rt none M')) (hn : pc + 3 = pc') (h : Zz X cu su pc' ls st M') : Zz X cu su pc ls (.ref b :: st) M := z_cg0 hd hw hi hdp hC hci hk hst hcu hsu hM Rt_nx hn (fun u N q => by obtain ⟨q1, q2⟩ := q; cases q1; rw [q2]; exact h)
theorem z_cg1 {y : MT} {ix ci b nf : Nat} {T : u_T} {a1 : Value} {Po : Option Value ⊕ String → Mem → Prop} (hd : decode (xb X) pc = .ok (.invokevirtual ix, 3)) (hw : Cond.methodLink (xo X) ix y.1 ∈ W0) (hi : InsV y 1) (hdp : d + 1 ≤ X.2.2.2.2.1) (hC : vwCl[ci]? = some (y.1.cls, T, nf)) (hci : ci < 8) (hk : knd b = (ci, nf)) (hst : (st.map fun v => v.category).sum ≤ 8) (hcu : cu ≤ X.2.2.2.2.2.1) (hsu : su ≤ X.2.2.2.2.2.2.1) (hM : Mm X.1 X.2.1 y d 0 0 [.ref b, a1] M Po) (hnx : ∀ C N, ¬ Po (.inr C) N) (hn : pc + 3 = pc') (h : ∀ v N, Po (.inl v) N → Zz X cu su pc' ls (v.toList ++ st) N) : Zz X cu su pc ls (a1 :: .ref b :: st) M := by
  subst hn
  exact z_callV (As := [a1]) hd hw hi hdp hk hci hC rfl hst hcu hsu hM hnx h
theorem z_cv1 {y : MT} {ix ci b nf : Nat} {T : u_T} {a1 : Value} {v : Value} (hd : decode (xb X) pc = .ok (.invokevirtual ix, 3)) (hw : Cond.methodLink (xo X) ix y.1 ∈ W0) (hi : InsV y 1) (hdp : d + 1 ≤ X.2.2.2.2.1) (hC : vwCl[ci]? = some (y.1.cls, T, nf)) (hci : ci < 8) (hk : knd b = (ci, nf)) (hst : (st.map fun v => v.category).sum ≤ 8) (hcu : cu ≤ X.2.2.2.2.2.1) (hsu : su ≤ X.2.2.2.2.2.2.1) (hM : Mm X.1 X.2.1 y d 0 0 [.ref b, a1] M (Rt (some v) M')) (hn : pc + 3 = pc') (h : Zz X cu su pc' ls (v :: st) M') : Zz X cu su pc ls (a1 :: .ref b :: st) M := z_cg1 hd hw hi hdp hC hci hk hst hcu hsu hM Rt_nx hn (fun u N q => by obtain ⟨q1, q2⟩ := q; cases q1; rw [q2]; exact h)
theorem z_cn1 {y : MT} {ix ci b nf : Nat} {T : u_T} {a1 : Value} (hd : decode (xb X) pc = .ok (.invokevirtual ix, 3)) (hw : Cond.methodLink (xo X) ix y.1 ∈ W0) (hi : InsV y 1) (hdp : d + 1 ≤ X.2.2.2.2.1) (hC : vwCl[ci]? = some (y.1.cls, T, nf)) (hci : ci < 8) (hk : knd b = (ci, nf)) (hst : (st.map fun v => v.category).sum ≤ 8) (hcu : cu ≤ X.2.2.2.2.2.1) (hsu : su ≤ X.2.2.2.2.2.2.1) (hM : Mm X.1 X.2.1 y d 0 0 [.ref b, a1] M (Rt none M')) (hn : pc + 3 = pc') (h : Zz X cu su pc' ls st M') : Zz X cu su pc ls (a1 :: .ref b :: st) M := z_cg1 hd hw hi hdp hC hci hk hst hcu hsu hM Rt_nx hn (fun u N q => by obtain ⟨q1, q2⟩ := q; cases q1; rw [q2]; exact h)
theorem z_cg2 {y : MT} {ix ci b nf : Nat} {T : u_T} {a1 a2 : Value} {Po : Option Value ⊕ String → Mem → Prop} (hd : decode (xb X) pc = .ok (.invokevirtual ix, 3)) (hw : Cond.methodLink (xo X) ix y.1 ∈ W0) (hi : InsV y 2) (hdp : d + 1 ≤ X.2.2.2.2.1) (hC : vwCl[ci]? = some (y.1.cls, T, nf)) (hci : ci < 8) (hk : knd b = (ci, nf)) (hst : (st.map fun v => v.category).sum ≤ 8) (hcu : cu ≤ X.2.2.2.2.2.1) (hsu : su ≤ X.2.2.2.2.2.2.1) (hM : Mm X.1 X.2.1 y d 0 0 [.ref b, a1, a2] M Po) (hnx : ∀ C N, ¬ Po (.inr C) N) (hn : pc + 3 = pc') (h : ∀ v N, Po (.inl v) N → Zz X cu su pc' ls (v.toList ++ st) N) : Zz X cu su pc ls (a2 :: a1 :: .ref b :: st) M := by
  subst hn
  exact z_callV (As := [a1, a2]) hd hw hi hdp hk hci hC rfl hst hcu hsu hM hnx h
theorem z_cv2 {y : MT} {ix ci b nf : Nat} {T : u_T} {a1 a2 : Value} {v : Value} (hd : decode (xb X) pc = .ok (.invokevirtual ix, 3)) (hw : Cond.methodLink (xo X) ix y.1 ∈ W0) (hi : InsV y 2) (hdp : d + 1 ≤ X.2.2.2.2.1) (hC : vwCl[ci]? = some (y.1.cls, T, nf)) (hci : ci < 8) (hk : knd b = (ci, nf)) (hst : (st.map fun v => v.category).sum ≤ 8) (hcu : cu ≤ X.2.2.2.2.2.1) (hsu : su ≤ X.2.2.2.2.2.2.1) (hM : Mm X.1 X.2.1 y d 0 0 [.ref b, a1, a2] M (Rt (some v) M')) (hn : pc + 3 = pc') (h : Zz X cu su pc' ls (v :: st) M') : Zz X cu su pc ls (a2 :: a1 :: .ref b :: st) M := z_cg2 hd hw hi hdp hC hci hk hst hcu hsu hM Rt_nx hn (fun u N q => by obtain ⟨q1, q2⟩ := q; cases q1; rw [q2]; exact h)
theorem z_cn2 {y : MT} {ix ci b nf : Nat} {T : u_T} {a1 a2 : Value} (hd : decode (xb X) pc = .ok (.invokevirtual ix, 3)) (hw : Cond.methodLink (xo X) ix y.1 ∈ W0) (hi : InsV y 2) (hdp : d + 1 ≤ X.2.2.2.2.1) (hC : vwCl[ci]? = some (y.1.cls, T, nf)) (hci : ci < 8) (hk : knd b = (ci, nf)) (hst : (st.map fun v => v.category).sum ≤ 8) (hcu : cu ≤ X.2.2.2.2.2.1) (hsu : su ≤ X.2.2.2.2.2.2.1) (hM : Mm X.1 X.2.1 y d 0 0 [.ref b, a1, a2] M (Rt none M')) (hn : pc + 3 = pc') (h : Zz X cu su pc' ls st M') : Zz X cu su pc ls (a2 :: a1 :: .ref b :: st) M := z_cg2 hd hw hi hdp hC hci hk hst hcu hsu hM Rt_nx hn (fun u N q => by obtain ⟨q1, q2⟩ := q; cases q1; rw [q2]; exact h)
theorem z_cg3 {y : MT} {ix ci b nf : Nat} {T : u_T} {a1 a2 a3 : Value} {Po : Option Value ⊕ String → Mem → Prop} (hd : decode (xb X) pc = .ok (.invokevirtual ix, 3)) (hw : Cond.methodLink (xo X) ix y.1 ∈ W0) (hi : InsV y 3) (hdp : d + 1 ≤ X.2.2.2.2.1) (hC : vwCl[ci]? = some (y.1.cls, T, nf)) (hci : ci < 8) (hk : knd b = (ci, nf)) (hst : (st.map fun v => v.category).sum ≤ 8) (hcu : cu ≤ X.2.2.2.2.2.1) (hsu : su ≤ X.2.2.2.2.2.2.1) (hM : Mm X.1 X.2.1 y d 0 0 [.ref b, a1, a2, a3] M Po) (hnx : ∀ C N, ¬ Po (.inr C) N) (hn : pc + 3 = pc') (h : ∀ v N, Po (.inl v) N → Zz X cu su pc' ls (v.toList ++ st) N) : Zz X cu su pc ls (a3 :: a2 :: a1 :: .ref b :: st) M := by
  subst hn
  exact z_callV (As := [a1, a2, a3]) hd hw hi hdp hk hci hC rfl hst hcu hsu hM hnx h
theorem z_cv3 {y : MT} {ix ci b nf : Nat} {T : u_T} {a1 a2 a3 : Value} {v : Value} (hd : decode (xb X) pc = .ok (.invokevirtual ix, 3)) (hw : Cond.methodLink (xo X) ix y.1 ∈ W0) (hi : InsV y 3) (hdp : d + 1 ≤ X.2.2.2.2.1) (hC : vwCl[ci]? = some (y.1.cls, T, nf)) (hci : ci < 8) (hk : knd b = (ci, nf)) (hst : (st.map fun v => v.category).sum ≤ 8) (hcu : cu ≤ X.2.2.2.2.2.1) (hsu : su ≤ X.2.2.2.2.2.2.1) (hM : Mm X.1 X.2.1 y d 0 0 [.ref b, a1, a2, a3] M (Rt (some v) M')) (hn : pc + 3 = pc') (h : Zz X cu su pc' ls (v :: st) M') : Zz X cu su pc ls (a3 :: a2 :: a1 :: .ref b :: st) M := z_cg3 hd hw hi hdp hC hci hk hst hcu hsu hM Rt_nx hn (fun u N q => by obtain ⟨q1, q2⟩ := q; cases q1; rw [q2]; exact h)
theorem z_cn3 {y : MT} {ix ci b nf : Nat} {T : u_T} {a1 a2 a3 : Value} (hd : decode (xb X) pc = .ok (.invokevirtual ix, 3)) (hw : Cond.methodLink (xo X) ix y.1 ∈ W0) (hi : InsV y 3) (hdp : d + 1 ≤ X.2.2.2.2.1) (hC : vwCl[ci]? = some (y.1.cls, T, nf)) (hci : ci < 8) (hk : knd b = (ci, nf)) (hst : (st.map fun v => v.category).sum ≤ 8) (hcu : cu ≤ X.2.2.2.2.2.1) (hsu : su ≤ X.2.2.2.2.2.2.1) (hM : Mm X.1 X.2.1 y d 0 0 [.ref b, a1, a2, a3] M (Rt none M')) (hn : pc + 3 = pc') (h : Zz X cu su pc' ls st M') : Zz X cu su pc ls (a3 :: a2 :: a1 :: .ref b :: st) M := z_cg3 hd hw hi hdp hC hci hk hst hcu hsu hM Rt_nx hn (fun u N q => by obtain ⟨q1, q2⟩ := q; cases q1; rw [q2]; exact h)
theorem z_cg4 {y : MT} {ix ci b nf : Nat} {T : u_T} {a1 a2 a3 a4 : Value} {Po : Option Value ⊕ String → Mem → Prop} (hd : decode (xb X) pc = .ok (.invokevirtual ix, 3)) (hw : Cond.methodLink (xo X) ix y.1 ∈ W0) (hi : InsV y 4) (hdp : d + 1 ≤ X.2.2.2.2.1) (hC : vwCl[ci]? = some (y.1.cls, T, nf)) (hci : ci < 8) (hk : knd b = (ci, nf)) (hst : (st.map fun v => v.category).sum ≤ 8) (hcu : cu ≤ X.2.2.2.2.2.1) (hsu : su ≤ X.2.2.2.2.2.2.1) (hM : Mm X.1 X.2.1 y d 0 0 [.ref b, a1, a2, a3, a4] M Po) (hnx : ∀ C N, ¬ Po (.inr C) N) (hn : pc + 3 = pc') (h : ∀ v N, Po (.inl v) N → Zz X cu su pc' ls (v.toList ++ st) N) : Zz X cu su pc ls (a4 :: a3 :: a2 :: a1 :: .ref b :: st) M := by
  subst hn
  exact z_callV (As := [a1, a2, a3, a4]) hd hw hi hdp hk hci hC rfl hst hcu hsu hM hnx h
theorem z_cv4 {y : MT} {ix ci b nf : Nat} {T : u_T} {a1 a2 a3 a4 : Value} {v : Value} (hd : decode (xb X) pc = .ok (.invokevirtual ix, 3)) (hw : Cond.methodLink (xo X) ix y.1 ∈ W0) (hi : InsV y 4) (hdp : d + 1 ≤ X.2.2.2.2.1) (hC : vwCl[ci]? = some (y.1.cls, T, nf)) (hci : ci < 8) (hk : knd b = (ci, nf)) (hst : (st.map fun v => v.category).sum ≤ 8) (hcu : cu ≤ X.2.2.2.2.2.1) (hsu : su ≤ X.2.2.2.2.2.2.1) (hM : Mm X.1 X.2.1 y d 0 0 [.ref b, a1, a2, a3, a4] M (Rt (some v) M')) (hn : pc + 3 = pc') (h : Zz X cu su pc' ls (v :: st) M') : Zz X cu su pc ls (a4 :: a3 :: a2 :: a1 :: .ref b :: st) M := z_cg4 hd hw hi hdp hC hci hk hst hcu hsu hM Rt_nx hn (fun u N q => by obtain ⟨q1, q2⟩ := q; cases q1; rw [q2]; exact h)
theorem z_cn4 {y : MT} {ix ci b nf : Nat} {T : u_T} {a1 a2 a3 a4 : Value} (hd : decode (xb X) pc = .ok (.invokevirtual ix, 3)) (hw : Cond.methodLink (xo X) ix y.1 ∈ W0) (hi : InsV y 4) (hdp : d + 1 ≤ X.2.2.2.2.1) (hC : vwCl[ci]? = some (y.1.cls, T, nf)) (hci : ci < 8) (hk : knd b = (ci, nf)) (hst : (st.map fun v => v.category).sum ≤ 8) (hcu : cu ≤ X.2.2.2.2.2.1) (hsu : su ≤ X.2.2.2.2.2.2.1) (hM : Mm X.1 X.2.1 y d 0 0 [.ref b, a1, a2, a3, a4] M (Rt none M')) (hn : pc + 3 = pc') (h : Zz X cu su pc' ls st M') : Zz X cu su pc ls (a4 :: a3 :: a2 :: a1 :: .ref b :: st) M := z_cg4 hd hw hi hdp hC hci hk hst hcu hsu hM Rt_nx hn (fun u N q => by obtain ⟨q1, q2⟩ := q; cases q1; rw [q2]; exact h)
theorem z_cg5 {y : MT} {ix ci b nf : Nat} {T : u_T} {a1 a2 a3 a4 a5 : Value} {Po : Option Value ⊕ String → Mem → Prop} (hd : decode (xb X) pc = .ok (.invokevirtual ix, 3)) (hw : Cond.methodLink (xo X) ix y.1 ∈ W0) (hi : InsV y 5) (hdp : d + 1 ≤ X.2.2.2.2.1) (hC : vwCl[ci]? = some (y.1.cls, T, nf)) (hci : ci < 8) (hk : knd b = (ci, nf)) (hst : (st.map fun v => v.category).sum ≤ 8) (hcu : cu ≤ X.2.2.2.2.2.1) (hsu : su ≤ X.2.2.2.2.2.2.1) (hM : Mm X.1 X.2.1 y d 0 0 [.ref b, a1, a2, a3, a4, a5] M Po) (hnx : ∀ C N, ¬ Po (.inr C) N) (hn : pc + 3 = pc') (h : ∀ v N, Po (.inl v) N → Zz X cu su pc' ls (v.toList ++ st) N) : Zz X cu su pc ls (a5 :: a4 :: a3 :: a2 :: a1 :: .ref b :: st) M := by
  subst hn
  exact z_callV (As := [a1, a2, a3, a4, a5]) hd hw hi hdp hk hci hC rfl hst hcu hsu hM hnx h
theorem z_cv5 {y : MT} {ix ci b nf : Nat} {T : u_T} {a1 a2 a3 a4 a5 : Value} {v : Value} (hd : decode (xb X) pc = .ok (.invokevirtual ix, 3)) (hw : Cond.methodLink (xo X) ix y.1 ∈ W0) (hi : InsV y 5) (hdp : d + 1 ≤ X.2.2.2.2.1) (hC : vwCl[ci]? = some (y.1.cls, T, nf)) (hci : ci < 8) (hk : knd b = (ci, nf)) (hst : (st.map fun v => v.category).sum ≤ 8) (hcu : cu ≤ X.2.2.2.2.2.1) (hsu : su ≤ X.2.2.2.2.2.2.1) (hM : Mm X.1 X.2.1 y d 0 0 [.ref b, a1, a2, a3, a4, a5] M (Rt (some v) M')) (hn : pc + 3 = pc') (h : Zz X cu su pc' ls (v :: st) M') : Zz X cu su pc ls (a5 :: a4 :: a3 :: a2 :: a1 :: .ref b :: st) M := z_cg5 hd hw hi hdp hC hci hk hst hcu hsu hM Rt_nx hn (fun u N q => by obtain ⟨q1, q2⟩ := q; cases q1; rw [q2]; exact h)
theorem z_cn5 {y : MT} {ix ci b nf : Nat} {T : u_T} {a1 a2 a3 a4 a5 : Value} (hd : decode (xb X) pc = .ok (.invokevirtual ix, 3)) (hw : Cond.methodLink (xo X) ix y.1 ∈ W0) (hi : InsV y 5) (hdp : d + 1 ≤ X.2.2.2.2.1) (hC : vwCl[ci]? = some (y.1.cls, T, nf)) (hci : ci < 8) (hk : knd b = (ci, nf)) (hst : (st.map fun v => v.category).sum ≤ 8) (hcu : cu ≤ X.2.2.2.2.2.1) (hsu : su ≤ X.2.2.2.2.2.2.1) (hM : Mm X.1 X.2.1 y d 0 0 [.ref b, a1, a2, a3, a4, a5] M (Rt none M')) (hn : pc + 3 = pc') (h : Zz X cu su pc' ls st M') : Zz X cu su pc ls (a5 :: a4 :: a3 :: a2 :: a1 :: .ref b :: st) M := z_cg5 hd hw hi hdp hC hci hk hst hcu hsu hM Rt_nx hn (fun u N q => by obtain ⟨q1, q2⟩ := q; cases q1; rw [q2]; exact h)
theorem z_sg1 {y : MT} {ix : Nat} {a1 : Value} {Po : Option Value ⊕ String → Mem → Prop} (hd : decode (xb X) pc = .ok (.invokestatic ix, 3)) (hw : Cond.methodLink (xo X) ix y.1 ∈ W0) (hi : InsS y 1) (hdp : d + 1 ≤ X.2.2.2.2.1) (hst : (st.map fun v => v.category).sum ≤ 8) (hcu : cu ≤ X.2.2.2.2.2.1) (hsu : su ≤ X.2.2.2.2.2.2.1) (hM : Mm X.1 X.2.1 y d 0 0 [a1] M Po) (hnx : ∀ C N, ¬ Po (.inr C) N) (hn : pc + 3 = pc') (h : ∀ v N, Po (.inl v) N → Zz X cu su pc' ls (v.toList ++ st) N) : Zz X cu su pc ls (a1 :: st) M := by
  subst hn
  exact z_callS (As := [a1]) hd hw hi hdp rfl hst hcu hsu hM hnx h
theorem z_sv1 {y : MT} {ix : Nat} {a1 : Value} {v : Value} (hd : decode (xb X) pc = .ok (.invokestatic ix, 3)) (hw : Cond.methodLink (xo X) ix y.1 ∈ W0) (hi : InsS y 1) (hdp : d + 1 ≤ X.2.2.2.2.1) (hst : (st.map fun v => v.category).sum ≤ 8) (hcu : cu ≤ X.2.2.2.2.2.1) (hsu : su ≤ X.2.2.2.2.2.2.1) (hM : Mm X.1 X.2.1 y d 0 0 [a1] M (Rt (some v) M')) (hn : pc + 3 = pc') (h : Zz X cu su pc' ls (v :: st) M') : Zz X cu su pc ls (a1 :: st) M := z_sg1 hd hw hi hdp hst hcu hsu hM Rt_nx hn (fun u N q => by obtain ⟨q1, q2⟩ := q; cases q1; rw [q2]; exact h)
theorem z_sn1 {y : MT} {ix : Nat} {a1 : Value} (hd : decode (xb X) pc = .ok (.invokestatic ix, 3)) (hw : Cond.methodLink (xo X) ix y.1 ∈ W0) (hi : InsS y 1) (hdp : d + 1 ≤ X.2.2.2.2.1) (hst : (st.map fun v => v.category).sum ≤ 8) (hcu : cu ≤ X.2.2.2.2.2.1) (hsu : su ≤ X.2.2.2.2.2.2.1) (hM : Mm X.1 X.2.1 y d 0 0 [a1] M (Rt none M')) (hn : pc + 3 = pc') (h : Zz X cu su pc' ls st M') : Zz X cu su pc ls (a1 :: st) M := z_sg1 hd hw hi hdp hst hcu hsu hM Rt_nx hn (fun u N q => by obtain ⟨q1, q2⟩ := q; cases q1; rw [q2]; exact h)
theorem z_sg2 {y : MT} {ix : Nat} {a1 a2 : Value} {Po : Option Value ⊕ String → Mem → Prop} (hd : decode (xb X) pc = .ok (.invokestatic ix, 3)) (hw : Cond.methodLink (xo X) ix y.1 ∈ W0) (hi : InsS y 2) (hdp : d + 1 ≤ X.2.2.2.2.1) (hst : (st.map fun v => v.category).sum ≤ 8) (hcu : cu ≤ X.2.2.2.2.2.1) (hsu : su ≤ X.2.2.2.2.2.2.1) (hM : Mm X.1 X.2.1 y d 0 0 [a1, a2] M Po) (hnx : ∀ C N, ¬ Po (.inr C) N) (hn : pc + 3 = pc') (h : ∀ v N, Po (.inl v) N → Zz X cu su pc' ls (v.toList ++ st) N) : Zz X cu su pc ls (a2 :: a1 :: st) M := by
  subst hn
  exact z_callS (As := [a1, a2]) hd hw hi hdp rfl hst hcu hsu hM hnx h
theorem z_sv2 {y : MT} {ix : Nat} {a1 a2 : Value} {v : Value} (hd : decode (xb X) pc = .ok (.invokestatic ix, 3)) (hw : Cond.methodLink (xo X) ix y.1 ∈ W0) (hi : InsS y 2) (hdp : d + 1 ≤ X.2.2.2.2.1) (hst : (st.map fun v => v.category).sum ≤ 8) (hcu : cu ≤ X.2.2.2.2.2.1) (hsu : su ≤ X.2.2.2.2.2.2.1) (hM : Mm X.1 X.2.1 y d 0 0 [a1, a2] M (Rt (some v) M')) (hn : pc + 3 = pc') (h : Zz X cu su pc' ls (v :: st) M') : Zz X cu su pc ls (a2 :: a1 :: st) M := z_sg2 hd hw hi hdp hst hcu hsu hM Rt_nx hn (fun u N q => by obtain ⟨q1, q2⟩ := q; cases q1; rw [q2]; exact h)
theorem z_sn2 {y : MT} {ix : Nat} {a1 a2 : Value} (hd : decode (xb X) pc = .ok (.invokestatic ix, 3)) (hw : Cond.methodLink (xo X) ix y.1 ∈ W0) (hi : InsS y 2) (hdp : d + 1 ≤ X.2.2.2.2.1) (hst : (st.map fun v => v.category).sum ≤ 8) (hcu : cu ≤ X.2.2.2.2.2.1) (hsu : su ≤ X.2.2.2.2.2.2.1) (hM : Mm X.1 X.2.1 y d 0 0 [a1, a2] M (Rt none M')) (hn : pc + 3 = pc') (h : Zz X cu su pc' ls st M') : Zz X cu su pc ls (a2 :: a1 :: st) M := z_sg2 hd hw hi hdp hst hcu hsu hM Rt_nx hn (fun u N q => by obtain ⟨q1, q2⟩ := q; cases q1; rw [q2]; exact h)
theorem z_sg3 {y : MT} {ix : Nat} {a1 a2 a3 : Value} {Po : Option Value ⊕ String → Mem → Prop} (hd : decode (xb X) pc = .ok (.invokestatic ix, 3)) (hw : Cond.methodLink (xo X) ix y.1 ∈ W0) (hi : InsS y 3) (hdp : d + 1 ≤ X.2.2.2.2.1) (hst : (st.map fun v => v.category).sum ≤ 8) (hcu : cu ≤ X.2.2.2.2.2.1) (hsu : su ≤ X.2.2.2.2.2.2.1) (hM : Mm X.1 X.2.1 y d 0 0 [a1, a2, a3] M Po) (hnx : ∀ C N, ¬ Po (.inr C) N) (hn : pc + 3 = pc') (h : ∀ v N, Po (.inl v) N → Zz X cu su pc' ls (v.toList ++ st) N) : Zz X cu su pc ls (a3 :: a2 :: a1 :: st) M := by
  subst hn
  exact z_callS (As := [a1, a2, a3]) hd hw hi hdp rfl hst hcu hsu hM hnx h
theorem z_sv3 {y : MT} {ix : Nat} {a1 a2 a3 : Value} {v : Value} (hd : decode (xb X) pc = .ok (.invokestatic ix, 3)) (hw : Cond.methodLink (xo X) ix y.1 ∈ W0) (hi : InsS y 3) (hdp : d + 1 ≤ X.2.2.2.2.1) (hst : (st.map fun v => v.category).sum ≤ 8) (hcu : cu ≤ X.2.2.2.2.2.1) (hsu : su ≤ X.2.2.2.2.2.2.1) (hM : Mm X.1 X.2.1 y d 0 0 [a1, a2, a3] M (Rt (some v) M')) (hn : pc + 3 = pc') (h : Zz X cu su pc' ls (v :: st) M') : Zz X cu su pc ls (a3 :: a2 :: a1 :: st) M := z_sg3 hd hw hi hdp hst hcu hsu hM Rt_nx hn (fun u N q => by obtain ⟨q1, q2⟩ := q; cases q1; rw [q2]; exact h)
theorem z_sn3 {y : MT} {ix : Nat} {a1 a2 a3 : Value} (hd : decode (xb X) pc = .ok (.invokestatic ix, 3)) (hw : Cond.methodLink (xo X) ix y.1 ∈ W0) (hi : InsS y 3) (hdp : d + 1 ≤ X.2.2.2.2.1) (hst : (st.map fun v => v.category).sum ≤ 8) (hcu : cu ≤ X.2.2.2.2.2.1) (hsu : su ≤ X.2.2.2.2.2.2.1) (hM : Mm X.1 X.2.1 y d 0 0 [a1, a2, a3] M (Rt none M')) (hn : pc + 3 = pc') (h : Zz X cu su pc' ls st M') : Zz X cu su pc ls (a3 :: a2 :: a1 :: st) M := z_sg3 hd hw hi hdp hst hcu hsu hM Rt_nx hn (fun u N q => by obtain ⟨q1, q2⟩ := q; cases q1; rw [q2]; exact h)
theorem z_sg4 {y : MT} {ix : Nat} {a1 a2 a3 a4 : Value} {Po : Option Value ⊕ String → Mem → Prop} (hd : decode (xb X) pc = .ok (.invokestatic ix, 3)) (hw : Cond.methodLink (xo X) ix y.1 ∈ W0) (hi : InsS y 4) (hdp : d + 1 ≤ X.2.2.2.2.1) (hst : (st.map fun v => v.category).sum ≤ 8) (hcu : cu ≤ X.2.2.2.2.2.1) (hsu : su ≤ X.2.2.2.2.2.2.1) (hM : Mm X.1 X.2.1 y d 0 0 [a1, a2, a3, a4] M Po) (hnx : ∀ C N, ¬ Po (.inr C) N) (hn : pc + 3 = pc') (h : ∀ v N, Po (.inl v) N → Zz X cu su pc' ls (v.toList ++ st) N) : Zz X cu su pc ls (a4 :: a3 :: a2 :: a1 :: st) M := by
  subst hn
  exact z_callS (As := [a1, a2, a3, a4]) hd hw hi hdp rfl hst hcu hsu hM hnx h
theorem z_sv4 {y : MT} {ix : Nat} {a1 a2 a3 a4 : Value} {v : Value} (hd : decode (xb X) pc = .ok (.invokestatic ix, 3)) (hw : Cond.methodLink (xo X) ix y.1 ∈ W0) (hi : InsS y 4) (hdp : d + 1 ≤ X.2.2.2.2.1) (hst : (st.map fun v => v.category).sum ≤ 8) (hcu : cu ≤ X.2.2.2.2.2.1) (hsu : su ≤ X.2.2.2.2.2.2.1) (hM : Mm X.1 X.2.1 y d 0 0 [a1, a2, a3, a4] M (Rt (some v) M')) (hn : pc + 3 = pc') (h : Zz X cu su pc' ls (v :: st) M') : Zz X cu su pc ls (a4 :: a3 :: a2 :: a1 :: st) M := z_sg4 hd hw hi hdp hst hcu hsu hM Rt_nx hn (fun u N q => by obtain ⟨q1, q2⟩ := q; cases q1; rw [q2]; exact h)
theorem z_sn4 {y : MT} {ix : Nat} {a1 a2 a3 a4 : Value} (hd : decode (xb X) pc = .ok (.invokestatic ix, 3)) (hw : Cond.methodLink (xo X) ix y.1 ∈ W0) (hi : InsS y 4) (hdp : d + 1 ≤ X.2.2.2.2.1) (hst : (st.map fun v => v.category).sum ≤ 8) (hcu : cu ≤ X.2.2.2.2.2.1) (hsu : su ≤ X.2.2.2.2.2.2.1) (hM : Mm X.1 X.2.1 y d 0 0 [a1, a2, a3, a4] M (Rt none M')) (hn : pc + 3 = pc') (h : Zz X cu su pc' ls st M') : Zz X cu su pc ls (a4 :: a3 :: a2 :: a1 :: st) M := z_sg4 hd hw hi hdp hst hcu hsu hM Rt_nx hn (fun u N q => by obtain ⟨q1, q2⟩ := q; cases q1; rw [q2]; exact h)
theorem jd_in : Cond.initialized "java/lang/Math" ∈ W0 := in_J9
theorem jd_smax : Cond.static Lib.Math.max.name ∈ W0 := w0_2 145 rfl rfl
theorem jd_cmax : Cond.code Lib.Math.max.name Lib.Math.max.code 2 (some .int) ∈ W0 := w0_2 146 rfl rfl
theorem jd_smin : Cond.static Lib.Math.min.name ∈ W0 := w0_2 83 rfl rfl
theorem jd_cmin : Cond.code Lib.Math.min.name Lib.Math.min.code 2 (some .int) ∈ W0 := w0_2 84 rfl rfl
theorem z_mmax {ix : Nat} {a b : Int32} (hd : decode (xb X) pc = .ok (.invokestatic ix, 3)) (hw : Cond.methodLink (xo X) ix Lib.Math.max.name ∈ W0) (hdp : 1 ≤ X.2.2.2.2.1) (hst : (st.map fun v => v.category).sum ≤ 8) (hcu : cu ≤ X.2.2.2.2.2.1) (hsu : su ≤ X.2.2.2.2.2.2.1) (hn : pc + 3 = pc') (h : Zz X cu su pc' ls (.int (if a < b then b else a) :: st) M) : Zz X cu su pc ls (.int b :: .int a :: st) M := by
  subst hn
  intro p e s m args below meth c H locs lsA C
  obtain ⟨⟨hx, hb, hr, hml, hown, hts, hlk, htb, hls⟩, ⟨hK, hSt, hsz⟩, ⟨hP, hD, hS⟩, hl⟩ := id C
  refine va_mmax hx hb (by rw [hml]; exact hl.1.symm) hown (hts _ hw) (hts _ jd_smax) (hts _ jd_in) (hts _ jd_cmax) hdp ?_ hcu hsu hd (h p e s m args below meth c H locs lsA C)
  have hcats : (((st.map (trv (eAd X.2.1))).map fun v => v.category).sum) ≤ 8 := by
    rw [List.map_map, show ((fun v : Value => v.category) ∘ trv (eAd X.2.1)) = fun v => v.category from funext fun v => trv_cat _ v]
    exact hst
  show _ ≤ 40 * X.2.2.2.2.1
  omega
theorem z_mmin {ix : Nat} {a b : Int32} (hd : decode (xb X) pc = .ok (.invokestatic ix, 3)) (hw : Cond.methodLink (xo X) ix Lib.Math.min.name ∈ W0) (hdp : 1 ≤ X.2.2.2.2.1) (hst : (st.map fun v => v.category).sum ≤ 8) (hcu : cu ≤ X.2.2.2.2.2.1) (hsu : su ≤ X.2.2.2.2.2.2.1) (hn : pc + 3 = pc') (h : Zz X cu su pc' ls (.int (if b < a then b else a) :: st) M) : Zz X cu su pc ls (.int b :: .int a :: st) M := by
  subst hn
  intro p e s m args below meth c H locs lsA C
  obtain ⟨⟨hx, hb, hr, hml, hown, hts, hlk, htb, hls⟩, ⟨hK, hSt, hsz⟩, ⟨hP, hD, hS⟩, hl⟩ := id C
  refine va_mmin hx hb (by rw [hml]; exact hl.1.symm) hown (hts _ hw) (hts _ jd_smin) (hts _ jd_in) (hts _ jd_cmin) hdp ?_ hcu hsu hd (h p e s m args below meth c H locs lsA C)
  have hcats : (((st.map (trv (eAd X.2.1))).map fun v => v.category).sum) ≤ 8 := by
    rw [List.map_map, show ((fun v : Value => v.category) ∘ trv (eAd X.2.1)) = fun v => v.category from funext fun v => trv_cat _ v]
    exact hst
  show _ ≤ 40 * X.2.2.2.2.1
  omega
end ZA
theorem iv_X6_feed : InsV mX6_feed 5 := ⟨cd_X6_feed, im_X6_feed, sl_X6_feed, in_X6, ⟨by decide, by decide⟩, by decide +kernel, by decide⟩
theorem iv_X3_put : InsV mX3_put 1 := ⟨cd_X3_put, im_X3_put, sl_X3_put, in_X3, ⟨by decide, by decide⟩, by decide +kernel, by decide⟩
theorem iv_X6_fault : InsV mX6_fault 0 := ⟨cd_X6_fault, im_X6_fault, sl_X6_fault, in_X6, ⟨by decide, by decide⟩, by decide +kernel, by decide⟩
theorem iv_X6_noise : InsV mX6_noise 1 := ⟨cd_X6_noise, im_X6_noise, sl_X6_noise, in_X6, ⟨by decide, by decide⟩, by decide +kernel, by decide⟩
theorem iv_X6_draw : InsV mX6_draw 0 := ⟨cd_X6_draw, im_X6_draw, sl_X6_draw, in_X6, ⟨by decide, by decide⟩, by decide +kernel, by decide⟩
theorem iv_X2_addDraw : InsV mX2_addDraw 1 := ⟨cd_X2_addDraw, im_X2_addDraw, sl_X2_addDraw, in_X2, ⟨by decide, by decide⟩, by decide +kernel, by decide⟩
theorem iv_X4_drawnHours : InsV mX4_drawnHours 1 := ⟨cd_X4_drawnHours, im_X4_drawnHours, sl_X4_drawnHours, in_X4, ⟨by decide, by decide⟩, by decide +kernel, by decide⟩
theorem iv_X6_best : InsV mX6_best 0 := ⟨cd_X6_best, im_X6_best, sl_X6_best, in_X6, ⟨by decide, by decide⟩, by decide +kernel, by decide⟩
theorem iv_X2_walk : InsV mX2_walk 2 := ⟨cd_X2_walk, im_X2_walk, sl_X2_walk, in_X2, ⟨by decide, by decide⟩, by decide +kernel, by decide⟩
theorem iv_J7_fill_53178 : InsS mJ7_fill_53178 2 := ⟨cd_J7_fill_53178, sm_J7_fill_53178, in_J7, ⟨by decide, by decide⟩, by decide +kernel, by decide⟩
theorem iv_X2_beginAt : InsV mX2_beginAt 3 := ⟨cd_X2_beginAt, im_X2_beginAt, sl_X2_beginAt, in_X2, ⟨by decide, by decide⟩, by decide +kernel, by decide⟩
theorem iv_X2_canBegin : InsV mX2_canBegin 1 := ⟨cd_X2_canBegin, im_X2_canBegin, sl_X2_canBegin, in_X2, ⟨by decide, by decide⟩, by decide +kernel, by decide⟩
theorem iv_X2_nextStop : InsV mX2_nextStop 0 := ⟨cd_X2_nextStop, im_X2_nextStop, sl_X2_nextStop, in_X2, ⟨by decide, by decide⟩, by decide +kernel, by decide⟩
theorem iv_X2_isRunning : InsV mX2_isRunning 1 := ⟨cd_X2_isRunning, im_X2_isRunning, sl_X2_isRunning, in_X2, ⟨by decide, by decide⟩, by decide +kernel, by decide⟩
theorem iv_J9_min_7cf53 : InsS mJ9_min_7cf53 2 := ⟨cd_J9_min_7cf53, sm_J9_min_7cf53, in_J9, ⟨by decide, by decide⟩, by decide +kernel, by decide⟩
theorem iv_X2_endAt : InsV mX2_endAt 1 := ⟨cd_X2_endAt, im_X2_endAt, sl_X2_endAt, in_X2, ⟨by decide, by decide⟩, by decide +kernel, by decide⟩
theorem iv_X1_find : InsV mX1_find 1 := ⟨cd_X1_find, im_X1_find, sl_X1_find, in_X1, ⟨by decide, by decide⟩, by decide +kernel, by decide⟩
theorem iv_X1_tryFrom : InsV mX1_tryFrom 3 := ⟨cd_X1_tryFrom, im_X1_tryFrom, sl_X1_tryFrom, in_X1, ⟨by decide, by decide⟩, by decide +kernel, by decide⟩
theorem iv_X1_judge : InsV mX1_judge 1 := ⟨cd_X1_judge, im_X1_judge, sl_X1_judge, in_X1, ⟨by decide, by decide⟩, by decide +kernel, by decide⟩
theorem iv_X1_isNeedless : InsV mX1_isNeedless 3 := ⟨cd_X1_isNeedless, im_X1_isNeedless, sl_X1_isNeedless, in_X1, ⟨by decide, by decide⟩, by decide +kernel, by decide⟩
theorem iv_X4_isAfter : InsV mX4_isAfter 1 := ⟨cd_X4_isAfter, im_X4_isAfter, sl_X4_isAfter, in_X4, ⟨by decide, by decide⟩, by decide +kernel, by decide⟩
theorem iv_X4_competesWith : InsV mX4_competesWith 1 := ⟨cd_X4_competesWith, im_X4_competesWith, sl_X4_competesWith, in_X4, ⟨by decide, by decide⟩, by decide +kernel, by decide⟩
theorem iv_X6_order : InsV mX6_order 1 := ⟨cd_X6_order, im_X6_order, sl_X6_order, in_X6, ⟨by decide, by decide⟩, by decide +kernel, by decide⟩
theorem iv_X6_part : InsV mX6_part 0 := ⟨cd_X6_part, im_X6_part, sl_X6_part, in_X6, ⟨by decide, by decide⟩, by decide +kernel, by decide⟩
theorem iv_X2_walkDraws : InsV mX2_walkDraws 0 := ⟨cd_X2_walkDraws, im_X2_walkDraws, sl_X2_walkDraws, in_X2, ⟨by decide, by decide⟩, by decide +kernel, by decide⟩
theorem iv_X2_drawsWithin : InsV mX2_drawsWithin 1 := ⟨cd_X2_drawsWithin, im_X2_drawsWithin, sl_X2_drawsWithin, in_X2, ⟨by decide, by decide⟩, by decide +kernel, by decide⟩
theorem iv_X6_on : InsV mX6_on 0 := ⟨cd_X6_on, im_X6_on, sl_X6_on, in_X6, ⟨by decide, by decide⟩, by decide +kernel, by decide⟩
theorem iv_X2_lateEnds : InsV mX2_lateEnds 1 := ⟨cd_X2_lateEnds, im_X2_lateEnds, sl_X2_lateEnds, in_X2, ⟨by decide, by decide⟩, by decide +kernel, by decide⟩
theorem iv_J9_max_7cf53 : InsS mJ9_max_7cf53 2 := ⟨cd_J9_max_7cf53, sm_J9_max_7cf53, in_J9, ⟨by decide, by decide⟩, by decide +kernel, by decide⟩
theorem iv_X6_last : InsV mX6_last 0 := ⟨cd_X6_last, im_X6_last, sl_X6_last, in_X6, ⟨by decide, by decide⟩, by decide +kernel, by decide⟩
theorem iv_X6_isOffHeld : InsV mX6_isOffHeld 2 := ⟨cd_X6_isOffHeld, im_X6_isOffHeld, sl_X6_isOffHeld, in_X6, ⟨by decide, by decide⟩, by decide +kernel, by decide⟩
theorem iv_X2_lateBacks : InsV mX2_lateBacks 2 := ⟨cd_X2_lateBacks, im_X2_lateBacks, sl_X2_lateBacks, in_X2, ⟨by decide, by decide⟩, by decide +kernel, by decide⟩
theorem iv_X2_backFrom : InsV mX2_backFrom 2 := ⟨cd_X2_backFrom, im_X2_backFrom, sl_X2_backFrom, in_X2, ⟨by decide, by decide⟩, by decide +kernel, by decide⟩
theorem iv_X6_ends : InsV mX6_ends 0 := ⟨cd_X6_ends, im_X6_ends, sl_X6_ends, in_X6, ⟨by decide, by decide⟩, by decide +kernel, by decide⟩
theorem iv_X6_leave : InsV mX6_leave 0 := ⟨cd_X6_leave, im_X6_leave, sl_X6_leave, in_X6, ⟨by decide, by decide⟩, by decide +kernel, by decide⟩
theorem iv_X5_clear : InsV mX5_clear 0 := ⟨cd_X5_clear, im_X5_clear, sl_X5_clear, in_X5, ⟨by decide, by decide⟩, by decide +kernel, by decide⟩
theorem iv_X6_out : InsV mX6_out 1 := ⟨cd_X6_out, im_X6_out, sl_X6_out, in_X6, ⟨by decide, by decide⟩, by decide +kernel, by decide⟩
theorem iv_X5_deadEndOf : InsV mX5_deadEndOf 1 := ⟨cd_X5_deadEndOf, im_X5_deadEndOf, sl_X5_deadEndOf, in_X5, ⟨by decide, by decide⟩, by decide +kernel, by decide⟩
theorem iv_X5_trainsAheadOf : InsV mX5_trainsAheadOf 1 := ⟨cd_X5_trainsAheadOf, im_X5_trainsAheadOf, sl_X5_trainsAheadOf, in_X5, ⟨by decide, by decide⟩, by decide +kernel, by decide⟩
theorem iv_X6_count : InsV mX6_count 1 := ⟨cd_X6_count, im_X6_count, sl_X6_count, in_X6, ⟨by decide, by decide⟩, by decide +kernel, by decide⟩
theorem iv_X6_work : InsV mX6_work 1 := ⟨cd_X6_work, im_X6_work, sl_X6_work, in_X6, ⟨by decide, by decide⟩, by decide +kernel, by decide⟩
theorem iv_X3_read : InsV mX3_read 2 := ⟨cd_X3_read, im_X3_read, sl_X3_read, in_X3, ⟨by decide, by decide⟩, by decide +kernel, by decide⟩
theorem iv_X3_startReading : InsV mX3_startReading 2 := ⟨cd_X3_startReading, im_X3_startReading, sl_X3_startReading, in_X3, ⟨by decide, by decide⟩, by decide +kernel, by decide⟩
theorem iv_X4_clear : InsV mX4_clear 0 := ⟨cd_X4_clear, im_X4_clear, sl_X4_clear, in_X4, ⟨by decide, by decide⟩, by decide +kernel, by decide⟩
theorem iv_X3_skipBlanks : InsV mX3_skipBlanks 0 := ⟨cd_X3_skipBlanks, im_X3_skipBlanks, sl_X3_skipBlanks, in_X3, ⟨by decide, by decide⟩, by decide +kernel, by decide⟩
theorem iv_X3_readClause : InsV mX3_readClause 0 := ⟨cd_X3_readClause, im_X3_readClause, sl_X3_readClause, in_X3, ⟨by decide, by decide⟩, by decide +kernel, by decide⟩
theorem iv_X3_readClauseWord : InsV mX3_readClauseWord 0 := ⟨cd_X3_readClauseWord, im_X3_readClauseWord, sl_X3_readClauseWord, in_X3, ⟨by decide, by decide⟩, by decide +kernel, by decide⟩
theorem iv_X3_skipWord : InsV mX3_skipWord 0 := ⟨cd_X3_skipWord, im_X3_skipWord, sl_X3_skipWord, in_X3, ⟨by decide, by decide⟩, by decide +kernel, by decide⟩
theorem iv_X3_spells : InsV mX3_spells 2 := ⟨cd_X3_spells, im_X3_spells, sl_X3_spells, in_X3, ⟨by decide, by decide⟩, by decide +kernel, by decide⟩
theorem iv_J0_length_8abf5 : InsV mJ0_length_8abf5 0 := ⟨cd_J0_length_8abf5, im_J0_length_8abf5, sl_J0_length_8abf5, in_J0, ⟨by decide, by decide⟩, by decide +kernel, by decide⟩
theorem iv_J0_coder_7d493 : InsV mJ0_coder_7d493 0 := ⟨cd_J0_coder_7d493, im_J0_coder_7d493, sl_J0_coder_7d493, in_J0, ⟨by decide, by decide⟩, by decide +kernel, by decide⟩
theorem iv_J0_charAt_5068e : InsV mJ0_charAt_5068e 1 := ⟨cd_J0_charAt_5068e, im_J0_charAt_5068e, sl_J0_charAt_5068e, in_J0, ⟨by decide, by decide⟩, by decide +kernel, by decide⟩
theorem iv_J0_isLatin1_aae02 : InsV mJ0_isLatin1_aae02 0 := ⟨cd_J0_isLatin1_aae02, im_J0_isLatin1_aae02, sl_J0_isLatin1_aae02, in_J0, ⟨by decide, by decide⟩, by decide +kernel, by decide⟩
theorem iv_J1_charAt_3b067 : InsS mJ1_charAt_3b067 2 := ⟨cd_J1_charAt_3b067, sm_J1_charAt_3b067, in_J1, ⟨by decide, by decide⟩, by decide +kernel, by decide⟩
theorem iv_J0_checkIndex_df160 : InsS mJ0_checkIndex_df160 2 := ⟨cd_J0_checkIndex_df160, sm_J0_checkIndex_df160, in_J0, ⟨by decide, by decide⟩, by decide +kernel, by decide⟩
theorem iv_J3_checkIndex_8e157 : InsS mJ3_checkIndex_8e157 3 := ⟨cd_J3_checkIndex_8e157, sm_J3_checkIndex_8e157, in_J3, ⟨by decide, by decide⟩, by decide +kernel, by decide⟩
theorem iv_J2_charAt_3b067 : InsS mJ2_charAt_3b067 2 := ⟨cd_J2_charAt_3b067, sm_J2_charAt_3b067, in_J2, ⟨by decide, by decide⟩, by decide +kernel, by decide⟩
theorem iv_J2_checkIndex_2214a : InsS mJ2_checkIndex_2214a 2 := ⟨cd_J2_checkIndex_2214a, sm_J2_checkIndex_2214a, in_J2, ⟨by decide, by decide⟩, by decide +kernel, by decide⟩
theorem iv_J2_length_9d52b : InsS mJ2_length_9d52b 1 := ⟨cd_J2_length_9d52b, sm_J2_length_9d52b, in_J2, ⟨by decide, by decide⟩, by decide +kernel, by decide⟩
theorem iv_J2_getChar_3b067 : InsS mJ2_getChar_3b067 2 := ⟨cd_J2_getChar_3b067, sm_J2_getChar_3b067, in_J2, ⟨by decide, by decide⟩, by decide +kernel, by decide⟩
theorem iv_X3_isRead : InsV mX3_isRead 1 := ⟨cd_X3_isRead, im_X3_isRead, sl_X3_isRead, in_X3, ⟨by decide, by decide⟩, by decide +kernel, by decide⟩
theorem iv_X3_refuse : InsV mX3_refuse 2 := ⟨cd_X3_refuse, im_X3_refuse, sl_X3_refuse, in_X3, ⟨by decide, by decide⟩, by decide +kernel, by decide⟩
theorem iv_X3_readRest : InsV mX3_readRest 1 := ⟨cd_X3_readRest, im_X3_readRest, sl_X3_readRest, in_X3, ⟨by decide, by decide⟩, by decide +kernel, by decide⟩
theorem iv_X3_readHours : InsV mX3_readHours 0 := ⟨cd_X3_readHours, im_X3_readHours, sl_X3_readHours, in_X3, ⟨by decide, by decide⟩, by decide +kernel, by decide⟩
theorem iv_X3_readNumber : InsV mX3_readNumber 2 := ⟨cd_X3_readNumber, im_X3_readNumber, sl_X3_readNumber, in_X3, ⟨by decide, by decide⟩, by decide +kernel, by decide⟩
theorem iv_X3_isDigitHere : InsV mX3_isDigitHere 0 := ⟨cd_X3_isDigitHere, im_X3_isDigitHere, sl_X3_isDigitHere, in_X3, ⟨by decide, by decide⟩, by decide +kernel, by decide⟩
theorem iv_X3_readSign : InsV mX3_readSign 1 := ⟨cd_X3_readSign, im_X3_readSign, sl_X3_readSign, in_X3, ⟨by decide, by decide⟩, by decide +kernel, by decide⟩
theorem iv_X3_readThing : InsV mX3_readThing 0 := ⟨cd_X3_readThing, im_X3_readThing, sl_X3_readThing, in_X3, ⟨by decide, by decide⟩, by decide +kernel, by decide⟩
theorem iv_X3_readHands : InsV mX3_readHands 0 := ⟨cd_X3_readHands, im_X3_readHands, sl_X3_readHands, in_X3, ⟨by decide, by decide⟩, by decide +kernel, by decide⟩
theorem iv_X3_readBack : InsV mX3_readBack 0 := ⟨cd_X3_readBack, im_X3_readBack, sl_X3_readBack, in_X3, ⟨by decide, by decide⟩, by decide +kernel, by decide⟩
theorem iv_X3_readAfter : InsV mX3_readAfter 0 := ⟨cd_X3_readAfter, im_X3_readAfter, sl_X3_readAfter, in_X3, ⟨by decide, by decide⟩, by decide +kernel, by decide⟩
theorem iv_X3_isNumberNext : InsV mX3_isNumberNext 0 := ⟨cd_X3_isNumberNext, im_X3_isNumberNext, sl_X3_isNumberNext, in_X3, ⟨by decide, by decide⟩, by decide +kernel, by decide⟩
theorem iv_X2_add : InsV mX2_add 1 := ⟨cd_X2_add, im_X2_add, sl_X2_add, in_X2, ⟨by decide, by decide⟩, by decide +kernel, by decide⟩
theorem iv_X4_copyFrom : InsV mX4_copyFrom 1 := ⟨cd_X4_copyFrom, im_X4_copyFrom, sl_X4_copyFrom, in_X4, ⟨by decide, by decide⟩, by decide +kernel, by decide⟩
theorem iv_X6_told : InsV mX6_told 2 := ⟨cd_X6_told, im_X6_told, sl_X6_told, in_X6, ⟨by decide, by decide⟩, by decide +kernel, by decide⟩
theorem iv_X2_hasWork : InsV mX2_hasWork 1 := ⟨cd_X2_hasWork, im_X2_hasWork, sl_X2_hasWork, in_X2, ⟨by decide, by decide⟩, by decide +kernel, by decide⟩
theorem iv_X6_set : InsV mX6_set 2 := ⟨cd_X6_set, im_X6_set, sl_X6_set, in_X6, ⟨by decide, by decide⟩, by decide +kernel, by decide⟩
theorem iv_X6_hours : InsV mX6_hours 2 := ⟨cd_X6_hours, im_X6_hours, sl_X6_hours, in_X6, ⟨by decide, by decide⟩, by decide +kernel, by decide⟩
theorem iv_X2_hasRow : InsV mX2_hasRow 1 := ⟨cd_X2_hasRow, im_X2_hasRow, sl_X2_hasRow, in_X2, ⟨by decide, by decide⟩, by decide +kernel, by decide⟩
theorem iv_X6_end : InsV mX6_end 1 := ⟨cd_X6_end, im_X6_end, sl_X6_end, in_X6, ⟨by decide, by decide⟩, by decide +kernel, by decide⟩
theorem iv_X6_begins : InsV mX6_begins 2 := ⟨cd_X6_begins, im_X6_begins, sl_X6_begins, in_X6, ⟨by decide, by decide⟩, by decide +kernel, by decide⟩
theorem iv_X6_move : InsV mX6_move 2 := ⟨cd_X6_move, im_X6_move, sl_X6_move, in_X6, ⟨by decide, by decide⟩, by decide +kernel, by decide⟩
theorem iv_X2_shift : InsV mX2_shift 2 := ⟨cd_X2_shift, im_X2_shift, sl_X2_shift, in_X2, ⟨by decide, by decide⟩, by decide +kernel, by decide⟩
theorem iv_X6_off : InsV mX6_off 1 := ⟨cd_X6_off, im_X6_off, sl_X6_off, in_X6, ⟨by decide, by decide⟩, by decide +kernel, by decide⟩
theorem iv_X6_train : InsV mX6_train 1 := ⟨cd_X6_train, im_X6_train, sl_X6_train, in_X6, ⟨by decide, by decide⟩, by decide +kernel, by decide⟩
theorem iv_X5_has : InsV mX5_has 1 := ⟨cd_X5_has, im_X5_has, sl_X5_has, in_X5, ⟨by decide, by decide⟩, by decide +kernel, by decide⟩
theorem iv_X5_take : InsV mX5_take 1 := ⟨cd_X5_take, im_X5_take, sl_X5_take, in_X5, ⟨by decide, by decide⟩, by decide +kernel, by decide⟩
theorem iv_X5_placeFor : InsV mX5_placeFor 1 := ⟨cd_X5_placeFor, im_X5_placeFor, sl_X5_placeFor, in_X5, ⟨by decide, by decide⟩, by decide +kernel, by decide⟩
theorem iv_X7_thrown : InsV mX7_thrown 0 := ⟨cd_X7_thrown, im_X7_thrown, sl_X7_thrown, in_X7, ⟨by decide, by decide⟩, by decide +kernel, by decide⟩
theorem iv_X7_feed : InsV mX7_feed 5 := ⟨cd_X7_feed, im_X7_feed, sl_X7_feed, in_X7, ⟨by decide, by decide⟩, by decide +kernel, by decide⟩
theorem iv_X7_work : InsV mX7_work 1 := ⟨cd_X7_work, im_X7_work, sl_X7_work, in_X7, ⟨by decide, by decide⟩, by decide +kernel, by decide⟩
theorem iv_X7_bad : InsV mX7_bad 2 := ⟨cd_X7_bad, im_X7_bad, sl_X7_bad, in_X7, ⟨by decide, by decide⟩, by decide +kernel, by decide⟩
theorem iv_X7_blanks : InsV mX7_blanks 0 := ⟨cd_X7_blanks, im_X7_blanks, sl_X7_blanks, in_X7, ⟨by decide, by decide⟩, by decide +kernel, by decide⟩
theorem iv_X7_byteAt : InsV mX7_byteAt 1 := ⟨cd_X7_byteAt, im_X7_byteAt, sl_X7_byteAt, in_X7, ⟨by decide, by decide⟩, by decide +kernel, by decide⟩
theorem iv_X7_clause : InsV mX7_clause 0 := ⟨cd_X7_clause, im_X7_clause, sl_X7_clause, in_X7, ⟨by decide, by decide⟩, by decide +kernel, by decide⟩
theorem iv_X7_wordHere : InsV mX7_wordHere 2 := ⟨cd_X7_wordHere, im_X7_wordHere, sl_X7_wordHere, in_X7, ⟨by decide, by decide⟩, by decide +kernel, by decide⟩
theorem iv_X7_wordOf : InsS mX7_wordOf 1 := ⟨cd_X7_wordOf, sm_X7_wordOf, in_X7, ⟨by decide, by decide⟩, by decide +kernel, by decide⟩
theorem iv_X7_isWord : InsV mX7_isWord 1 := ⟨cd_X7_isWord, im_X7_isWord, sl_X7_isWord, in_X7, ⟨by decide, by decide⟩, by decide +kernel, by decide⟩
theorem iv_X7_wrong : InsV mX7_wrong 2 := ⟨cd_X7_wrong, im_X7_wrong, sl_X7_wrong, in_X7, ⟨by decide, by decide⟩, by decide +kernel, by decide⟩
theorem iv_X7_number : InsV mX7_number 2 := ⟨cd_X7_number, im_X7_number, sl_X7_number, in_X7, ⟨by decide, by decide⟩, by decide +kernel, by decide⟩
theorem iv_X7_isDigit : InsS mX7_isDigit 1 := ⟨cd_X7_isDigit, sm_X7_isDigit, in_X7, ⟨by decide, by decide⟩, by decide +kernel, by decide⟩
theorem iv_X7_sign : InsV mX7_sign 1 := ⟨cd_X7_sign, im_X7_sign, sl_X7_sign, in_X7, ⟨by decide, by decide⟩, by decide +kernel, by decide⟩
theorem iv_X7_fault : InsV mX7_fault 0 := ⟨cd_X7_fault, im_X7_fault, sl_X7_fault, in_X7, ⟨by decide, by decide⟩, by decide +kernel, by decide⟩
theorem iv_X7_told : InsV mX7_told 2 := ⟨cd_X7_told, im_X7_told, sl_X7_told, in_X7, ⟨by decide, by decide⟩, by decide +kernel, by decide⟩
theorem iv_X7_isWork : InsV mX7_isWork 1 := ⟨cd_X7_isWork, im_X7_isWork, sl_X7_isWork, in_X7, ⟨by decide, by decide⟩, by decide +kernel, by decide⟩
theorem iv_X7_set : InsV mX7_set 2 := ⟨cd_X7_set, im_X7_set, sl_X7_set, in_X7, ⟨by decide, by decide⟩, by decide +kernel, by decide⟩
theorem iv_X7_noise : InsV mX7_noise 1 := ⟨cd_X7_noise, im_X7_noise, sl_X7_noise, in_X7, ⟨by decide, by decide⟩, by decide +kernel, by decide⟩
theorem iv_X7_draw : InsV mX7_draw 0 := ⟨cd_X7_draw, im_X7_draw, sl_X7_draw, in_X7, ⟨by decide, by decide⟩, by decide +kernel, by decide⟩
theorem iv_X7_hours : InsV mX7_hours 2 := ⟨cd_X7_hours, im_X7_hours, sl_X7_hours, in_X7, ⟨by decide, by decide⟩, by decide +kernel, by decide⟩
theorem iv_X7_isRow : InsV mX7_isRow 1 := ⟨cd_X7_isRow, im_X7_isRow, sl_X7_isRow, in_X7, ⟨by decide, by decide⟩, by decide +kernel, by decide⟩
theorem iv_X7_hoursOf : InsV mX7_hoursOf 2 := ⟨cd_X7_hoursOf, im_X7_hoursOf, sl_X7_hoursOf, in_X7, ⟨by decide, by decide⟩, by decide +kernel, by decide⟩
theorem iv_X7_end : InsV mX7_end 1 := ⟨cd_X7_end, im_X7_end, sl_X7_end, in_X7, ⟨by decide, by decide⟩, by decide +kernel, by decide⟩
theorem iv_X7_goes : InsV mX7_goes 1 := ⟨cd_X7_goes, im_X7_goes, sl_X7_goes, in_X7, ⟨by decide, by decide⟩, by decide +kernel, by decide⟩
theorem iv_X7_mayBegin : InsV mX7_mayBegin 2 := ⟨cd_X7_mayBegin, im_X7_mayBegin, sl_X7_mayBegin, in_X7, ⟨by decide, by decide⟩, by decide +kernel, by decide⟩
theorem iv_X7_begins : InsV mX7_begins 2 := ⟨cd_X7_begins, im_X7_begins, sl_X7_begins, in_X7, ⟨by decide, by decide⟩, by decide +kernel, by decide⟩
theorem iv_X7_best : InsV mX7_best 0 := ⟨cd_X7_best, im_X7_best, sl_X7_best, in_X7, ⟨by decide, by decide⟩, by decide +kernel, by decide⟩
theorem iv_X7_isNext : InsV mX7_isNext 0 := ⟨cd_X7_isNext, im_X7_isNext, sl_X7_isNext, in_X7, ⟨by decide, by decide⟩, by decide +kernel, by decide⟩
theorem iv_X7_isUsed : InsV mX7_isUsed 2 := ⟨cd_X7_isUsed, im_X7_isUsed, sl_X7_isUsed, in_X7, ⟨by decide, by decide⟩, by decide +kernel, by decide⟩
theorem iv_X7_order : InsV mX7_order 1 := ⟨cd_X7_order, im_X7_order, sl_X7_order, in_X7, ⟨by decide, by decide⟩, by decide +kernel, by decide⟩
theorem iv_X7_move : InsV mX7_move 2 := ⟨cd_X7_move, im_X7_move, sl_X7_move, in_X7, ⟨by decide, by decide⟩, by decide +kernel, by decide⟩
theorem iv_X7_part : InsV mX7_part 0 := ⟨cd_X7_part, im_X7_part, sl_X7_part, in_X7, ⟨by decide, by decide⟩, by decide +kernel, by decide⟩
theorem iv_X7_on : InsV mX7_on 0 := ⟨cd_X7_on, im_X7_on, sl_X7_on, in_X7, ⟨by decide, by decide⟩, by decide +kernel, by decide⟩
theorem iv_X7_onOf : InsV mX7_onOf 0 := ⟨cd_X7_onOf, im_X7_onOf, sl_X7_onOf, in_X7, ⟨by decide, by decide⟩, by decide +kernel, by decide⟩
theorem iv_X7_late : InsV mX7_late 1 := ⟨cd_X7_late, im_X7_late, sl_X7_late, in_X7, ⟨by decide, by decide⟩, by decide +kernel, by decide⟩
theorem iv_X7_off : InsV mX7_off 1 := ⟨cd_X7_off, im_X7_off, sl_X7_off, in_X7, ⟨by decide, by decide⟩, by decide +kernel, by decide⟩
theorem iv_X7_offOf : InsV mX7_offOf 1 := ⟨cd_X7_offOf, im_X7_offOf, sl_X7_offOf, in_X7, ⟨by decide, by decide⟩, by decide +kernel, by decide⟩
theorem iv_X7_last : InsV mX7_last 0 := ⟨cd_X7_last, im_X7_last, sl_X7_last, in_X7, ⟨by decide, by decide⟩, by decide +kernel, by decide⟩
theorem iv_X7_train : InsV mX7_train 1 := ⟨cd_X7_train, im_X7_train, sl_X7_train, in_X7, ⟨by decide, by decide⟩, by decide +kernel, by decide⟩
theorem iv_X7_ends : InsV mX7_ends 0 := ⟨cd_X7_ends, im_X7_ends, sl_X7_ends, in_X7, ⟨by decide, by decide⟩, by decide +kernel, by decide⟩
theorem iv_X7_leave : InsV mX7_leave 0 := ⟨cd_X7_leave, im_X7_leave, sl_X7_leave, in_X7, ⟨by decide, by decide⟩, by decide +kernel, by decide⟩
theorem iv_X7_out : InsV mX7_out 1 := ⟨cd_X7_out, im_X7_out, sl_X7_out, in_X7, ⟨by decide, by decide⟩, by decide +kernel, by decide⟩
theorem iv_X7_count : InsV mX7_count 1 := ⟨cd_X7_count, im_X7_count, sl_X7_count, in_X7, ⟨by decide, by decide⟩, by decide +kernel, by decide⟩
