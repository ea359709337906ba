/-! what the Statement gives at the law's entry: the environment E -/
abbrev lwF : List Cond := flatC (Jvm.Cond.and given_1 narrow_1)
def twi : List Nat := [80, 86, 88, 90, 92, 121, 126, 128]
def mwi : List Nat := [111, 113, 115, 116, 117, 118, 120, 122]
def txi : List Nat := [57, 67, 91, 118, 123, 135, 172, 187, 196]
def tmW (i : Nat) : Term := .string RX3 (twi.getD i 0)
def tmM (i : Nat) : Term := .string RX7 (mwi.getD i 0)
def tmT (i : Nat) : Term := .string RX6 (txi.getD i 0)
def rk1 : List Nat := [0, 1, 4, 91, 94, 98, 2, 3, 5, 6, 7, 8, 92, 93, 95, 96, 97]
/-- the when of a cell: it is made as the rk k-th -/
def rk (k : Nat) : Nat := if k < 17 then rk1.getD k 0 else if k < 33 then (k - 17) + 9 else if k < 55 then 25 + 3 * (k - 33) else if k < 77 then 26 + 3 * (k - 55) else if k < 99 then 27 + 3 * (k - 77) else k
theorem f_hex : ∀ i, i < 8 → Cond.exactly (tmW i) "java/lang/String" ∈ lwF := by decide +kernel
theorem f_hco : ∀ i, i < 8 → Cond.eq (.field (tmW i) "java/lang/String" "coder" "B") (.int 0) ∈ lwF := by decide +kernel
theorem f_har : ∀ i, i < 8 → Cond.arrayOf (.field (tmW i) "java/lang/String" "value" "[B") .byte ∈ lwF := by decide +kernel
theorem f_hle : ∀ i, i < 8 → Cond.eq (.length (.field (tmW i) "java/lang/String" "value" "[B")) (.int (Int32.ofNat (wlen.getD i 0))) ∈ lwF := by decide +kernel
theorem f_hel : ∀ i, i < 8 → ∀ j, j < wlen.getD i 0 → Cond.eq (.elem (.field (tmW i) "java/lang/String" "value" "[B") (.int (Int32.ofNat j))) (.int ((wbyt.getD i []).getD j 0)) ∈ lwF := by decide +kernel
theorem f_hne : ∀ i, i < 8 → ∀ j, j < 8 → i < j → Cond.not (Cond.eq (tmW i) (tmW j)) ∈ lwF := by decide +kernel
theorem f_heq : ∀ i, i < 8 → Cond.eq (tmW i) (tmM i) ∈ lwF := by decide +kernel
theorem f_tex : ∀ i, i < 9 → Cond.exactly (tmT i) "java/lang/String" ∈ lwF := by decide +kernel
theorem f_xdn : ∀ q ∈ XDn, Cond.not (Cond.castable q.1 q.2) ∈ lwF := by decide +kernel
theorem f_us : Cond.isRef (.static Bundle.tN "UNASSIGNED_STACK" Bundle.steD) ∈ lwF := by decide +kernel
theorem f_ss : Cond.isRef (.static Bundle.tN "SUPPRESSED_SENTINEL" Bundle.listD) ∈ lwF := by decide +kernel
theorem f_cs : Cond.eq (.static RJ0 "COMPACT_STRINGS" "Z") (.int 1) ∈ lwF := by decide +kernel
theorem f_sf : Cond.isRef (.static RJ3 "SIOOBE_FORMATTER" "Ljava/util/function/BiFunction;") ∈ lwF := by decide +kernel
theorem lt_1 {w : Cond} (i : Nat) (h : tables_1_1[i]? = some w) : w ∈ lw_tbl := List.mem_append_right _ (List.mem_append_left _ (List.mem_of_getElem? h))
theorem lt_2 {w : Cond} (i : Nat) (h : tables_1_2[i]? = some w) : w ∈ lw_tbl := List.mem_append_right _ (List.mem_append_right _ (List.mem_append_left _ (List.mem_of_getElem? h)))
theorem lt_3 {w : Cond} (i : Nat) (h : tables_1_3[i]? = some w) : w ∈ lw_tbl := List.mem_append_right _ (List.mem_append_right _ (List.mem_append_right _ (List.mem_append_left _ (List.mem_of_getElem? h))))
theorem W0_tbl {w : Cond} (h : w ∈ W0) : w ∈ lw_tbl := (List.mem_filter.mp h).1
theorem f_sr : ∀ q ∈ SRl, Cond.stringRef q.1 q.2.1 q.2.2.1 ∈ lw_tbl := by decide +kernel
theorem f_xdm : ∀ x ∈ XDm, Cond.declares x ∈ lw_tbl := by decide +kernel
theorem f_xdc : ∀ q ∈ XDc, Cond.castable q.1 q.2 ∈ lw_tbl := by decide +kernel
theorem f_nl : ∀ q ∈ NLl, Cond.methodLinkNest q.1 q.2.1 q.2.2 "BridgeNight" ∈ lw_tbl := by decide +kernel
theorem f_srl : ∀ q ∈ SRl, (∃ i ∈ List.range 8, q.1 = RX3 ∧ q.2.1 = twi.getD i 0 ∧ q.2.2.2 = i) ∨ (∃ i ∈ List.range 8, q.1 = RX7 ∧ q.2.1 = mwi.getD i 0 ∧ q.2.2.2 = i) ∨ (∃ i ∈ List.range 9, q.1 = RX6 ∧ q.2.1 = txi.getD i 0 ∧ q.2.2.2 = 8 + i) := by decide +kernel
theorem lw_D {s : State} {a : Array Value} (hts : ∀ w ∈ W0, w.before a s = true) : ∀ c : Nat, ∃ q : ClassId × (Nat → Nat), ∀ x, vwCl[c]? = some x → u_Kn s x.1 x.2.1 x.2.2 q.1 q.2
  | 0 => by obtain ⟨cC, iS, h⟩ := u_known hts inwX0 (hts _ iw_X0); exact ⟨(cC, iS), fun x hx => by cases hx; exact h⟩
  | 1 => by obtain ⟨cC, iS, h⟩ := u_known hts inwX1 (hts _ iw_X1); exact ⟨(cC, iS), fun x hx => by cases hx; exact h⟩
  | 2 => by obtain ⟨cC, iS, h⟩ := u_known hts inwX2 (hts _ iw_X2); exact ⟨(cC, iS), fun x hx => by cases hx; exact h⟩
  | 3 => by obtain ⟨cC, iS, h⟩ := u_known hts inwX3 (hts _ iw_X3); exact ⟨(cC, iS), fun x hx => by cases hx; exact h⟩
  | 4 => by obtain ⟨cC, iS, h⟩ := u_known hts inwX4 (hts _ iw_X4); exact ⟨(cC, iS), fun x hx => by cases hx; exact h⟩
  | 5 => by obtain ⟨cC, iS, h⟩ := u_known hts inwX5 (hts _ iw_X5); exact ⟨(cC, iS), fun x hx => by cases hx; exact h⟩
  | 6 => by obtain ⟨cC, iS, h⟩ := u_known hts inwX6 (hts _ iw_X6); exact ⟨(cC, iS), fun x hx => by cases hx; exact h⟩
  | 7 => by obtain ⟨cC, iS, h⟩ := u_known hts inwX7 (hts _ iw_X7); exact ⟨(cC, iS), fun x hx => by cases hx; exact h⟩
  | n + 8 => ⟨(0, fun _ => 0), fun x hx => by simp at hx⟩
theorem lw_ai {s : State} {a : Array Value} {ty : FieldType} (h : (Cond.arrayClass ty).before a s = true) : ∃ c : ClassId, ArrOfT s c ty ∧ s.vm.findClass ("[" ++ ty.toString) = some c := by
  obtain ⟨c, k, comp, h1, h2, h3⟩ := Cond.arrayClass_spec h
  exact ⟨c, fun n z => ⟨fun k h => (by cases h), k, h2, comp, h3⟩, h1⟩
theorem lw_ao {s : State} {C : String} (h : va_AO C s) : ∃ c : ClassId, ArrOfT s c (.object C) ∧ va_RA s c (.object C) := by
  obtain ⟨comp, c, k, h1, -, h3, h4, h5⟩ := Cond.arrayOver_spec (va_AO.use (A := #[]) h)
  exact ⟨c, fun n z => ⟨fun k h => (by cases h), k, h3, comp, h4⟩, k, comp, h3, h4, h1, h5⟩
set_option maxHeartbeats 4000000 in
theorem lw_start {s : State} {b L : Nat} {xs : Nat → Int32} (hts : ∀ w ∈ lw_tbl, w.before #[.ref b] s = true) (hX : va_X b L xs s s.heap) (hb : b < s.heap.size) (hg : (Jvm.Cond.and given_1 narrow_1).before #[.ref b] s = true) :
    ∃ E : EnT, eS E = s.heap.size ∧ (∀ k, k < 120 → eAd E k = eS E + rk k) ∧ eAd E 2000 = b ∧ eL E = L ∧ hVw E ∧ va_K (eD E) vwCl (etys E) s ∧ St E s s.heap ∧ GN s := by
  have hs := flat_of_before _ hg
  have htW : ∀ w ∈ W0, w.before #[.ref b] s = true := fun w hw => hts w (W0_tbl hw)
  have hA : ∀ a : Nat, a < s.heap.size → ¬ (fun q : Nat => s.heap.size ≤ q) a := fun a h q => Nat.not_le.mpr h q
  obtain ⟨adK, adV, hS, hK⟩ := vk_Sof (args := #[.ref b]) (s := s) (N := 8) (tm := tmW) (len := wlen) (byt := wbyt) (A := fun q : Nat => s.heap.size ≤ q) (by decide) (fun i hi => hs _ (f_hex i hi)) (fun i hi => hs _ (f_hco i hi)) (fun i hi => hs _ (f_har i hi)) (fun i hi => hs _ (f_hle i hi)) (fun i hi j hj => hs _ (f_hel i hi j hj)) (fun i j hi hj hij => by
    rcases Nat.lt_or_gt_of_ne hij with q | q
    · exact Or.inl (hs _ (f_hne i hi j hj q))
    · exact Or.inr (hs _ (f_hne j hj i hi q))) hA
  have hT0 : ∀ i : Nat, ∃ a : Nat, i < 9 → (tmT i).eval #[.ref b] s none [] s = some (.ref a) := fun i => by
    by_cases hi : i < 9
    · obtain ⟨a, c, cA, kA, q1, -⟩ := Cond.exactly_spec (args := #[.ref b]) (first := s) (o := none) (s := s) (idx := []) (t := tmT i) (cls := "java/lang/String") (hs _ (f_tex i hi))
      exact ⟨a, fun _ => q1⟩
    · exact ⟨0, fun h => absurd h hi⟩
  obtain ⟨adT, hT⟩ := Classical.axiomOfChoice hT0
  obtain ⟨ad, hD⟩ := Classical.axiomOfChoice (lw_D htW)
  have hGN : GN s := ⟨fun q hq => va_Nw.of rfl (hts _ (f_nl q hq)), va_AO.of (hts (Cond.arrayOver (.object RX4)) (lt_1 125 rfl)), va_AO.of (hts (Cond.arrayOver (.object RX0)) (lt_1 127 rfl))⟩
  obtain ⟨c0, a0, b0⟩ := lw_ai (htW _ aw_i)
  obtain ⟨c1, a1, b1⟩ := lw_ai (htW _ aw_b)
  obtain ⟨c2, a2, b2⟩ := lw_ai (htW _ aw_z)
  obtain ⟨c3, a3, b3⟩ := lw_ao hGN.2.1
  obtain ⟨c4, a4, b4⟩ := lw_ao hGN.2.2
  obtain ⟨c5, a5, b5⟩ := lw_ai (htW _ aw_l)
  let adr : Nat → Nat := fun k => if k < 120 then s.heap.size + rk k else if k < 1008 then adK (k - 1000) else if k < 2000 then adT (k - 1008) else if k = 2000 then b else adV (k - 3000)
  have e1 : ∀ i, i < 8 → adr (1000 + i) = adK i := fun i hi => by
    show (if 1000 + i < 120 then _ else if 1000 + i < 1008 then adK (1000 + i - 1000) else _) = _
    rw [if_neg (by omega), if_pos (by omega), show 1000 + i - 1000 = i by omega]
  have e2 : ∀ i, i < 9 → adr (1000 + (8 + i)) = adT i := fun i hi => by
    show (if 1000 + (8 + i) < 120 then _ else if 1000 + (8 + i) < 1008 then _ else if 1000 + (8 + i) < 2000 then adT (1000 + (8 + i) - 1008) else _) = _
    rw [if_neg (by omega), if_neg (by omega), if_pos (by omega), show 1000 + (8 + i) - 1008 = i by omega]
  have e3 : ∀ i, i < 8 → adr (3000 + i) = adV i := fun i hi => by
    show (if 3000 + i < 120 then _ else if 3000 + i < 1008 then _ else if 3000 + i < 2000 then _ else if 3000 + i = 2000 then b else adV (3000 + i - 3000)) = _
    rw [if_neg (by omega), if_neg (by omega), if_neg (by omega), if_neg (by omega), show 3000 + i - 3000 = i by omega]
  have e4 : adr 2000 = b := by
    show (if 2000 < 120 then _ else if 2000 < 1008 then _ else if 2000 < 2000 then _ else if 2000 = 2000 then b else _) = _
    rw [if_neg (by omega), if_neg (by omega), if_neg (by omega), if_pos rfl]
  refine ⟨(s.heap.size, adr, (fun c => (ad c).1, fun c => (ad c).2), (fun i => [c0, c1, c2, c3, c4, c5].getD i 0), adV, L, xs), rfl, fun k hk => if_pos hk, e4, rfl, fun i hi => e3 i hi, ⟨fun c q hq => hD c q hq, ?_⟩, ⟨?_, ?_, ?_, ?_, ?_, ?_, ?_, ?_, ?_, ?_, ?_⟩, hGN⟩
  · intro k q hk
    match k with
    | 0 => cases hk; exact ⟨a0, b0⟩
    | 1 => cases hk; exact ⟨a1, b1⟩
    | 2 => cases hk; exact ⟨a2, b2⟩
    | 3 => cases hk; exact ⟨a3, b3⟩
    | 4 => cases hk; exact ⟨a4, b4⟩
    | 5 => cases hk; exact ⟨a5, b5⟩
    | n + 6 => simp [etys] at hk
  · exact vx_Zqof (hts _ (lt_2 227 rfl)) (hts _ (lt_1 9 rfl)) (hs _ f_us) hA
  · exact vx_Zqof (hts _ (lt_2 229 rfl)) (hts _ (lt_1 9 rfl)) (hs _ f_ss) hA
  · intro q hq
    refine vk_R.of (A := #[.ref b]) (hts _ (f_sr q hq)) ?_
    rcases f_srl q hq with ⟨i, hi, q1, q2, q3⟩ | ⟨i, hi, q1, q2, q3⟩ | ⟨i, hi, q1, q2, q3⟩
    · have hi8 : i < 8 := List.mem_range.mp hi
      show _ = some (Value.ref (adr (1000 + q.2.2.2)))
      rw [q1, q2, q3, e1 i hi8]
      exact hK i hi8
    · have hi8 : i < 8 := List.mem_range.mp hi
      show _ = some (Value.ref (adr (1000 + q.2.2.2)))
      rw [q1, q2, q3, e1 i hi8]
      exact va_eqR (hs _ (f_heq i hi8)) (hK i hi8)
    · have hi9 : i < 9 := List.mem_range.mp hi
      show _ = some (Value.ref (adr (1000 + q.2.2.2)))
      rw [q1, q2, q3, e2 i hi9]
      exact hT i hi9
  · refine ⟨fun i hi => ?_, fun i j hi hj e => ?_⟩
    · have := hS.1 i hi
      rw [← e1 i hi] at this
      exact this
    · have e' : adr (1000 + i) = adr (1000 + j) := e
      rw [e1 i hi, e1 j hj] at e'
      exact hS.2 i j hi hj e'
  · exact va_Zof (hts _ (lt_3 86 rfl)) (hts _ (W0_tbl in_J0)) (va_eqt (hs _ f_cs)) hA
  · exact va_Zqof (hts _ (lt_3 102 rfl)) (hts _ (W0_tbl in_J3)) (hs _ f_sf) hA
  · show va_X (adr 2000) L xs s s.heap
    rw [e4]; exact hX
  · show adr 2000 < s.heap.size
    rw [e4]; exact hb
  · exact fun x hx => va_Nw.of rfl (hts _ (f_xdm x hx))
  · exact fun q hq => va_Nw.of rfl (hts _ (f_xdc q hq))
  · exact fun q hq => va_Nc.of (hs _ (f_xdn q hq))
