/-! throw new E("text") of BridgeNight's own methods -/
def xch : List String := ["java/lang/RuntimeException", "java/lang/Exception"]
/-- the words of a throw of class C by the constructor's link ic -/
def XOK (C : String) (ik ic : Nat) : Prop := Bundle.fit C = true ∧ Cond.classLink RX6 ik C ∈ W0 ∧ Cond.initialized C ∈ W0 ∧ (∀ w ∈ (vx_atS RX6 ic C xch).filter goodWord, w ∈ W0) ∧ (∀ w ∈ (vx_atS RX6 ic C xch).filter (fun w => !goodWord w), w ∈ (XDm.map Cond.declares) ++ (XDc.map fun q => Cond.castable q.1 q.2)) ∧ (∀ w ∈ Cond.classLink RX6 ik C :: Cond.initialized C :: vx_atS RX6 ic C xch, vx_ot w = true)
theorem xch_fit : ∀ n ∈ xch, Bundle.fit n = true := by decide
theorem z_throw {l : Launch} {E : EnT} {y : MT} {d pc cu su ik is ic i : Nat} {C text : String} {Post : Option Value ⊕ String → Mem → Prop} {ls : List (Option Value)} {M : Mem} (hy : y.1.cls = RX6) (hd6 : 6 ≤ d) (hok : XOK C ik ic) (hs9 : (RX6, is, text, i) ∈ SRl)
    (d0 : decode y.2.1 pc = .ok (.new ik, 3)) (d3 : decode y.2.1 (pc + 3) = .ok (.dup, 1)) (d4 : decode y.2.1 (pc + 4) = .ok (.ldc is, 2)) (d6 : decode y.2.1 (pc + 6) = .ok (.invokespecial ic, 3)) (d9 : decode y.2.1 (pc + 9) = .ok (.athrow, 1)) (hcu : cu = 0) (hsu : su = 0) (hq : Post (.inr C) M) : Zz (zt l E y d Post) cu su pc ls [] M := by
  subst hcu; subst hsu
  intro p e s m args below meth c H locs lsA C9
  obtain ⟨⟨hx, hb, hr0, hml, hown, hts, hlk, htb, hls⟩, ⟨hK, hSt, hsz⟩, ⟨hP, hD, hS⟩, hl⟩ := id C9
  obtain ⟨k1, k2, k3, k4, k5, k6⟩ := hok
  have hown' : s.vm.findClass RX6 = some m.cls := by rw [← hy]; exact hown
  have hat : ∀ w ∈ vx_atS RX6 ic C xch, w.before args s = true := vx_hat (fun w hw => hts w (k4 w hw)) k5 (fun w hw => by
    rcases List.mem_append.mp hw with h | h
    · obtain ⟨x, hx9, rfl⟩ := List.mem_map.mp h
      exact va_Nw.use rfl (hSt.2.2.2.2.2.2.2.2.1 x hx9)
    · obtain ⟨x, hx9, rfl⟩ := List.mem_map.mp h
      exact va_Nw.use rfl (hSt.2.2.2.2.2.2.2.2.2.1 x hx9))
  refine vx_throwS (A := eA E) (mc := 1) (ms := 6) hx hb hls (own := RX6) (cls := C) (text := text) (names := xch) (ik := ik) (is := is) (ic := ic) (sa := eAd E (1000 + i)) hown' k1 xch_fit (hts _ k2) (hts _ k3) (hSt.2.2.1 _ hs9) hat k6 hSt.1 hSt.2.1 hS (by rw [hml]; exact hl.1) d0 d3 d4 d6 d9 (fun x hx9 => by rw [htb] at hx9; cases hx9) ?_ ?_ ?_ ?_ hlk ?_ hS.2.2 (Nat.le_refl _) (Nat.le_refl _)
  · show 2 + 3 < d
    omega
  · show 0 + (13 * 3 + 43) ≤ 40 * d
    omega
  · exact Nat.le_refl 1
  · exact Nat.le_refl 6
  · intro t hal hz hk
    refine ⟨M, hq, ?_, hD, Nat.le_trans hS.1 hz, fun q h1 h2 => ?_⟩
    · exact hP.kept (fun k q hq9 => hk q.1 (hP k q hq9).lt)
    · rw [hk q (Nat.lt_of_lt_of_le h1 hS.1)]
      exact hS.2.1 q h1 h2
set_option maxRecDepth 20000 in
theorem xok_IA : XOK "java/lang/IllegalArgumentException" 55 59 := ⟨by decide, by decide +kernel, by decide +kernel, by decide +kernel, by decide +kernel, by decide +kernel⟩
set_option maxRecDepth 20000 in
theorem xok_IS : XOK "java/lang/IllegalStateException" 65 69 := ⟨by decide, by decide +kernel, by decide +kernel, by decide +kernel, by decide +kernel, by decide +kernel⟩
set_option maxRecDepth 20000 in
theorem xok_IO : XOK "java/lang/IndexOutOfBoundsException" 89 93 := ⟨by decide, by decide +kernel, by decide +kernel, by decide +kernel, by decide +kernel, by decide +kernel⟩
