/-! THE Z LAYER: one world of 120 cells with a memory of ints; rows an instruction over it. -/
abbrev Mem : Type := Nat → Nat → Int32
def mu (M : Mem) (k i : Nat) (v : Int32) : Mem := fun a => if a = k then upd (M k) i v else M a
abbrev EnT : Type := Nat × (Nat → Nat) × va_G × (Nat → ClassId) × (Nat → Nat) × Nat × (Nat → Int32)
abbrev eS (E : EnT) : Nat := E.1
abbrev eAd (E : EnT) : Nat → Nat := E.2.1
abbrev eD (E : EnT) : va_G := E.2.2.1
abbrev eC (E : EnT) : Nat → ClassId := E.2.2.2.1
abbrev eV (E : EnT) : Nat → Nat := E.2.2.2.2.1
abbrev eL (E : EnT) : Nat := E.2.2.2.2.2.1
abbrev eX (E : EnT) : Nat → Int32 := E.2.2.2.2.2.2
def eA (E : EnT) : Nat → Prop := fun q => eS E ≤ q
def trv (ad : Nat → Nat) : Value → Value
  | .ref k => .ref (ad k)
  | v => v
theorem trv_cat (ad : Nat → Nat) (v : Value) : (trv ad v).category = v.category := by cases v <;> rfl
def kl1 : List (Nat × Nat) := [(6, 7), (3, 10), (2, 11), (1, 6), (5, 5), (10, 20), (4, 7), (10, 200), (13, 16), (10, 16), (14, 22), (10, 16), (10, 7), (10, 7), (10, 30), (10, 30), (10, 30)]
def kl2 : List (Nat × Nat) := [(7, 32), (11, 200), (10, 16), (10, 16), (10, 16), (10, 16), (10, 16), (10, 16), (10, 16), (12, 5), (10, 20), (10, 320), (10, 16), (10, 16), (10, 16), (10, 16), (10, 320), (10, 30), (10, 30), (10, 30), (15, 1)]
/-- a cell's kind: its class (0 to 7) or sort of array, and how many fields or places -/
def knd (k : Nat) : Nat × Nat := if k < 17 then kl1.getD k (99, 0) else if k < 33 then (4, 7) else if k < 55 then (0, 3) else if k < 99 then (10, 16) else kl2.getD (k - 99) (99, 0)
theorem knd_lt {k : Nat} (h : (knd k).1 ≠ 99) : k < 120 := by
  rcases Nat.lt_or_ge k 120 with q | q
  · exact q
  · exfalso
    apply h
    have h1 : ¬ k < 17 := by omega
    have h2 : ¬ k < 33 := by omega
    have h3 : ¬ k < 55 := by omega
    have h4 : ¬ k < 99 := by omega
    have h5 : kl2.length ≤ k - 99 := by have : kl2.length = 21 := rfl; omega
    simp only [knd, if_neg h1, if_neg h2, if_neg h3, if_neg h4, List.getD_eq_getElem?_getD, List.getElem?_eq_none h5, Option.getD_none]
theorem knd_w {i : Nat} (h : i < 16) : knd (i + 17) = (4, 7) := by
  have h1 : ¬ i + 17 < 17 := by omega
  have h2 : i + 17 < 33 := by omega
  simp only [knd, if_neg h1, if_pos h2]
theorem knd_r {i : Nat} (h : i < 22) : knd (i + 33) = (0, 3) := by
  have h1 : ¬ i + 33 < 17 := by omega
  have h2 : ¬ i + 33 < 33 := by omega
  have h3 : i + 33 < 55 := by omega
  simp only [knd, if_neg h1, if_neg h2, if_pos h3]
theorem knd_h {i : Nat} (h : i < 22) : knd (i + 55) = (10, 16) := by
  have h1 : ¬ i + 55 < 17 := by omega
  have h2 : ¬ i + 55 < 33 := by omega
  have h3 : ¬ i + 55 < 55 := by omega
  have h4 : i + 55 < 99 := by omega
  simp only [knd, if_neg h1, if_neg h2, if_neg h3, if_pos h4]
theorem knd_s {i : Nat} (h : i < 22) : knd (i + 77) = (10, 16) := by
  have h1 : ¬ i + 77 < 17 := by omega
  have h2 : ¬ i + 77 < 33 := by omega
  have h3 : ¬ i + 77 < 55 := by omega
  have h4 : i + 77 < 99 := by omega
  simp only [knd, if_neg h1, if_neg h2, if_neg h3, if_pos h4]
def rl : List (List (Option (Nat × Nat))) := [
  [some (1, 22), some (1, 44)],
  [some (0, 12), none, some (0, 13)],
  [some (0, 8), some (0, 9), some (0, 10), none, none, none, some (0, 11)],
  [some (0, 6), none, none, some (0, 7)],
  [],
  [none, none, some (0, 14), some (0, 15), some (0, 16)],
  [some (0, 1), some (0, 2), some (0, 3), some (0, 4), some (0, 5)],
  [none, some (0, 100), none, none, none, none, none, some (0, 101), some (0, 102), some (0, 103), some (0, 104), some (0, 105), some (0, 106), some (0, 107), none, none, none, some (0, 108), some (0, 109), none, none, some (0, 110), some (0, 111), some (0, 112), some (0, 113), some (0, 114), some (0, 115), some (0, 116), some (0, 117), some (0, 118)]]
/-- a field that holds a reference: to a fixed cell (0, c), or to one that lies c behind (1, c) -/
def rfd (ci j : Nat) : Option (Nat × Nat) := (rl.getD ci []).getD j none
def fv (E : EnT) (M : Mem) (ci k j : Nat) : Value := match rfd ci j with
  | some q => .ref (eAd E (if q.1 = 0 then q.2 else k + q.2))
  | none => .int (M k j)
def entT (E : EnT) (M : Mem) (k t n : Nat) : va_E :=
  if t < 8 then .inr (t, (List.range n).map (fv E M t k))
  else if t = 10 then .inl (eC E 0, n, .inl (M k))
  else if t = 11 then .inl (eC E 1, n, .inl (M k))
  else if t = 12 then .inl (eC E 2, n, .inl (M k))
  else if t = 13 then .inl (eC E 3, n, .inr (.inr (.inr (.inr (fun j => some (eAd E (j + 17)))))))
  else if t = 14 then .inl (eC E 4, n, .inr (.inr (.inr (.inr (fun j => some (eAd E (j + 33)))))))
  else .inl (eC E 5, n, .inr (.inl (fun j => (M k j).toInt64)))
def ent (E : EnT) (M : Mem) (k : Nat) : va_E := entT E M k (knd k).1 (knd k).2
def wl (E : EnT) (M : Mem) : va_W := (List.range 120).map (fun k => (eAd E k, ent E M k))
theorem wl_at {E : EnT} {M : Mem} {k : Nat} (h : k < 120) : (wl E M)[k]? = some (eAd E k, ent E M k) := by
  simp [wl, h]
theorem wl_len (E : EnT) (M : Mem) : (wl E M).length = 120 := by simp [wl]
theorem mu_k {M : Mem} {k i : Nat} {v : Int32} : mu M k i v k = upd (M k) i v := if_pos rfl
theorem mu_o {M : Mem} {k i a : Nat} {v : Int32} (h : a ≠ k) : mu M k i v a = M a := if_neg h
theorem ent_o {E : EnT} {M : Mem} {k i a : Nat} {v : Int32} (h : a ≠ k) : ent E (mu M k i v) a = ent E M a := by
  have h1 : ∀ j, mu M k i v a j = M a j := fun j => by rw [mu_o h]
  have h2 : ∀ t, fv E (mu M k i v) t a = fv E M t a := fun t => funext fun j => by unfold fv; rw [h1]
  unfold ent entT
  simp only [h2, mu_o h, h1]
theorem wl_set {E : EnT} {M : Mem} {k i : Nat} {v : Int32} {x : va_E} (h : k < 120) (hx : x = ent E (mu M k i v) k) : (wl E M).set k (eAd E k, x) = wl E (mu M k i v) := by
  apply List.ext_getElem?
  intro a
  by_cases ha : a < 120
  · by_cases hk : a = k
    · subst hk
      rw [List.getElem?_set_self (by rw [wl_len]; exact ha), wl_at ha, hx]
    · rw [List.getElem?_set_ne (Ne.symm hk), wl_at ha, wl_at ha, ent_o hk]
  · rw [List.getElem?_eq_none (by rw [List.length_set, wl_len]; omega), List.getElem?_eq_none (by rw [wl_len]; omega)]
theorem ent_t {E : EnT} {M : Mem} {k t n : Nat} (h : knd k = (t, n)) : ent E M k = entT E M k t n := by unfold ent; rw [h]
theorem ent_obj {E : EnT} {M : Mem} {k t n : Nat} (h : knd k = (t, n)) (ht : t < 8) : ent E M k = .inr (t, (List.range n).map (fv E M t k)) := by rw [ent_t h]; exact if_pos ht
theorem ent_10 {E : EnT} {M : Mem} {k n : Nat} (h : knd k = (10, n)) : ent E M k = .inl (eC E 0, n, .inl (M k)) := by rw [ent_t h]; rfl
theorem ent_11 {E : EnT} {M : Mem} {k n : Nat} (h : knd k = (11, n)) : ent E M k = .inl (eC E 1, n, .inl (M k)) := by rw [ent_t h]; rfl
theorem ent_12 {E : EnT} {M : Mem} {k n : Nat} (h : knd k = (12, n)) : ent E M k = .inl (eC E 2, n, .inl (M k)) := by rw [ent_t h]; rfl
theorem ent_13 {E : EnT} {M : Mem} {k n : Nat} (h : knd k = (13, n)) : ent E M k = .inl (eC E 3, n, .inr (.inr (.inr (.inr (fun j => some (eAd E (j + 17))))))) := by rw [ent_t h]; rfl
theorem ent_14 {E : EnT} {M : Mem} {k n : Nat} (h : knd k = (14, n)) : ent E M k = .inl (eC E 4, n, .inr (.inr (.inr (.inr (fun j => some (eAd E (j + 33))))))) := by rw [ent_t h]; rfl
theorem ent_15 {E : EnT} {M : Mem} {k n : Nat} (h : knd k = (15, n)) : ent E M k = .inl (eC E 5, n, .inr (.inl (fun j => (M k j).toInt64))) := by rw [ent_t h]; rfl
theorem fs_set {E : EnT} {M : Mem} {k t n j : Nat} {v : Int32} (hr : rfd t j = none) : ((List.range n).map (fv E M t k)).set j (.int v) = (List.range n).map (fv E (mu M k j v) t k) := by
  apply List.ext_getElem?
  intro a
  by_cases ha : a < n
  · by_cases hj : a = j
    · subst hj
      rw [List.getElem?_set_self (by simp [ha])]
      simp [ha, fv, hr, mu_k, upd]
    · rw [List.getElem?_set_ne (Ne.symm hj)]
      simp [ha, fv, mu_k, upd, hj]
  · rw [List.getElem?_eq_none (by simp; omega), List.getElem?_eq_none (by simp; omega)]
def etys (E : EnT) : List (ClassId × FieldType) := [(eC E 0, .int), (eC E 1, .byte), (eC E 2, .boolean), (eC E 3, .object RX4), (eC E 4, .object RX0), (eC E 5, .long)]
/-- the words of the texts: 0 hours, 1 needs, 2 hands, 3 back, 4 after, 5 track, 6 crane, 7 hole; behind them the exceptions' texts -/
def wlen : List Nat := [5, 5, 5, 4, 5, 5, 5, 4]
def wbyt : List (List Int32) := [[104, 111, 117, 114, 115], [110, 101, 101, 100, 115], [104, 97, 110, 100, 115], [98, 97, 99, 107], [97, 102, 116, 101, 114], [116, 114, 97, 99, 107], [99, 114, 97, 110, 101], [104, 111, 108, 101]]
def SRl : List (String × Nat × String × Nat) := [(RX3, 80, "hours", 0), (RX3, 86, "needs", 1), (RX3, 88, "hands", 2), (RX3, 90, "back", 3), (RX3, 92, "after", 4), (RX3, 121, "track", 5), (RX3, 126, "crane", 6), (RX3, 128, "hole", 7), (RX7, 111, "hours", 0), (RX7, 113, "needs", 1), (RX7, 115, "hands", 2), (RX7, 116, "back", 3), (RX7, 117, "after", 4), (RX7, 118, "track", 5), (RX7, 120, "crane", 6), (RX7, 122, "hole", 7), (RX6, 57, "not so many bytes on the tape", 8), (RX6, 67, "there are 16 works", 9), (RX6, 91, "no such work", 10), (RX6, 118, "nothing such is told of a work", 11), (RX6, 123, "neither a crew nor a limit", 12), (RX6, 135, "no such row", 13), (RX6, 172, "no such place", 14), (RX6, 187, "no such hour", 15), (RX6, 196, "no number of a train", 16)]
def XDm : List MethodName := [Bundle.initS "java/lang/RuntimeException", Bundle.initS "java/lang/Exception", Bundle.initS Bundle.tN]
def XDc : List (String × String) := [("java/lang/IllegalArgumentException", "java/lang/IllegalArgumentException"), ("java/lang/IllegalStateException", "java/lang/IllegalStateException"), ("java/lang/IndexOutOfBoundsException", "java/lang/IndexOutOfBoundsException")]
def XDn : List (String × String) := [("java/lang/IllegalStateException", "java/lang/IllegalArgumentException"), ("java/lang/IllegalArgumentException", "java/lang/IndexOutOfBoundsException")]
def St (E : EnT) (U : State) (H : Heap) : Prop :=
  vx_Zq Bundle.tN "UNASSIGNED_STACK" Bundle.steD (eA E) U H ∧ vx_Zq Bundle.tN "SUPPRESSED_SENTINEL" Bundle.listD (eA E) U H ∧
  (∀ q ∈ SRl, vk_R q.1 q.2.1 q.2.2.1 (eAd E (1000 + q.2.2.2)) U) ∧ vk_S 8 wlen wbyt (fun i => eAd E (1000 + i)) (eV E) (eA E) U H ∧
  va_Z RJ0 "COMPACT_STRINGS" "Z" (.int 1) (eA E) U H ∧ va_Zq RJ3 "SIOOBE_FORMATTER" "Ljava/util/function/BiFunction;" (eA E) U H ∧
  va_X (eAd E 2000) (eL E) (eX E) U H ∧ eAd E 2000 < eS E ∧ (∀ x ∈ XDm, va_Nw (.declares x) U) ∧ (∀ q ∈ XDc, va_Nw (.castable q.1 q.2) U) ∧ (∀ q ∈ XDn, va_Nc q.1 q.2 U)
theorem St.next {E : EnT} {u U : State} {Hu H : Heap} (h : St E u Hu) (hz : eS E ≤ Hu.size) (hW : u.WarmedH U.vm) (hk : ∀ q : Nat, q < Hu.size → ¬ eA E q → H[q]? = Hu[q]?) : St E U H := by
  obtain ⟨h1, h2, h3, h4, h5, h6, h7, h8, h9, h10, h11⟩ := h
  exact ⟨(h1.kept hk).moved hW.alike, (h2.kept hk).moved hW.alike, fun q hq => vk_R.warm hW (h3 q hq), (h4.kept hk).moved hW.alike, va_Z.moved hW.alike (va_Z.kept h5 hk), va_Zq.moved hW.alike (va_Zq.kept h6 hk), (h7.kept (hk _ (Nat.lt_of_lt_of_le h8 hz) (Nat.not_le.mpr h8))).moved hW.alike, h8, fun x hx => va_Nw.warmD hW (h9 x hx), fun q hq => va_Nw.warmC hW (h10 q hq), fun q hq => va_Nc.moved hW.alike (h11 q hq)⟩
theorem St.same {E : EnT} {u U : State} {H : Heap} (h : St E u H) (hv : U.vm = u.vm) : St E U H := by
  obtain ⟨h1, h2, h3, h4, h5, h6, h7, h8, h9, h10, h11⟩ := h
  have ha : u.vm.Alike U.vm := by rw [hv]; exact Vm.Alike.refl _
  exact ⟨h1.moved ha, h2.moved ha, fun q hq => vk_R.same hv (h3 q hq), h4.moved ha, va_Z.moved ha h5, va_Zq.moved ha h6, h7.moved ha, h8, fun x hx => va_Nw.same rfl hv.symm (h9 x hx), fun q hq => va_Nw.same rfl hv.symm (h10 q hq), fun q hq => va_Nc.moved ha (h11 q hq)⟩
