/-! operations that only read -/
theorem Sd_Scr {a b : Nat} (h : Sd a b) : Scr a b := by unfold Sd at h; unfold Scr; omega
theorem Sw_Scr {a b : Nat} (h : Sw a b) : Scr a b := by unfold Sw at h; unfold Scr; omega
theorem Se_Scr {a b : Nat} (h : Se a b) : Scr a b := by unfold Se at h; unfold Scr; omega
theorem ctN_cg {f g : Nat → Int32} {x : Int32} : ∀ {t : Nat}, (∀ i, i < t → f i = g i) → ctN f x t = ctN g x t
  | 0, _ => rfl
  | t + 1, h => by
    unfold ctN
    rw [ctN_cg (t := t) (fun i hi => h i (by omega)), h t (by omega)]
theorem outN_cg {f g : Nat → Int32} {T : Nat} {x : Int32} (h : ∀ i, i < T → f i = g i) : ∀ {t : Nat}, t ≤ T → outN f T x t = outN g T x t
  | 0, _ => rfl
  | t + 1, ht => by
    rw [outN, outN, outN_cg h (t := t) (by omega), h t (by omega), ctN_cg h]
theorem outN_lt9 {f : Nat → Int32} {T s : Nat} {x : Int32} : ∀ {t : Nat}, outN f T x t = some s → s < t
  | 0, h => by cases h
  | t + 1, h => by
    rw [outN] at h
    cases q : outN f T x t with
    | some y =>
      rw [q] at h
      cases h
      have := outN_lt9 q
      omega
    | none =>
      rw [q] at h
      simp only at h
      split at h
      · cases h; omega
      · cases h
theorem op_out {l : Launch} {E : EnT} (hst : l.stackTraces = false) {M : Mem} (h : Inv M) (x : Int32) : OpV l E mX6_out mX7_out 2 0 [.int x] M := by
  obtain ⟨T, D, y1, y2, y3, y4, y5, y6, y7⟩ := h.2.2.2.2.1
  refine OpV_Rt (c_X6_out hst x M T y3 y1) (c_X7_out hst x M T y4 y1) ?_ h.m0
  rw [outN_cg (g := M 116) (fun i hi => (y7 i (by omega)).1) (Nat.le_refl T)]
  cases q : outN (M 116) T x T with
  | none => rfl
  | some s =>
    have := outN_lt9 q
    exact (y7 s (by omega)).2.1
theorem op_part {l : Launch} {E : EnT} (hst : l.stackTraces = false) {M : Mem} (h : Inv M) : OpV l E mX6_part mX7_part 4 2 [] M := by
  obtain ⟨lim, l1, l2, l3⟩ := h.2.2.1
  obtain ⟨B, od, bk, dr, hW⟩ := h.2.2.2.2.2
  refine OpV_RP (c_X6_part hst M B od dr lim hW.2.1 hW.1 (fun r hr => (hW.2.2.2.1 r hr).1) (fun k hk => ⟨(hW.2.2.2.2.2.1 k hk).1, hW.2.2.2.2.1.1 k hk⟩) l2 l1) (fun N hN => ?_)
  have hS := hN.mono (fun _ _ q => Sd_Scr q)
  have hW2 := hW.keep hS
  refine ⟨_, _, c_X7_part hst N B od dr lim hW2.2.2.1 hW2.1 (fun r hr => (hW2.2.2.2.1 r hr).2) (fun k hk => ⟨(hW2.2.2.2.2.2.1 k hk).2, hW2.2.2.2.2.1.1 k hk⟩) (by rw [hS 99 16 (by unfold Scr; omega)]; exact l3) l1, rfl, fun N2 h2 => (h.keep hS).keep (h2.mono (fun _ _ q => Se_Scr q))⟩
theorem op_on {l : Launch} {E : EnT} (hst : l.stackTraces = false) {M : Mem} (h : Inv M) : OpV l E mX6_on mX7_on 4 3 [] M := by
  obtain ⟨lim, l1, l2, l3⟩ := h.2.2.1
  obtain ⟨B, od, bk, dr, hW⟩ := h.2.2.2.2.2
  refine OpV_RP (c_X6_on hst M B od dr lim hW.2.1 hW.1 (fun r hr => (hW.2.2.2.1 r hr).1) (fun k hk => ⟨(hW.2.2.2.2.2.1 k hk).1, hW.2.2.2.2.1.1 k hk⟩) l2 l1) (fun N hN => ?_)
  have hS := hN.mono (fun _ _ q => Sd_Scr q)
  have hW2 := hW.keep hS
  refine ⟨_, _, c_X7_on hst N B od dr lim hW2.2.2.1 hW2.1 (fun r hr => (hW2.2.2.2.1 r hr).2) (fun k hk => ⟨(hW2.2.2.2.2.2.1 k hk).2, hW2.2.2.2.2.1.1 k hk⟩) (by rw [hS 99 16 (by unfold Scr; omega)]; exact l3) l1, rfl, fun N2 h2 => (h.keep hS).keep (h2.1.mono (fun _ _ q => Se_Scr q))⟩
theorem InW.bk6 {B : Bw} {od : Nat → Nat} {bk : Nat → Option Nat} {dr : Nat} {M : Mem} (h : InW B od bk dr M) : ∀ w, w < B.1 → M (w + 17) 4 = enI (bk w) := fun w hw => by
  rw [h.2.2.2.2.2.2.2.1 w hw 4 (by decide)]
  exact h.2.2.2.2.2.2.2.2.1 w hw
theorem op_last {l : Launch} {E : EnT} (hst : l.stackTraces = false) {M : Mem} (h : Inv M) : OpV l E mX6_last mX7_last 4 3 [] M := by
  obtain ⟨lim, l1, l2, l3⟩ := h.2.2.1
  obtain ⟨B, od, bk, dr, hW⟩ := h.2.2.2.2.2
  refine OpV_RP (c_X6_last hst M B od dr lim bk (hW.2.2.2.1 0 (by omega)).1.1 hW.2.1 hW.1 (fun r hr => (hW.2.2.2.1 r hr).1) (fun k hk => ⟨(hW.2.2.2.2.2.1 k hk).1, hW.2.2.2.2.1.1 k hk⟩) l2 l1 hW.bk6 hW.2.2.2.2.2.2.2.2.2.1) (fun N hN => ?_)
  have hS := hN.mono (fun _ _ q => Sd_Scr q)
  have hW2 := hW.keep hS
  refine ⟨_, _, c_X7_last hst N B od dr lim bk (hW2.2.2.2.1 0 (by omega)).2.1 hW2.2.2.1 hW2.1 (fun r hr => (hW2.2.2.2.1 r hr).2) (fun k hk => ⟨(hW2.2.2.2.2.2.1 k hk).2, hW2.2.2.2.2.1.1 k hk⟩) (by rw [hS 99 16 (by unfold Scr; omega)]; exact l3) l1 hW2.2.2.2.2.2.2.2.2.1 hW.2.2.2.2.2.2.2.2.2.1, ?_, fun N2 h2 => (h.keep hS).keep (h2.1.mono (fun _ _ q => Se_Scr q))⟩
  by_cases hdr : dr = 0
  · subst hdr
    rw [if_pos rfl]
    exact (congrArg enI (last_0 (m := 1001))).symm
  · rw [if_neg hdr]
    exact (congrArg enI (last_eq hdr)).symm
/-- an operation that may throw, behind its wrapper -/
def OpX (l : Launch) (E : EnT) (y6 y7 : MT) (d6 d7 : Nat) (as : List Value) (ok : String → Prop) (code : String → Int32) (M : Mem) : Prop := ∃ P1, Mm l E y6 d6 1 6 (.ref 0 :: as) M P1 ∧ (∀ v N, P1 (.inl v) N → ∃ i, v = some (.int i)) ∧ (∀ C N, P1 (.inr C) N → ok C) ∧ (∀ i N, P1 (.inl (some (.int i))) N → ∃ P2, Mm l E y7 d7 0 0 (.ref 99 :: as) (mu N 119 0 i) P2 ∧ (∀ C N, ¬ P2 (.inr C) N) ∧ ∀ v2 N2, P2 (.inl v2) N2 → v2 = some (.int i) ∧ N2 99 0 = 0 ∧ N2 119 0 = i ∧ Inv N2) ∧ (∀ C N, P1 (.inr C) N → ∃ P2, Mm l E y7 d7 0 0 (.ref 99 :: as) N P2 ∧ (∀ C N, ¬ P2 (.inr C) N) ∧ ∀ v2 N2, P2 (.inl v2) N2 → (∃ j, v2 = some (.int j)) ∧ N2 99 0 = code C ∧ Inv N2)
theorem op_end {l : Launch} {E : EnT} (hst : l.stackTraces = false) {M : Mem} (h : Inv M) (x : Int32) : OpX l E mX6_end mX7_end 6 2 [.int x] (fun C => C = xIA) kL_end M := by
  obtain ⟨B, od, bk, dr, hW⟩ := h.2.2.2.2.2
  have h20 := hW.1
  have c7 : ∀ N, Eqx Scr M N → Mm l E mX7_end 2 0 0 [.ref 99, .int x] N (RP (some (.int (if ixB x (dr + 2) then enI (endS (rowP B x.toNatClampNeg) od) else 0))) (fun N2 => Eqx Se N N2 ∧ N2 99 0 = if ixB x (dr + 2) then 0 else 1)) := fun N hN =>
    c_X7_end hst N B od dr x (hW.keep hN).2.2.1 h20 (fun r hr => ((hW.keep hN).2.2.2.1 r hr).2) (fun k hk => ⟨((hW.keep hN).2.2.2.2.2.1 k hk).2, hW.2.2.2.2.1.1 k hk⟩)
  refine ⟨_, c_X6_end hst M B od dr x hW.2.1 hW.1 (fun r hr => (hW.2.2.2.1 r hr).1) (fun k hk => ⟨(hW.2.2.2.2.2.1 k hk).1, hW.2.2.2.2.1.1 k hk⟩), fun v N q => ?_, fun C N q => ?_, fun i N q => ?_, fun C N q => ?_⟩
  · obtain ⟨q1, q2⟩ := q
    split at q1
    · cases q1; exact ⟨_, rfl⟩
    · cases q1
  · obtain ⟨q1, q2⟩ := q
    split at q1
    · cases q1
    · cases q1; rfl
  · obtain ⟨q1, q2⟩ := q
    have hS : Eqx Scr M (mu N 119 0 i) := (q2.mono (fun _ _ z => Sw_Scr z)).mu (by unfold Scr; omega)
    refine ⟨_, c7 _ hS, RP_nx, fun v2 N2 z => ?_⟩
    obtain ⟨z1, z2, z3⟩ := z
    cases hb : ixB x (dr + 2)
    · rw [hb] at q1; cases q1
    · rw [hb] at q1 z1 z3
      cases q1
      cases z1
      exact ⟨rfl, z3, by rw [z2 119 0 (by unfold Se; omega)]; rfl, (h.keep hS).keep (z2.mono (fun _ _ z => Se_Scr z))⟩
  · obtain ⟨q1, q2⟩ := q
    have hS : Eqx Scr M N := q2.mono (fun _ _ z => Sw_Scr z)
    refine ⟨_, c7 _ hS, RP_nx, fun v2 N2 z => ?_⟩
    obtain ⟨z1, z2, z3⟩ := z
    cases hb : ixB x (dr + 2)
    · rw [hb] at q1 z1 z3
      cases q1
      cases z1
      exact ⟨⟨_, rfl⟩, z3, (h.keep hS).keep (z2.mono (fun _ _ z => Se_Scr z))⟩
    · rw [hb] at q1; cases q1
