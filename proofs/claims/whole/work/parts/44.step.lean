/-! one turn of the schedule -/
def Good (P : Pb) (s : Sch) (h : Nat) : Prop := (∀ w b, s w = some b → b ≤ h) ∧ ∀ w, pN P ≤ w → s w = none
theorem bgTo_out {P : Pb} {od : Nat → Nat} {h : Nat} {e : Nat → Bool} {s : Sch} (hod : ∀ k, k < pN P → od k < pN P) : ∀ {k : Nat}, k ≤ pN P → ∀ {w b : Nat}, bgTo P od h e s k w = some b → s w = some b ∨ (s w = none ∧ b = h ∧ w < pN P)
  | 0, _, w, b, hw => Or.inl hw
  | k + 1, hk, w, b, hw => by
    have ih := @bgTo_out P od h e s hod k (by omega)
    rw [show bgTo P od h e s (k + 1) = if bgTo P od h e s k (od k) = none ∧ may P (bgTo P od h e s k) e (od k) = true then sup (bgTo P od h e s k) (od k) h else bgTo P od h e s k from rfl] at hw
    split at hw
    · rename_i q
      unfold sup at hw
      split at hw
      · rename_i q2
        cases hw
        cases hs : s w with
        | none => exact Or.inr ⟨rfl, rfl, by rw [q2]; exact hod k (by omega)⟩
        | some b2 =>
          have := q.1
          rw [← q2] at this
          rcases hb : bgTo P od h e s k w with _ | b3
          · exact absurd hb (by
              have : ∀ {k : Nat}, bgTo P od h e s k w ≠ none := by
                intro k
                induction k with
                | zero => show s w ≠ none; rw [hs]; simp
                | succ k ih =>
                  rw [show bgTo P od h e s (k + 1) = if bgTo P od h e s k (od k) = none ∧ may P (bgTo P od h e s k) e (od k) = true then sup (bgTo P od h e s k) (od k) h else bgTo P od h e s k from rfl]
                  split
                  · unfold sup; split
                    · simp
                    · exact ih
                  · exact ih
              exact this)
          · rw [hb] at this; cases this
      · exact ih hw
    · exact ih hw
theorem bgTo_keep {P : Pb} {od : Nat → Nat} {h : Nat} {e : Nat → Bool} {s : Sch} {w b : Nat} (hs : s w = some b) : ∀ {k : Nat}, bgTo P od h e s k w = some b
  | 0 => hs
  | k + 1 => by
    have ih := @bgTo_keep P od h e s w b hs k
    rw [show bgTo P od h e s (k + 1) = if bgTo P od h e s k (od k) = none ∧ may P (bgTo P od h e s k) e (od k) = true then sup (bgTo P od h e s k) (od k) h else bgTo P od h e s k from rfl]
    split
    · rename_i q
      unfold sup
      split
      · rename_i q2; rw [← q2, ih] at q; cases q.1
      · exact ih
    · exact ih
/-- the beginning ends nobody -/
theorem isEnd_bg {P : Pb} {od : Nat → Nat} {h : Nat} {s : Sch} (hod : ∀ k, k < pN P → od k < pN P) (hH : ∀ w, w < pN P → 1 ≤ pH P w) {k : Nat} (hk : k ≤ pN P) (w : Nat) : isEnd P (bgTo P od h (isEnd P s h) s k) h w = isEnd P s h w := by
  cases hb : bgTo P od h (isEnd P s h) s k w with
  | none =>
    rw [isEnd_none hb]
    cases hs : s w with
    | none => rw [isEnd_none hs]
    | some b => rw [bgTo_keep hs] at hb; cases hb
  | some b =>
    rcases bgTo_out hod hk hb with q | ⟨q1, q2, q3⟩
    · rw [isEnd_some hb, isEnd_some q]
    · rw [isEnd_some hb, isEnd_none q1, q2]
      have := hH w q3
      simp; omega
theorem nx_none {P : Pb} {s : Sch} {e : Nat → Bool} : ∀ {m : Nat}, nxTo P s e m = none ↔ ∀ w, w < m → runs s e w = false
  | 0 => ⟨fun _ w h => absurd h (Nat.not_lt_zero w), fun _ => rfl⟩
  | m + 1 => by
    have ih := @nx_none P s e m
    constructor
    · intro h w hw
      unfold nxTo at h
      rcases Nat.lt_or_ge w m with q | q
      · refine ih.mp ?_ w q
        cases hs : s m with
        | none => rw [hs] at h; exact h
        | some b =>
          rw [hs] at h
          simp only at h
          split at h
          · exact h
          · cases hn : nxTo P s e m with
            | none => rfl
            | some x => rw [hn] at h; simp only at h; split at h <;> cases h
      · have : w = m := by omega
        subst this
        unfold runs
        cases hs : s w with
        | none => rfl
        | some b =>
          rw [hs] at h
          simp only at h
          split at h
          · rename_i he; rw [he]; rfl
          · cases hn : nxTo P s e w with
            | none => rw [hn] at h; cases h
            | some x => rw [hn] at h; simp only at h; split at h <;> cases h
    · intro h
      have h1 := ih.mpr (fun w hw => h w (by omega))
      unfold nxTo
      have h2 := h m (by omega)
      unfold runs at h2
      cases hs : s m with
      | none => exact h1
      | some b =>
        rw [hs] at h2
        simp only
        have : e m = true := by simpa using h2
        rw [if_pos this]; exact h1
theorem nx_some {P : Pb} {s : Sch} {e : Nat → Bool} : ∀ {m x : Nat}, nxTo P s e m = some x → (∃ w b, w < m ∧ s w = some b ∧ e w = false ∧ b + pH P w = x) ∧ ∀ w b, w < m → s w = some b → e w = false → x ≤ b + pH P w
  | 0, x, h => nomatch h
  | m + 1, x, h => by
    unfold nxTo at h
    cases hs : s m with
    | none =>
      rw [hs] at h
      obtain ⟨⟨w, b, q1, q2⟩, q3⟩ := nx_some (m := m) h
      refine ⟨⟨w, b, by omega, q2⟩, fun w b hw hb he => ?_⟩
      rcases Nat.lt_or_ge w m with q | q
      · exact q3 w b q hb he
      · have : w = m := by omega
        subst this; rw [hs] at hb; cases hb
    | some c =>
      rw [hs] at h
      simp only at h
      split at h
      · rename_i he0
        obtain ⟨⟨w, b, q1, q2⟩, q3⟩ := nx_some (m := m) h
        refine ⟨⟨w, b, by omega, q2⟩, fun w b hw hb he => ?_⟩
        rcases Nat.lt_or_ge w m with q | q
        · exact q3 w b q hb he
        · have : w = m := by omega
          subst this; rw [he0] at he; cases he
      · rename_i he0
        have he0 : e m = false := by simpa using he0
        cases hn : nxTo P s e m with
        | none =>
          rw [hn] at h
          simp only [Option.some.injEq] at h
          have hno := nx_none.mp hn
          refine ⟨⟨m, c, by omega, hs, he0, h⟩, fun w b hw hb he => ?_⟩
          rcases Nat.lt_or_ge w m with q | q
          · have := hno w q
            unfold runs at this
            rw [hb, he] at this; cases this
          · have : w = m := by omega
            subst this; rw [hs] at hb; cases hb; omega
        | some y =>
          rw [hn] at h
          obtain ⟨⟨w, b, q1, q2, q4, q5⟩, q3⟩ := nx_some (m := m) hn
          simp only at h
          split at h
          · rename_i hlt
            simp only [Option.some.injEq] at h
            refine ⟨⟨m, c, by omega, hs, he0, h⟩, fun w b hw hb he => ?_⟩
            rcases Nat.lt_or_ge w m with q | q
            · have := q3 w b q hb he; omega
            · have : w = m := by omega
              subst this; rw [hs] at hb; cases hb; omega
          · rename_i hlt
            simp only [Option.some.injEq] at h
            refine ⟨⟨w, b, by omega, q2, q4, by omega⟩, fun w b hw hb he => ?_⟩
            rcases Nat.lt_or_ge w m with q | q
            · have := q3 w b q hb he; omega
            · have : w = m := by omega
              subst this; rw [hs] at hb; cases hb; omega
def cntU (e : Nat → Bool) : Nat → Nat
  | 0 => 0
  | m + 1 => cntU e m + if e m then 0 else 1
theorem cntU_le {e : Nat → Bool} : ∀ {m : Nat}, cntU e m ≤ m
  | 0 => Nat.le_refl 0
  | m + 1 => by have := @cntU_le e m; unfold cntU; split <;> omega
theorem cntU_mono {e e2 : Nat → Bool} : ∀ {m : Nat}, (∀ w, w < m → e w = true → e2 w = true) → cntU e2 m ≤ cntU e m
  | 0, _ => Nat.le_refl 0
  | m + 1, h => by
    have h1 := cntU_mono (m := m) (fun w hw => h w (by omega))
    have h2 := h m (by omega)
    unfold cntU
    cases he : e m <;> cases he2 : e2 m <;> simp [he, he2] at h2 ⊢ <;> omega
theorem cntU_lt {e e2 : Nat → Bool} {w0 : Nat} (h1 : e w0 = false) (h2 : e2 w0 = true) : ∀ {m : Nat}, w0 < m → (∀ w, w < m → e w = true → e2 w = true) → cntU e2 m < cntU e m
  | 0, h, _ => absurd h (Nat.not_lt_zero w0)
  | m + 1, h, hm => by
    unfold cntU
    rcases Nat.lt_or_ge w0 m with q | q
    · have i1 := cntU_lt h1 h2 q (fun w hw => hm w (by omega))
      have i2 := hm m (by omega)
      cases he : e m <;> cases he2 : e2 m <;> simp [he, he2] at i2 ⊢ <;> omega
    · have : w0 = m := by omega
      subst this
      have i1 := cntU_mono (m := w0) (fun w hw => hm w (by omega))
      rw [h1, h2]; simp; omega
/-- the whole of a turn that goes on -/
theorem turn {P : Pb} {od : Nat → Nat} {h h1 : Nat} {s : Sch} (hod : ∀ k, k < pN P → od k < pN P) (hH : ∀ w, w < pN P → 1 ≤ pH P w ∧ pH P w ≤ 40) (hg : Good P s h) (hn : nxTo P (bgTo P od h (isEnd P s h) s (pN P)) (isEnd P s h) (pN P) = some h1) :
    h < h1 ∧ h1 ≤ h + 40 ∧ Good P (bgTo P od h (isEnd P s h) s (pN P)) h1 ∧ cntU (isEnd P (bgTo P od h (isEnd P s h) s (pN P)) h1) (pN P) < cntU (isEnd P s h) (pN P) ∧ (∀ w b, bgTo P od h (isEnd P s h) s (pN P) w = some b → b ≤ h) ∧
    (∀ w, isEnd P (bgTo P od h (isEnd P s h) s (pN P)) h1 w = (isEnd P s h w || match bgTo P od h (isEnd P s h) s (pN P) w with | some b => decide (b + pH P w = h1) | none => false)) := by
  obtain ⟨⟨w0, b0, q1, q2, q3, q4⟩, q5⟩ := nx_some hn
  have hb : ∀ w b, bgTo P od h (isEnd P s h) s (pN P) w = some b → b ≤ h ∧ w < pN P := fun w b hwb => by
    rcases bgTo_out hod (Nat.le_refl _) hwb with r | ⟨r1, r2, r3⟩
    · refine ⟨hg.1 w b r, ?_⟩
      rcases Nat.lt_or_ge w (pN P) with z | z
      · exact z
      · rw [hg.2 w z] at r; cases r
    · exact ⟨by omega, r3⟩
  have e1 : ∀ w, isEnd P (bgTo P od h (isEnd P s h) s (pN P)) h w = isEnd P s h w := isEnd_bg hod (fun w hw => (hH w hw).1) (Nat.le_refl _)
  generalize bgTo P od h (isEnd P s h) s (pN P) = s1 at hn q2 q5 hb e1
  have hlt : h < h1 := by
    have := e1 w0
    rw [q3, isEnd_some q2] at this
    simp at this
    omega
  have key : ∀ w, isEnd P s1 h1 w = (isEnd P s h w || match s1 w with | some b => decide (b + pH P w = h1) | none => false) := fun w => by
    cases hs : s1 w with
    | none => rw [isEnd_none hs, ← e1 w, isEnd_none hs]; rfl
    | some b =>
      obtain ⟨z1, z2⟩ := hb w b hs
      rw [isEnd_some hs]
      cases he : isEnd P s h w with
      | true =>
        have := e1 w
        rw [he, isEnd_some hs] at this
        simp at this
        simp; omega
      | false =>
        have := q5 w b z2 hs he
        simp
        constructor <;> intro <;> omega
  refine ⟨hlt, ?_, ⟨fun w b hwb => Nat.le_of_lt (Nat.lt_of_le_of_lt (hb w b hwb).1 hlt), fun w hw => ?_⟩, ?_, fun w b hwb => (hb w b hwb).1, key⟩
  · have := (hb w0 b0 q2).1
    have := (hH w0 q1).2
    omega
  · cases hs : s1 w with
    | none => rfl
    | some b => exact absurd (hb w b hs).2 (by omega)
  · refine cntU_lt (w0 := w0) q3 ?_ q1 (fun w hw he => ?_)
    · rw [key w0, q2]; simp [q4]
    · rw [key w, he]; rfl
