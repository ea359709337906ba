/-! the two searches of LAST agree -/
theorem lnN_some {p : Nat → Bool} : ∀ {n m : Nat}, m < n → p m = true → (∀ h, m < h → h < n → p h = false) → lnN p n = some m
  | 0, m, hm, _, _ => absurd hm (Nat.not_lt_zero m)
  | n + 1, m, hm, hp, hq => by
    rw [lnN]
    rcases Nat.lt_or_ge m n with q | q
    · rw [hq n q (by omega)]
      exact lnN_some q hp (fun h h1 h2 => hq h h1 (by omega))
    · have : m = n := by omega
      subst this
      rw [if_pos hp]
theorem bsN_max {p : Nat → Bool} {m : Nat} (hm : m ≤ 1000) (hd : ∀ a b, a ≤ b → b ≤ 1000 → p b = true → p a = true) (hp : p m = true) (hq : ∀ h, m < h → h ≤ 1000 → p h = false) : ∀ {e h : Nat}, h ≤ m → m < h + 2 ^ e → bsN p e h = m
  | 0, h, h1, h2 => by rw [bsN]; rw [Nat.pow_zero] at h2; omega
  | e + 1, h, h1, h2 => by
    rw [bsN]
    rw [Nat.pow_succ] at h2
    by_cases c : h + 2 ^ e ≤ 1000 ∧ p (h + 2 ^ e) = true
    · rw [if_pos c]
      have : h + 2 ^ e ≤ m := Nat.le_of_not_lt fun q => by rw [hq _ q c.1] at c; exact absurd c.2 (by decide)
      exact bsN_max hm hd hp hq this (by omega)
    · rw [if_neg c]
      have : m < h + 2 ^ e := Nat.lt_of_not_le fun q => c ⟨by omega, hd _ m q hm hp⟩
      exact bsN_max hm hd hp hq h1 this
theorem ex_max {p : Nat → Bool} (h0 : p 0 = true) : ∀ n : Nat, ∃ m, m ≤ n ∧ p m = true ∧ ∀ h, m < h → h ≤ n → p h = false
  | 0 => ⟨0, Nat.le_refl 0, h0, fun h h1 h2 => by omega⟩
  | n + 1 => by
    cases hp : p (n + 1) with
    | true => exact ⟨n + 1, Nat.le_refl _, hp, fun h h1 h2 => by omega⟩
    | false =>
      obtain ⟨m, m1, m2, m3⟩ := ex_max h0 n
      refine ⟨m, by omega, m2, fun h h1 h2 => ?_⟩
      rcases Nat.lt_or_ge n h with q | q
      · have : h = n + 1 := by omega
        subst this; exact hp
      · exact m3 h h1 q
theorem bs_ln {p : Nat → Bool} (h0 : p 0 = true) (hd : ∀ a b, a ≤ b → b ≤ 1000 → p b = true → p a = true) : lnN p 1001 = some (bsN p 10 0) := by
  obtain ⟨m, m1, m2, m3⟩ := ex_max h0 1000
  rw [bsN_max m1 hd m2 m3 (Nat.zero_le m) (by omega)]
  exact lnN_some (by omega) m2 (fun h h1 h2 => m3 h h1 (by omega))
theorem backS_mono {s : Sch} {bk : Nat → Option Nat} {a b : Nat} (hab : a ≤ b) : ∀ {m v : Nat}, backS s bk b m = some v → ∃ u, backS s bk a m = some u ∧ u ≤ v
  | 0, v, hv => by cases hv; exact ⟨a, rfl, hab⟩
  | m + 1, v, hv => by
    rw [backS] at hv
    cases h1 : backS s bk b m with
    | none => rw [h1] at hv; cases hv
    | some w =>
      obtain ⟨u, u1, u2⟩ := backS_mono hab h1
      rw [h1] at hv
      rw [backS, u1]
      simp only at hv ⊢
      cases h2 : s m with
      | none => rw [h2] at hv; cases hv; exact ⟨u, rfl, u2⟩
      | some c =>
        rw [h2] at hv
        simp only at hv ⊢
        by_cases c1 : c < b
        · rw [if_pos c1] at hv
          cases h3 : bk m with
          | none => rw [h3] at hv; cases hv
          | some x =>
            rw [h3] at hv
            cases hv
            by_cases c2 : c < a
            · rw [if_pos c2]; exact ⟨u + x, rfl, by omega⟩
            · rw [if_neg c2]; exact ⟨u, rfl, by omega⟩
        · rw [if_neg c1] at hv
          cases hv
          rw [if_neg (by omega)]; exact ⟨u, rfl, u2⟩
theorem backS_z {s : Sch} {bk : Nat → Option Nat} : ∀ {m : Nat}, backS s bk 0 m = some 0
  | 0 => rfl
  | m + 1 => by
    rw [backS, backS_z (m := m)]
    simp only
    cases s m with
    | none => rfl
    | some c => simp only; rw [if_neg (Nat.not_lt_zero c)]
theorem lateS_mono {lim : Nat} {f g : Nat → Option Nat} (h : ∀ d v, g d = some v → ∃ u, f d = some u ∧ u ≤ v) : ∀ {d v : Nat}, lateS lim g d = some v → ∃ u, lateS lim f d = some u ∧ u ≤ v
  | 0, v, hv => ⟨v, hv, Nat.le_refl v⟩
  | d + 1, v, hv => by
    rw [lateS] at hv
    cases h1 : lateS lim g d with
    | none => rw [h1] at hv; cases hv
    | some w =>
      obtain ⟨u, u1, u2⟩ := lateS_mono h h1
      rw [h1] at hv
      simp only at hv
      cases h2 : g d with
      | none => rw [h2] at hv; cases hv
      | some y =>
        obtain ⟨z, z1, z2⟩ := h d y h2
        rw [h2] at hv
        cases hv
        rw [lateS, u1, z1]
        exact ⟨u + (z - lim), rfl, by omega⟩
theorem lateS_z {lim : Nat} {f : Nat → Option Nat} (h : ∀ d, f d = some 0) : ∀ {d : Nat}, lateS lim f d = some 0
  | 0 => rfl
  | d + 1 => by rw [lateS, lateS_z h (d := d), h d]; simp
theorem last_eq {dr lim n : Nat} {sf : Nat → Sch} {bk : Nat → Option Nat} {on : Option Nat} (hdr : dr ≠ 0) : lnN (fun h => held on (offS dr lim n sf bk h)) 1001 = some (bsN (fun h => held on (offS dr lim n sf bk h)) 10 0) := by
  refine bs_ln ?_ (fun a b hab hb hp => ?_)
  · have : offS dr lim n sf bk 0 = some 0 := by
      unfold offS drS
      rw [if_neg hdr, lateS_z (fun d => backS_z)]
    rw [this]
    cases on with
    | none => rfl
    | some y => simp [held]
  · have key : ∀ v, offS dr lim n sf bk b = some v → ∃ u, offS dr lim n sf bk a = some u ∧ u ≤ v := fun v hv => by
      unfold offS drS at hv ⊢
      rw [if_neg hdr] at hv ⊢
      exact lateS_mono (fun d v hv => backS_mono hab hv) hv
    show held on (offS dr lim n sf bk a) = true
    replace hp : held on (offS dr lim n sf bk b) = true := hp
    cases hv : offS dr lim n sf bk b with
    | none => rw [hv] at hp; cases hp
    | some v =>
      obtain ⟨u, u1, u2⟩ := key v hv
      rw [hv] at hp
      rw [u1]
      cases on with
      | none => rfl
      | some y => simp only [held, decide_eq_true_eq] at hp ⊢; omega
theorem last_0 {lim n : Nat} {sf : Nat → Sch} {bk : Nat → Option Nat} {on : Option Nat} : ∀ {m : Nat}, lnN (fun h => held on (offS 0 lim n sf bk h)) m = none
  | 0 => rfl
  | m + 1 => by
    rw [lnN, last_0 (m := m)]
    simp only [offS, drS, if_pos]
    rfl
