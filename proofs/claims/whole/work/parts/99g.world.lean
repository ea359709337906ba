/-! the world behind the constructors is the world of the Z layer -/
def zz0 (k j : Nat) : Int := if k = 0 then (if j = 6 then 100 else 0) else if k = 1 then (if j = 2 then -1 else 0) else if k = 2 then (if j = 5 then 30 else 0) else if k = 3 then (if j = 4 then -1 else if j = 5 then -1 else 0) else if k = 6 then (if j = 4 then -1 else 0) else if k = 99 then (if j = 6 then -1 else if j = 15 then 30 else if j = 16 then 100 else 0) else if k < 17 then 0 else if k < 33 then (if j = 4 then -1 else 0) else if k < 55 then (if j = 2 then -1 else 0) else 0
def z0 (k j : Nat) : Int := if (knd k).1 < 8 then zz0 k j else 0
def M0 : Mem := fun k j => Int32.ofInt (z0 k j)
def tgt0 (k : Nat) (q : Nat × Nat) : Nat := if q.1 = 0 then q.2 else k + q.2
theorem rk_go : ∀ k, k < 120 → go (rk k) = k ∧ rk k < 120 := by decide +kernel
theorem rk_gk {k : Nat} (h : k < 120) : gk (rk k) = knd k := by unfold gk; rw [(rk_go k h).1]
def ex0 (k j : Nat) : Gv := match rfd (knd k).1 j with
  | some q => some (.inl (rk (tgt0 k q)))
  | none => some (.inr (z0 k j))
def tb0 (k j : Nat) : Bool := match rfd (knd k).1 j with
  | some q => Nat.blt (tgt0 k q) 120
  | none => true
theorem chk_o : ∀ k, k < 120 → (knd k).1 < 8 → ∀ j, j < (knd k).2 → fL (rk k) j = ex0 k j ∧ tb0 k j = true := by decide +kernel
theorem gent_13 {E : EnT} {V : Nat → Nat → Gv} {i n : Nat} (h : gk i = (13, n)) : gent E V i = .inl (eC E 3, n, .inr (.inr (.inr (.inr (fun j => gop E (V i j)))))) := by rw [gent_t h]; rfl
theorem gent_14 {E : EnT} {V : Nat → Nat → Gv} {i n : Nat} (h : gk i = (14, n)) : gent E V i = .inl (eC E 4, n, .inr (.inr (.inr (.inr (fun j => gop E (V i j)))))) := by rw [gent_t h]; rfl
theorem chk_w : ∀ j, j < 16 → fL (rk 8) j = some (.inl (rk (j + 17))) ∧ rk (j + 17) < 120 := by decide +kernel
theorem chk_r : ∀ j, j < 22 → fL (rk 10) j = some (.inl (rk (j + 33))) ∧ rk (j + 33) < 120 := by decide +kernel
theorem chk_k : ∀ k, k < 120 → (knd k).1 < 8 ∨ (knd k).1 = 10 ∨ (knd k).1 = 11 ∨ (knd k).1 = 12 ∨ k = 8 ∨ k = 10 ∨ (knd k).1 = 15 := by decide +kernel
theorem M0_a {k j : Nat} (h : ¬ (knd k).1 < 8) : M0 k j = 0 := by
  show Int32.ofInt (z0 k j) = 0
  unfold z0; rw [if_neg h]; rfl
theorem arrV_cg {cA : ClassId} {n : Nat} {f g : Nat → Value} (h : ∀ j, j < n → f j = g j) : arrV cA n f = arrV cA n g := by
  unfold arrV
  congr 1
  congr 1
  funext j
  exact h j.1 j.2
set_option maxRecDepth 100000 in
theorem wl_of_gw {E : EnT} {H : Heap} (hE : ∀ k, k < 120 → eAd E k = eS E + rk k) (hP : va_P (eD E) vwCl (gw E (120, fL)) H) : va_P (eD E) vwCl (wl E M0) H ∧ va_D (eA E) (wl E M0) := by
  have hg : ∀ c, c < 120 → gad E (rk c) = eAd E c := fun c hc => by rw [gad_lt (show rk c < 1000 from Nat.lt_trans (rk_go c hc).2 (by decide)), hE c hc]
  have key : ∀ (k : Nat) (q : Nat × va_E), (wl E M0)[k]? = some q → k < 120 ∧ q = (eAd E k, ent E M0 k) := fun k q h => by
    have hk : k < 120 := by have := (List.getElem?_eq_some_iff.mp h).1; rwa [wl_len] at this
    rw [wl_at hk] at h
    exact ⟨hk, (Option.some.inj h).symm⟩
  refine ⟨fun k q h => ?_, fun i j x y hx hy hxy => ?_, fun k q h => ?_⟩
  · obtain ⟨hk, rfl⟩ := key k q h
    have h1 := hP (rk k) _ (gw_at (M := (120, fL)) (rk_go k hk).2)
    rw [← hE k hk] at h1
    have hkk := rk_gk hk
    obtain ⟨t, n, htn⟩ : ∃ t n, knd k = (t, n) := ⟨_, _, rfl⟩
    have c1 := chk_k k hk
    have c2 := chk_o k hk
    unfold ex0 tb0 at c2
    rw [htn] at hkk c1 c2
    dsimp only at c1 c2
    rcases c1 with c | c | c | c | c | c | c
    · rw [gent_obj hkk c] at h1
      rw [ent_obj htn c]
      have e : (List.range n).map (fun j => gvv E (fL (rk k) j)) = (List.range n).map (fv E M0 t k) := by
        refine List.map_congr_left fun j hj => ?_
        have c3 := c2 c j (List.mem_range.mp hj)
        unfold fv
        cases hr : rfd t j with
        | none =>
          rw [hr] at c3
          dsimp only at c3 ⊢
          rw [c3.1]; rfl
        | some q =>
          rw [hr] at c3
          dsimp only at c3 ⊢
          rw [c3.1]
          show Value.ref (gad E (rk (tgt0 k q))) = .ref (eAd E (tgt0 k q))
          rw [hg _ (Nat.blt_eq.mp c3.2)]
      have h2 : va_at (eD E) vwCl (eAd E k, .inr (t, (List.range n).map (fun j => gvv E (fL (rk k) j)))) H := h1
      rw [e] at h2
      exact h2
    · subst c
      rw [gent_t hkk] at h1
      rw [ent_10 htn, show M0 k = fun _ => 0 from funext fun j => M0_a (by rw [htn]; exact (by decide : ¬ (10 : Nat) < 8))]
      exact h1
    · subst c
      rw [gent_t hkk] at h1
      rw [ent_11 htn, show M0 k = fun _ => 0 from funext fun j => M0_a (by rw [htn]; exact (by decide : ¬ (11 : Nat) < 8))]
      exact h1
    · subst c
      rw [gent_t hkk] at h1
      rw [ent_12 htn, show M0 k = fun _ => 0 from funext fun j => M0_a (by rw [htn]; exact (by decide : ¬ (12 : Nat) < 8))]
      exact h1
    · subst c
      rw [gent_13 (n := 16) ((rk_gk hk).trans rfl)] at h1
      rw [ent_13 (k := 8) (n := 16) rfl]
      have h2 : H[eAd E 8]? = some (vp_cell (eC E 3) (16, .inr (.inr (.inr (.inr (fun j => gop E (fL (rk 8) j))))))) := h1
      show H[eAd E 8]? = some (vp_cell (eC E 3) (16, .inr (.inr (.inr (.inr (fun j => some (eAd E (j + 17))))))))
      rw [h2, vp_cell_q, vp_cell_q]
      refine congrArg some (arrV_cg fun j hj => ?_)
      rw [(chk_w j hj).1]
      show va_rf (some (gad E (rk (j + 17)))) = _
      rw [hg (j + 17) (by omega)]
    · subst c
      rw [gent_14 (n := 22) ((rk_gk hk).trans rfl)] at h1
      rw [ent_14 (k := 10) (n := 22) rfl]
      have h2 : H[eAd E 10]? = some (vp_cell (eC E 4) (22, .inr (.inr (.inr (.inr (fun j => gop E (fL (rk 10) j))))))) := h1
      show H[eAd E 10]? = some (vp_cell (eC E 4) (22, .inr (.inr (.inr (.inr (fun j => some (eAd E (j + 33))))))))
      rw [h2, vp_cell_q, vp_cell_q]
      refine congrArg some (arrV_cg fun j hj => ?_)
      rw [(chk_r j hj).1]
      show va_rf (some (gad E (rk (j + 33)))) = _
      rw [hg (j + 33) (by omega)]
    · subst c
      rw [gent_t hkk] at h1
      rw [ent_15 htn, show (fun j => (M0 k j).toInt64) = fun _ => 0 from funext fun j => by rw [M0_a (by rw [htn]; exact (by decide : ¬ (15 : Nat) < 8))]; rfl]
      exact h1
  · obtain ⟨hi, rfl⟩ := key i x hx
    obtain ⟨hj, rfl⟩ := key j y hy
    have e : eAd E i = eAd E j := hxy
    rw [hE i hi, hE j hj] at e
    have e2 : rk i = rk j := by omega
    rw [← (rk_go i hi).1, ← (rk_go j hj).1, e2]
  · obtain ⟨hk, rfl⟩ := key k q h
    show eS E ≤ eAd E k
    rw [hE k hk]; omega
theorem Inv0 : Inv M0 := by
  refine ⟨⟨0, by decide, rfl, rfl, fun i hi => ⟨0, by decide, ?_, ?_⟩⟩, rfl, ⟨100, by decide, rfl, rfl⟩, ⟨0, by decide, rfl, rfl, fun i hi => ?_⟩, ⟨0, 0, by decide, by decide, rfl, rfl, rfl, rfl, fun i hi => ⟨?_, ?_, ?_⟩⟩, ((0, fun _ _ => 0, fun _ => 0, fun _ => 0, fun _ _ => false, 30) : Bw), fun k => k, fun _ => none, 0, ?_⟩
  · rw [M0_a (by decide)]; rfl
  · rw [M0_a (by decide)]; rfl
  · rw [M0_a (by decide), M0_a (by decide)]
  · rw [M0_a (by decide), M0_a (by decide)]
  · rw [M0_a (by decide), M0_a (by decide)]
  · rw [M0_a (by decide), M0_a (by decide)]
  · refine ⟨by decide, rfl, rfl, fun r hr => ⟨⟨rfl, Nat.le_of_ble_eq_true rfl, rfl, Nat.le_of_ble_eq_true rfl, fun w hw => absurd hw (Nat.not_lt_zero w)⟩, ⟨rfl, Nat.le_of_ble_eq_true rfl, rfl, Nat.le_of_ble_eq_true rfl, fun w hw => absurd hw (Nat.not_lt_zero w)⟩⟩, ⟨fun k hk => absurd hk (Nat.not_lt_zero k), fun i j hi _ _ => absurd hi (Nat.not_lt_zero i)⟩, fun k hk => absurd hk (Nat.not_lt_zero k), fun w o hw _ => absurd hw (Nat.not_lt_zero w), fun w hw => absurd hw (Nat.not_lt_zero w), fun w hw => absurd hw (Nat.not_lt_zero w), fun w x hx => (nomatch hx), fun w hw => absurd hw (Nat.not_lt_zero w), 4294967295, ?_, Or.inr rfl, Or.inl rfl, fun q => ?_⟩
    · decide +kernel
    · exfalso
      exact (by decide +kernel : ¬ M0 3 4 = nI 0) q
