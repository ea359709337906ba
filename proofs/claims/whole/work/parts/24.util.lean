theorem nI_nm1 {c : Nat} (h : c < 2 ^ 31) : ¬ nI c = -1 := fun he => by
  have := congrArg Int32.toInt he
  rw [nI_toInt h] at this
  simp at this
theorem nI_m1ne {c : Nat} (h : c < 2 ^ 31) : ¬ (-1 : Int32) = nI c := fun he => nI_nm1 h he.symm
theorem le_nn {a b : Nat} (h : nI a ≤ nI b) (ha : a < 2 ^ 31) (hb : b < 2 ^ 31) : a ≤ b := (nI_leI ha hb).mp h
theorem lt_nn {a b : Nat} (h : nI a < nI b) (ha : a < 2 ^ 31) (hb : b < 2 ^ 31) : a < b := (nI_ltI ha hb).mp h
theorem nle_nn {a b : Nat} (h : ¬ nI a ≤ nI b) (ha : a < 2 ^ 31) (hb : b < 2 ^ 31) : b < a := Nat.lt_of_not_le fun q => h ((nI_leI ha hb).mpr q)
theorem nlt_nn {a b : Nat} (h : ¬ nI a < nI b) (ha : a < 2 ^ 31) (hb : b < 2 ^ 31) : b ≤ a := Nat.le_of_not_lt fun q => h ((nI_ltI ha hb).mpr q)
theorem mu_at (M : Mem) (k i : Nat) (v : Int32) (a b : Nat) : mu M k i v a b = if a = k then (if b = i then v else M k b) else M a b := by
  unfold mu
  split
  · rfl
  · rfl
theorem mu_self {M : Mem} {k i : Nat} {v : Int32} (h : M k i = v) : mu M k i v = M := by
  funext a b
  rw [mu_at]
  split
  · rename_i ha; subst ha
    split
    · rename_i hb; subst hb; exact h.symm
    · rfl
  · rfl
theorem mu_mu {M : Mem} {k i : Nat} {v w : Int32} : mu (mu M k i v) k i w = mu M k i w := by
  funext a b
  simp only [mu_at]
  split
  · rename_i ha
    split
    · rfl
    · rename_i hb; simp [ha, hb]
  · rename_i ha; simp [ha]
/-- the memories agree but in the places of S -/
def Eqx (S : Nat → Nat → Prop) (M N : Mem) : Prop := ∀ a b, ¬ S a b → N a b = M a b
theorem Eqx.rf {S : Nat → Nat → Prop} {M : Mem} : Eqx S M M := fun _ _ _ => rfl
theorem Eqx.tr {S : Nat → Nat → Prop} {M N P : Mem} (h : Eqx S M N) (h2 : Eqx S N P) : Eqx S M P := fun a b hs => (h2 a b hs).trans (h a b hs)
theorem Eqx.mu {S : Nat → Nat → Prop} {M N : Mem} {k i : Nat} {v : Int32} (h : Eqx S M N) (hs : S k i) : Eqx S M (mu N k i v) := fun a b hn => by
  rw [mu_at]
  split
  · rename_i ha; subst ha
    split
    · rename_i hb; subst hb; exact absurd hs hn
    · exact h _ _ hn
  · exact h _ _ hn
theorem Eqx.mono {S S2 : Nat → Nat → Prop} {M N : Mem} (h : Eqx S M N) (h2 : ∀ a b, S a b → S2 a b) : Eqx S2 M N := fun a b hn => h a b (fun q => hn (h2 a b q))
