/-- the places o to o + n of the cell k hold f -/
def fil (M : Mem) (k o n : Nat) (f : Nat → Int32) : Mem := fun a b => if a = k ∧ o ≤ b ∧ b < o + n then f (b - o) else M a b
theorem fil_0 {M : Mem} {k o : Nat} {f : Nat → Int32} : fil M k o 0 f = M := by
  funext a b; unfold fil; rw [if_neg (by omega)]
theorem fil_s {M : Mem} {k o n : Nat} {f : Nat → Int32} : mu (fil M k o n f) k (o + n) (f n) = fil M k o (n + 1) f := by
  funext a b
  rw [mu_at]
  unfold fil
  by_cases ha : a = k
  · subst ha
    by_cases hb : b = o + n
    · subst hb
      rw [if_pos rfl, if_pos rfl, if_pos (by omega), Nat.add_sub_cancel_left]
    · rw [if_pos rfl, if_neg hb]
      by_cases h1 : o ≤ b ∧ b < o + n
      · rw [if_pos ⟨rfl, h1⟩, if_pos (by omega)]
      · rw [if_neg (fun q => h1 q.2), if_neg (by omega)]
  · rw [if_neg ha, if_neg (fun q => ha q.1), if_neg (fun q => ha q.1)]
theorem fil_s' {M : Mem} {k o n : Nat} {f : Nat → Int32} {v : Int32} {i : Nat} (hv : v = f n) (hi : i = o + n) : mu (fil M k o n f) k i v = fil M k o (n + 1) f := by rw [hv, hi, fil_s]
theorem fil_o {M : Mem} {k o n a b : Nat} {f : Nat → Int32} (h : a ≠ k) : fil M k o n f a b = M a b := by unfold fil; rw [if_neg (fun q => h q.1)]
theorem fil_oc {M : Mem} {k o n a : Nat} {f : Nat → Int32} (h : a ≠ k) : fil M k o n f a = M a := funext fun _ => fil_o h
theorem fil_i {M : Mem} {k o n b : Nat} {f : Nat → Int32} (h1 : o ≤ b) (h2 : b < o + n) : fil M k o n f k b = f (b - o) := by unfold fil; rw [if_pos ⟨rfl, h1, h2⟩]
theorem fil_x {M : Mem} {k o n b : Nat} {f : Nat → Int32} (h : b < o ∨ o + n ≤ b) : fil M k o n f k b = M k b := by unfold fil; rw [if_neg (by omega)]
theorem fil_cg {M : Mem} {k o n : Nat} {f g : Nat → Int32} (h : ∀ i, i < n → f i = g i) : fil M k o n f = fil M k o n g := by
  funext a b; unfold fil
  split
  · rename_i q; exact h _ (by omega)
  · rfl
theorem fil_fil {M : Mem} {k o n m : Nat} {f g : Nat → Int32} : fil (fil M k o n f) k (o + n) m g = fil M k o (n + m) (fun i => if i < n then f i else g (i - n)) := by
  funext a b; unfold fil
  by_cases ha : a = k
  · subst ha
    by_cases h1 : o ≤ b ∧ b < o + n
    · rw [if_neg (by omega), if_pos ⟨rfl, h1⟩, if_pos (by omega)]; dsimp only; rw [if_pos (by omega)]
    · by_cases h2 : o + n ≤ b ∧ b < o + n + m
      · rw [if_pos ⟨rfl, h2⟩, if_pos (by omega)]; dsimp only; rw [if_neg (by omega)]
        congr 1; omega
      · rw [if_neg (fun q => h2 q.2), if_neg (fun q => h1 q.2), if_neg (by omega)]
  · rw [if_neg (fun q => ha q.1), if_neg (fun q => ha q.1), if_neg (fun q => ha q.1)]
theorem fil_mu {M : Mem} {k o n a i : Nat} {f : Nat → Int32} {v : Int32} (h : a ≠ k) : fil (mu M a i v) k o n f = mu (fil M k o n f) a i v := by
  funext x y
  rw [mu_at]
  unfold fil
  by_cases hx : x = k
  · subst hx
    rw [if_neg (Ne.symm h)]
    split
    · rfl
    · rw [mu_at, if_neg (Ne.symm h)]
  · rw [if_neg (fun q => hx q.1), mu_at]
    split
    · rename_i q; subst q
      split
      · rfl
      · rw [if_neg (fun q => hx q.1)]
    · rw [if_neg (fun q => hx q.1)]
theorem mu_comm {M : Mem} {k i a j : Nat} {v w : Int32} (h : k ≠ a) : mu (mu M k i v) a j w = mu (mu M a j w) k i v := by
  funext x y
  simp only [mu_at]
  by_cases hx : x = a
  · subst hx
    simp [Ne.symm h]
  · simp [hx, h]
/-- bytes of a number, the highest first -/
def byC (v : Int32) (i : Nat) : Int32 := (v.toUInt32 >>> ((nI (24 - 8 * i)).toUInt32 &&& Int32.toUInt32 31)).toInt32 &&& 255
def byM (v : Int32) (i : Nat) : Int32 := (v >>> (nI (24 - 8 * i) &&& 31)).toInt8.toInt32
set_option maxHeartbeats 4000000 in
theorem c_X3_put {l : Launch} {E : EnT} (hst : l.stackTraces = false) (v : Int32) (M : Mem) (t : Nat) (ht : M 1 1 = nI t) (h2 : t + 4 ≤ 200) : Mm l E mX3_put 0 0 0 [.ref 1, .int v] M (Rt none (mu (fil M 7 t 4 (byC v)) 1 1 (nI (t + 4)))) := by
  refine Mm_go hst (by decide) rfl (Nat.le_of_ble_eq_true rfl) [some (.ref 1), some (.int v), none] rfl ?_
  refine z_bipush (v := 24) dX3_put_0 (by decide) rfl ?_
  refine z_ist2 dX3_put_2 (Nat.le_of_ble_eq_true rfl) rfl ?_
  have loop : ∀ (k i : Nat), i + k = 4 → ∀ (x : Int32), x = nI 24 - nI (8 * i) → Zz (zx l E mX3_put 0 (Rt none (mu (fil M 7 t 4 (byC v)) 1 1 (nI (t + 4))))) 0 0 3 [some (.ref 1), some (.int v), some (.int x)] [] (mu (fil M 7 t i (byC v)) 1 1 (nI (t + i))) := by
    intro k
    induction k with
    | zero =>
      intro i hi x hx
      have e : i = 4 := by omega
      subst e; subst hx
      refine z_iload_n dX3_put_3 rfl rfl ?_
      refine z_if_lt (tgt := 39) dX3_put_4 (by decide) rfl (fun hc => ?_) (fun hc => ?_)
      · exact z_return dX3_put_39 rfl ⟨rfl, rfl⟩ (Nat.le_of_ble_eq_true rfl) (Nat.le_of_ble_eq_true rfl)
      · exact absurd (by decide) hc
    | succ k ih =>
      intro i hi x hx
      have hx2 : x = nI (24 - 8 * i) := by rw [hx, pk_sub (by omega)]
      subst hx2
      refine z_iload_n dX3_put_3 rfl rfl ?_
      refine z_if_lt (tgt := 39) dX3_put_4 (by decide) rfl (fun hc => ?_) (fun hc => ?_)
      · exact absurd hc (nI_pos (by omega))
      · refine z_aload_n dX3_put_7 rfl rfl ?_
        refine z_gr3 (j := 3) dX3_put_8 (by decide) fl_X3_25 rfl rfl rfl ?_
        refine z_aload_n dX3_put_11 rfl rfl ?_
        refine z_gi3 (j := 1) dX3_put_12 (by decide) fl_X3_18 rfl rfl rfl ?_
        refine z_iload_n dX3_put_15 rfl rfl ?_
        refine z_iload_n dX3_put_16 rfl rfl ?_
        refine z_iushr dX3_put_17 rfl ?_
        refine z_sipush (v := 255) dX3_put_18 (by decide) rfl ?_
        refine z_iand dX3_put_21 rfl ?_
        refine z_iast dX3_put_22 (by first | rfl | exact knd_h (by omega) | exact knd_s (by omega)) (show mu (fil M 7 t i (byC v)) 1 1 (nI (t + i)) 1 1 = nI (t + i) from rfl) (by omega) (by decide) rfl ?_
        refine z_mem (N := mu (fil M 7 t (i + 1) (byC v)) 1 1 (nI (t + i))) ?_ ?_
        · rw [mu_comm (by decide)]; exact congrArg (fun z => mu z 1 1 (nI (t + i))) (fil_s (f := byC v))
        refine z_aload_n dX3_put_23 rfl rfl ?_
        refine z_dup dX3_put_24 rfl rfl ?_
        refine z_gi3 (j := 1) dX3_put_25 (by decide) fl_X3_18 rfl rfl rfl ?_
        refine z_iconst (v := 1) dX3_put_28 (by decide) rfl ?_
        refine z_iadd dX3_put_29 rfl ?_
        refine z_pi3 (j := 1) dX3_put_30 (by decide) fl_X3_18 rfl rfl rfl rfl rfl ?_
        refine z_mem (N := mu (fil M 7 t (i + 1) (byC v)) 1 1 (nI (t + (i + 1)))) ?_ ?_
        · rw [← Nat.add_assoc, ← nI_1 (t + i)]; exact mu_mu
        refine z_inc2 dX3_put_33 (Nat.le_of_ble_eq_true rfl) rfl rfl ?_
        refine z_goto (tgt := 3) dX3_put_36 (by decide) ?_
        refine ih (i + 1) (by omega) _ ?_
        rw [hx, Int32.sub_eq_add_neg, Int32.sub_eq_add_neg, show 8 * (i + 1) = 8 * i + 8 by omega, ← nI_add, Int32.neg_add, Int32.sub_eq_add_neg, Int32.add_assoc]; rfl
  refine z_mem (N := mu (fil M 7 t 0 (byC v)) 1 1 (nI (t + 0))) ?_ (loop 4 0 (by omega) 24 (by decide))
  rw [fil_0]; exact (mu_self ht).symm
def fd5 (a b c d e : Int32) : Nat → Int32 := fun w => if w = 0 then a else if w = 1 then b else if w = 2 then c else if w = 3 then d else e
theorem fil_put {M : Mem} {t n : Nat} {f g : Nat → Int32} {x : Int32} (h : t + n = x.toNatClampNeg) : fil (mu (fil M 7 t n f) 1 1 x) 7 (t + n) 4 g = mu (fil M 7 t (n + 4) (fun i => if i < n then f i else g (i - n))) 1 1 x := by
  rw [fil_mu (by decide), fil_fil]
set_option maxHeartbeats 4000000 in
theorem c_X6_feed {l : Launch} {E : EnT} (hst : l.stackTraces = false) (a b c d e : Int32) (M : Mem) (t : Nat) (ht : M 1 1 = nI t) (h2 : t ≤ 200) : Mm l E mX6_feed 1 0 0 [.ref 0, .int a, .int b, .int c, .int d, .int e] M (Rt (some (.int (if t + 20 ≤ 200 then nI (t + 20) else -1))) (if t + 20 ≤ 200 then mu (fil M 7 t 20 (fun i => byC (fd5 a b c d e (i / 4)) (i % 4))) 1 1 (nI (t + 20)) else M)) := by
  refine Mm_go hst (by decide) rfl (Nat.le_of_ble_eq_true rfl) [some (.ref 0), some (.int a), some (.int b), some (.int c), some (.int d), some (.int e)] rfl ?_
  have e20 : M 1 1 + 20 = nI (t + 20) := by rw [ht, show (20 : Int32) = nI 20 from rfl, nI_add]
  refine z_aload_n dX6_feed_0 rfl rfl ?_
  refine z_gr6 (j := 0) dX6_feed_1 (by decide) fl_X6_10 rfl rfl rfl ?_
  refine z_gi3 (j := 1) dX6_feed_4 (by decide) fl_X6_48 rfl rfl rfl ?_
  refine z_bipush (v := 20) dX6_feed_7 (by decide) rfl ?_
  refine z_iadd dX6_feed_9 rfl ?_
  refine z_sipush (v := 200) dX6_feed_10 (by decide) rfl ?_
  refine z_icmp_le (tgt := 18) dX6_feed_13 (by decide) rfl (fun h1 => ?_) (fun h1 => ?_)
  · have h3 : t + 20 ≤ 200 := le_nn (b := 200) (by rw [← e20]; exact h1) (by omega) (by decide)
    rw [if_pos h3, if_pos h3]
    refine z_aload_n dX6_feed_18 rfl rfl ?_
    refine z_gr6 (j := 0) dX6_feed_19 (by decide) fl_X6_10 rfl rfl rfl ?_
    refine z_iload_n dX6_feed_22 rfl rfl ?_
    refine z_cn1 (ci := 3) (nf := 10) (y := mX3_put) dX6_feed_23 ml_X6_51 iv_X3_put (Nat.le_of_ble_eq_true rfl) rfl (by decide) rfl (Nat.le_of_ble_eq_true rfl) (Nat.le_of_ble_eq_true rfl) (Nat.le_of_ble_eq_true rfl) (c_X3_put hst a M t ht (by omega)) rfl ?_
    refine z_aload_n dX6_feed_26 rfl rfl ?_
    refine z_gr6 (j := 0) dX6_feed_27 (by decide) fl_X6_10 rfl rfl rfl ?_
    refine z_iload_n dX6_feed_30 rfl rfl ?_
    refine z_cn1 (ci := 3) (nf := 10) (y := mX3_put) dX6_feed_31 ml_X6_51 iv_X3_put (Nat.le_of_ble_eq_true rfl) rfl (by decide) rfl (Nat.le_of_ble_eq_true rfl) (Nat.le_of_ble_eq_true rfl) (Nat.le_of_ble_eq_true rfl) (c_X3_put hst b _ (t + 4) rfl (by omega)) rfl ?_
    refine z_aload_n dX6_feed_34 rfl rfl ?_
    refine z_gr6 (j := 0) dX6_feed_35 (by decide) fl_X6_10 rfl rfl rfl ?_
    refine z_iload_n dX6_feed_38 rfl rfl ?_
    refine z_cn1 (ci := 3) (nf := 10) (y := mX3_put) dX6_feed_39 ml_X6_51 iv_X3_put (Nat.le_of_ble_eq_true rfl) rfl (by decide) rfl (Nat.le_of_ble_eq_true rfl) (Nat.le_of_ble_eq_true rfl) (Nat.le_of_ble_eq_true rfl) (c_X3_put hst c _ (t + 4 + 4) rfl (by omega)) rfl ?_
    refine z_aload_n dX6_feed_42 rfl rfl ?_
    refine z_gr6 (j := 0) dX6_feed_43 (by decide) fl_X6_10 rfl rfl rfl ?_
    refine z_iload dX6_feed_46 rfl rfl ?_
    refine z_cn1 (ci := 3) (nf := 10) (y := mX3_put) dX6_feed_48 ml_X6_51 iv_X3_put (Nat.le_of_ble_eq_true rfl) rfl (by decide) rfl (Nat.le_of_ble_eq_true rfl) (Nat.le_of_ble_eq_true rfl) (Nat.le_of_ble_eq_true rfl) (c_X3_put hst d _ (t + 4 + 4 + 4) rfl (by omega)) rfl ?_
    refine z_aload_n dX6_feed_51 rfl rfl ?_
    refine z_gr6 (j := 0) dX6_feed_52 (by decide) fl_X6_10 rfl rfl rfl ?_
    refine z_iload dX6_feed_55 rfl rfl ?_
    refine z_cn1 (ci := 3) (nf := 10) (y := mX3_put) dX6_feed_57 ml_X6_51 iv_X3_put (Nat.le_of_ble_eq_true rfl) rfl (by decide) rfl (Nat.le_of_ble_eq_true rfl) (Nat.le_of_ble_eq_true rfl) (Nat.le_of_ble_eq_true rfl) (c_X3_put hst e _ (t + 4 + 4 + 4 + 4) rfl (by omega)) rfl ?_
    refine z_mem (N := mu (fil M 7 t 20 (fun i => byC (fd5 a b c d e (i / 4)) (i % 4))) 1 1 (nI (t + 20))) ?_ ?_
    · simp only [fil_mu (show (1 : Nat) ≠ 7 by decide), mu_mu, fil_fil, Nat.add_assoc]
      refine congrArg (fun z => mu z 1 1 (nI (t + 20))) ?_
      refine fil_cg (fun i hi => ?_)
      rcases (show i < 4 ∨ (4 ≤ i ∧ i < 8) ∨ (8 ≤ i ∧ i < 12) ∨ (12 ≤ i ∧ i < 16) ∨ (16 ≤ i ∧ i < 20) by omega) with q | q | q | q | q
      · rw [show i / 4 = 0 by omega, show i % 4 = i by omega]; simp only [fd5]; rw [if_pos (by omega), if_pos (by omega), if_pos (by omega), if_pos (by omega)]; rfl
      · rw [show i / 4 = 1 by omega, show i % 4 = i - 4 by omega]; simp only [fd5]; rw [if_pos (by omega), if_pos (by omega), if_pos (by omega), if_neg (by omega)]; rfl
      · rw [show i / 4 = 2 by omega, show i % 4 = i - 8 by omega]; simp only [fd5]; rw [if_pos (by omega), if_pos (by omega), if_neg (by omega)]; rfl
      · rw [show i / 4 = 3 by omega, show i % 4 = i - 12 by omega]; simp only [fd5]; rw [if_pos (by omega), if_neg (by omega)]; rfl
      · rw [show i / 4 = 4 by omega, show i % 4 = i - 16 by omega]; simp only [fd5]; rw [if_neg (by omega)]; rfl
    refine z_aload_n dX6_feed_60 rfl rfl ?_
    refine z_gr6 (j := 0) dX6_feed_61 (by decide) fl_X6_10 rfl rfl rfl ?_
    refine z_gi3 (j := 1) dX6_feed_64 (by decide) fl_X6_48 rfl rfl rfl ?_
    exact z_ireturn dX6_feed_67 rfl ⟨rfl, rfl⟩ (Nat.le_of_ble_eq_true rfl) (Nat.le_of_ble_eq_true rfl)
  · have h3 : ¬ t + 20 ≤ 200 := fun q => h1 (by rw [e20]; exact nI_le (b := 200) q (by decide))
    rw [if_neg h3, if_neg h3]
    refine z_iconst (v := (-1)) dX6_feed_16 (by decide) rfl ?_
    exact z_ireturn dX6_feed_17 rfl ⟨rfl, rfl⟩ (Nat.le_of_ble_eq_true rfl) (Nat.le_of_ble_eq_true rfl)
set_option maxHeartbeats 8000000 in
theorem c_X7_feed {l : Launch} {E : EnT} (hst : l.stackTraces = false) (a b c d e : Int32) (M0 : Mem) (t : Nat) (ht0 : M0 99 2 = nI t) (h2 : t ≤ 200) : Mm l E mX7_feed 0 0 0 [.ref 99, .int a, .int b, .int c, .int d, .int e] M0 (Rt (some (.int (if t + 20 ≤ 200 then nI (t + 20) else -1))) (if t + 20 ≤ 200 then mu (fil (mu M0 99 0 0) 100 t 20 (fun i => byM (fd5 a b c d e (i / 4)) (i % 4))) 99 2 (nI (t + 20)) else mu M0 99 0 0)) := by
  refine Mm_go hst (by decide) rfl (Nat.le_of_ble_eq_true rfl) [some (.ref 99), some (.int a), some (.int b), some (.int c), some (.int d), some (.int e), none, none, none] rfl ?_
  refine z_aload_n dX7_feed_0 rfl rfl ?_
  refine z_iconst (v := 0) dX7_feed_1 (by decide) rfl ?_
  refine z_pi7 (j := 0) dX7_feed_2 (by decide) fl_X7_79 rfl rfl rfl rfl rfl ?_
  have ht : mu M0 99 0 0 99 2 = nI t := ht0
  generalize mu M0 99 0 0 = M at ht ⊢
  have e20 : M 99 2 + 20 = nI (t + 20) := by rw [ht, show (20 : Int32) = nI 20 from rfl, nI_add]
  refine z_aload_n dX7_feed_5 rfl rfl ?_
  refine z_gi7 (j := 2) dX7_feed_6 (by decide) fl_X7_82 rfl rfl rfl ?_
  refine z_bipush (v := 20) dX7_feed_9 (by decide) rfl ?_
  refine z_iadd dX7_feed_11 rfl ?_
  refine z_sipush (v := 200) dX7_feed_12 (by decide) rfl ?_
  refine z_icmp_le (tgt := 20) dX7_feed_15 (by decide) rfl (fun h1 => ?_) (fun h1 => ?_)
  · have h3 : t + 20 ≤ 200 := le_nn (b := 200) (by rw [← e20]; exact h1) (by omega) (by decide)
    rw [if_pos h3, if_pos h3]
    generalize hF : (fun i => byM (fd5 a b c d e (i / 4)) (i % 4)) = F
    have inner : ∀ (w : Nat), w < 5 → Zz (zx l E mX7_feed 0 (Rt (some (.int (nI (t + 20)))) (mu (fil M 100 t 20 F) 99 2 (nI (t + 20))))) 0 0 23 [some (.ref 99), some (.int a), some (.int b), some (.int c), some (.int d), some (.int e), some (.int (nI (w + 1))), some (.int (fd5 a b c d e w)), some (.int (-8))] [] (mu (fil M 100 t (4 * (w + 1)) F) 99 2 (nI (t + 4 * (w + 1)))) → ∀ (k i : Nat), i + k = 4 → ∀ (x : Int32), x = nI 24 - nI (8 * i) → Zz (zx l E mX7_feed 0 (Rt (some (.int (nI (t + 20)))) (mu (fil M 100 t 20 F) 99 2 (nI (t + 20))))) 0 0 77 [some (.ref 99), some (.int a), some (.int b), some (.int c), some (.int d), some (.int e), some (.int (nI w)), some (.int (fd5 a b c d e w)), some (.int x)] [] (mu (fil M 100 t (4 * w + i) F) 99 2 (nI (t + (4 * w + i)))) := by
      intro w hw hgo k
      induction k with
      | zero =>
        intro i hi x hx
        have ei : i = 4 := by omega
        subst ei; subst hx
        refine z_iload dX7_feed_77 rfl rfl ?_
        refine z_if_lt (tgt := 113) dX7_feed_79 (by decide) rfl (fun hc => ?_) (fun hc => ?_)
        · first | refine z_iu6 dX7_feed_113 (Nat.le_of_ble_eq_true rfl) rfl ?_ | refine z_inc6 dX7_feed_113 (Nat.le_of_ble_eq_true rfl) rfl rfl ?_
          refine z_goto (tgt := 23) dX7_feed_116 (by decide) ?_
          exact hgo
        · exact absurd (by decide) hc
      | succ k ih =>
        intro i hi x hx
        have hx2 : x = nI (24 - 8 * i) := by rw [hx, pk_sub (by omega)]
        subst hx2
        refine z_iload dX7_feed_77 rfl rfl ?_
        refine z_if_lt (tgt := 113) dX7_feed_79 (by decide) rfl (fun hc => ?_) (fun hc => ?_)
        · exact absurd hc (nI_pos (by omega))
        · refine z_aload_n dX7_feed_82 rfl rfl ?_
          refine z_gr7 (j := 1) dX7_feed_83 (by decide) fl_X7_7 rfl rfl rfl ?_
          refine z_aload_n dX7_feed_86 rfl rfl ?_
          refine z_gi7 (j := 2) dX7_feed_87 (by decide) fl_X7_82 rfl rfl rfl ?_
          refine z_iload dX7_feed_90 rfl rfl ?_
          refine z_iload dX7_feed_92 rfl rfl ?_
          refine z_ishr dX7_feed_94 rfl ?_
          refine z_i2b dX7_feed_95 rfl ?_
          refine z_bast dX7_feed_96 rfl (show mu (fil M 100 t (4 * w + i) F) 99 2 (nI (t + (4 * w + i))) 99 2 = nI (t + (4 * w + i)) from rfl) (by omega) (by decide) rfl ?_
          refine z_mem (N := mu (fil M 100 t (4 * w + (i + 1)) F) 99 2 (nI (t + (4 * w + i)))) ?_ ?_
          · rw [mu_comm (by decide)]
            refine congrArg (fun z => mu z 99 2 (nI (t + (4 * w + i)))) ?_
            refine fil_s' ?_ rfl
            rw [pk_vb, ← hF]
            dsimp only
            rw [show (4 * w + i) / 4 = w by omega, show (4 * w + i) % 4 = i by omega]; rfl
          refine z_aload_n dX7_feed_97 rfl rfl ?_
          refine z_dup dX7_feed_98 rfl rfl ?_
          refine z_gi7 (j := 2) dX7_feed_99 (by decide) fl_X7_82 rfl rfl rfl ?_
          refine z_iconst (v := 1) dX7_feed_102 (by decide) rfl ?_
          refine z_iadd dX7_feed_103 rfl ?_
          refine z_pi7 (j := 2) dX7_feed_104 (by decide) fl_X7_82 rfl rfl rfl rfl rfl ?_
          refine z_mem (N := mu (fil M 100 t (4 * w + (i + 1)) F) 99 2 (nI (t + (4 * w + (i + 1))))) ?_ ?_
          · rw [← Nat.add_assoc (4 * w), ← Nat.add_assoc t (4 * w + i), ← nI_1 (t + (4 * w + i))]; exact mu_mu
          refine z_inc8 dX7_feed_107 (Nat.le_of_ble_eq_true rfl) rfl rfl ?_
          refine z_goto (tgt := 77) dX7_feed_110 (by decide) ?_
          refine ih (i + 1) (by omega) _ ?_
          rw [hx, Int32.sub_eq_add_neg, Int32.sub_eq_add_neg, show 8 * (i + 1) = 8 * i + 8 by omega, ← nI_add, Int32.neg_add, Int32.sub_eq_add_neg, Int32.add_assoc]; rfl
    have loop : ∀ (k w : Nat), w + k = 5 → ∀ (u v : Option Value), Zz (zx l E mX7_feed 0 (Rt (some (.int (nI (t + 20)))) (mu (fil M 100 t 20 F) 99 2 (nI (t + 20))))) 0 0 23 [some (.ref 99), some (.int a), some (.int b), some (.int c), some (.int d), some (.int e), some (.int (nI w)), u, v] [] (mu (fil M 100 t (4 * w) F) 99 2 (nI (t + 4 * w))) := by
      intro k
      induction k with
      | zero =>
        intro w hw u v
        have ew : w = 5 := by omega
        subst ew
        refine z_iload dX7_feed_23 rfl rfl ?_
        refine z_iconst (v := 5) dX7_feed_25 (by decide) rfl ?_
        refine z_icmp_ge (tgt := 119) dX7_feed_26 (by decide) rfl (fun hc => ?_) (fun hc => ?_)
        · refine z_aload_n dX7_feed_119 rfl rfl ?_
          refine z_gi7 (j := 2) dX7_feed_120 (by decide) fl_X7_82 rfl rfl rfl ?_
          exact z_ireturn dX7_feed_123 rfl ⟨rfl, rfl⟩ (Nat.le_of_ble_eq_true rfl) (Nat.le_of_ble_eq_true rfl)
        · exact absurd (by decide) hc
      | succ k ih =>
        intro w hw u v
        refine z_iload dX7_feed_23 rfl rfl ?_
        refine z_iconst (v := 5) dX7_feed_25 (by decide) rfl ?_
        refine z_icmp_ge (tgt := 119) dX7_feed_26 (by decide) rfl (fun hc => ?_) (fun hc => ?_)
        · exact absurd (le_nn (a := 5) hc (by decide) (by omega)) (by omega)
        · have fin : Zz (zx l E mX7_feed 0 (Rt (some (.int (nI (t + 20)))) (mu (fil M 100 t 20 F) 99 2 (nI (t + 20))))) 0 0 71 [some (.ref 99), some (.int a), some (.int b), some (.int c), some (.int d), some (.int e), some (.int (nI w)), u, v] [.int (fd5 a b c d e w)] (mu (fil M 100 t (4 * w) F) 99 2 (nI (t + 4 * w))) := by
            refine z_ist7 dX7_feed_71 (Nat.le_of_ble_eq_true rfl) rfl ?_
            refine z_bipush (v := 24) dX7_feed_73 (by decide) rfl ?_
            refine z_ist8 dX7_feed_75 (Nat.le_of_ble_eq_true rfl) rfl ?_
            exact inner w (by omega) (ih (w + 1) (by omega) _ _) 4 0 (by omega) 24 (by decide)
          rcases (show w = 0 ∨ w = 1 ∨ w = 2 ∨ w = 3 ∨ w = 4 by omega) with rfl | rfl | rfl | rfl | rfl
          · refine z_iload dX7_feed_29 rfl rfl ?_
            refine z_if_ne (tgt := 38) dX7_feed_31 (by decide) rfl (fun h4 => ?_) (fun h4 => ?_)
            · exact absurd rfl h4
            · refine z_iload_n dX7_feed_34 rfl rfl ?_
              refine z_goto (tgt := 71) dX7_feed_35 (by decide) ?_
              exact fin
          · refine z_iload dX7_feed_29 rfl rfl ?_
            refine z_if_ne (tgt := 38) dX7_feed_31 (by decide) rfl (fun h4 => ?_) (fun h4 => ?_)
            · refine z_iload dX7_feed_38 rfl rfl ?_
              refine z_iconst (v := 1) dX7_feed_40 (by decide) rfl ?_
              refine z_icmp_ne (tgt := 48) dX7_feed_41 (by decide) rfl (fun h5 => ?_) (fun h5 => ?_)
              · exact absurd rfl h5
              · refine z_iload_n dX7_feed_44 rfl rfl ?_
                refine z_goto (tgt := 71) dX7_feed_45 (by decide) ?_
                exact fin
            · exact absurd h4 (by decide)
          · refine z_iload dX7_feed_29 rfl rfl ?_
            refine z_if_ne (tgt := 38) dX7_feed_31 (by decide) rfl (fun h4 => ?_) (fun h4 => ?_)
            · refine z_iload dX7_feed_38 rfl rfl ?_
              refine z_iconst (v := 1) dX7_feed_40 (by decide) rfl ?_
              refine z_icmp_ne (tgt := 48) dX7_feed_41 (by decide) rfl (fun h5 => ?_) (fun h5 => ?_)
              · refine z_iload dX7_feed_48 rfl rfl ?_
                refine z_iconst (v := 2) dX7_feed_50 (by decide) rfl ?_
                refine z_icmp_ne (tgt := 58) dX7_feed_51 (by decide) rfl (fun h6 => ?_) (fun h6 => ?_)
                · exact absurd rfl h6
                · refine z_iload_n dX7_feed_54 rfl rfl ?_
                  refine z_goto (tgt := 71) dX7_feed_55 (by decide) ?_
                  exact fin
              · exact absurd h5 (by decide)
            · exact absurd h4 (by decide)
          · refine z_iload dX7_feed_29 rfl rfl ?_
            refine z_if_ne (tgt := 38) dX7_feed_31 (by decide) rfl (fun h4 => ?_) (fun h4 => ?_)
            · refine z_iload dX7_feed_38 rfl rfl ?_
              refine z_iconst (v := 1) dX7_feed_40 (by decide) rfl ?_
              refine z_icmp_ne (tgt := 48) dX7_feed_41 (by decide) rfl (fun h5 => ?_) (fun h5 => ?_)
              · refine z_iload dX7_feed_48 rfl rfl ?_
                refine z_iconst (v := 2) dX7_feed_50 (by decide) rfl ?_
                refine z_icmp_ne (tgt := 58) dX7_feed_51 (by decide) rfl (fun h6 => ?_) (fun h6 => ?_)
                · refine z_iload dX7_feed_58 rfl rfl ?_
                  refine z_iconst (v := 3) dX7_feed_60 (by decide) rfl ?_
                  refine z_icmp_ne (tgt := 69) dX7_feed_61 (by decide) rfl (fun h7 => ?_) (fun h7 => ?_)
                  · exact absurd rfl h7
                  · refine z_iload dX7_feed_64 rfl rfl ?_
                    refine z_goto (tgt := 71) dX7_feed_66 (by decide) ?_
                    exact fin
                · exact absurd h6 (by decide)
              · exact absurd h5 (by decide)
            · exact absurd h4 (by decide)
          · refine z_iload dX7_feed_29 rfl rfl ?_
            refine z_if_ne (tgt := 38) dX7_feed_31 (by decide) rfl (fun h4 => ?_) (fun h4 => ?_)
            · refine z_iload dX7_feed_38 rfl rfl ?_
              refine z_iconst (v := 1) dX7_feed_40 (by decide) rfl ?_
              refine z_icmp_ne (tgt := 48) dX7_feed_41 (by decide) rfl (fun h5 => ?_) (fun h5 => ?_)
              · refine z_iload dX7_feed_48 rfl rfl ?_
                refine z_iconst (v := 2) dX7_feed_50 (by decide) rfl ?_
                refine z_icmp_ne (tgt := 58) dX7_feed_51 (by decide) rfl (fun h6 => ?_) (fun h6 => ?_)
                · refine z_iload dX7_feed_58 rfl rfl ?_
                  refine z_iconst (v := 3) dX7_feed_60 (by decide) rfl ?_
                  refine z_icmp_ne (tgt := 69) dX7_feed_61 (by decide) rfl (fun h7 => ?_) (fun h7 => ?_)
                  · refine z_iload dX7_feed_69 rfl rfl ?_
                    exact fin
                  · exact absurd h7 (by decide)
                · exact absurd h6 (by decide)
              · exact absurd h5 (by decide)
            · exact absurd h4 (by decide)
    refine z_iconst (v := 0) dX7_feed_20 (by decide) rfl ?_
    refine z_ist6 dX7_feed_21 (Nat.le_of_ble_eq_true rfl) rfl ?_
    refine z_mem (N := mu (fil M 100 t (4 * 0) F) 99 2 (nI (t + 4 * 0))) ?_ (loop 5 0 (by omega) _ _)
    rw [show 4 * 0 = 0 from rfl, fil_0]; exact (mu_self ht).symm
  · have h3 : ¬ t + 20 ≤ 200 := fun q => h1 (by rw [e20]; exact nI_le (b := 200) q (by decide))
    rw [if_neg h3, if_neg h3]
    refine z_iconst (v := (-1)) dX7_feed_18 (by decide) rfl ?_
    exact z_ireturn dX7_feed_19 rfl ⟨rfl, rfl⟩ (Nat.le_of_ble_eq_true rfl) (Nat.le_of_ble_eq_true rfl)
