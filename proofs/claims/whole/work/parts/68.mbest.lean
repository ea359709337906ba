/-! the reference's BEST -/
def Sbm (a b : Nat) : Prop := Se a b ∨ a = 107 ∨ a = 114
theorem hrM_keepB {M N : Mem} {r w : Nat} (he : Eqx Sbm M N) : hrM N r w = hrM M r w := by
  unfold hrM
  rw [he 101 w (by unfold Sbm Se; omega), he 102 w (by unfold Sbm Se; omega), he 110 (16 * (r - 2) + w) (by unfold Sbm Se; omega)]
theorem WM.keepB {P : Pb} {M N : Mem} {r : Nat} (h : WM P M r) (he : Eqx Sbm M N) : WM P N r := by
  obtain ⟨h1, h2, h3, h4, h5⟩ := h
  refine ⟨by rw [he 99 14 (by unfold Sbm Se; omega)]; exact h1, h2, by rw [he 99 15 (by unfold Sbm Se; omega)]; exact h3, h4, fun w hw => ?_⟩
  obtain ⟨g1, g2, g3, g4, g5, g6, g7⟩ := h5 w hw
  exact ⟨by rw [he 104 w (by unfold Sbm Se; omega)]; exact g1, g2, by rw [he 103 w (by unfold Sbm Se; omega)]; exact g3, g4, by rw [he 106 w (by unfold Sbm Se; omega)]; exact g5, by rw [hrM_keepB he]; exact g6, g7⟩
theorem no_lt_id {n : Nat} {p : Nat → Nat} (hp : Pm n p) (h : ltP n p (fun k => k)) : False := by
  obtain ⟨i, h1, h2, h3⟩ := h
  have h3 : p i < i := h3
  have h4 : p (p i) = p i := h2 (p i) h3
  have := hp.2 (p i) i (by omega) h1 h4
  omega
set_option maxHeartbeats 8000000 in
theorem c_X7_best {l : Launch} {E : EnT} (hst : l.stackTraces = false) (M : Mem) (B : Bw) (od : Nat → Nat) (hP : Pm B.1 od) (hA : ∀ w o, w < B.1 → B.2.2.2.2.1 w o = true → o < w) (hW0 : WM (rowP B 0) M 0) (hW1 : WM (rowP B 1) M 1) (hod : ∀ k, k < B.1 → M 107 k = nI (od k)) : Mm l E mX7_best 2 0 0 [.ref 99] M (RB B od (fun N => Eqx Se M N ∧ N 99 0 = 0) (fun f N => Eqx Sbm M N ∧ N 99 0 = 0 ∧ ∀ k, k < B.1 → N 107 k = nI (f k))) := by
  have hn : M 99 14 = nI B.1 := hW0.1
  have h16 : B.1 ≤ 16 := hW0.2.1
  generalize hQ : RB B od (fun N => Eqx Se M N ∧ N 99 0 = 0) (fun f N => Eqx Sbm M N ∧ N 99 0 = 0 ∧ ∀ k, k < B.1 → N 107 k = nI (f k)) = Q
  refine Mm_go hst (by decide) rfl (Nat.le_of_ble_eq_true rfl) [some (.ref 99), none, none, none, none, none, none] rfl ?_
  have e0 : Eqx Se M (mu M 99 0 0) := Eqx.rf.mu (by unfold Se; omega)
  have no : ∀ N, ¬ (B.1 ≤ 7 ∧ endS (rowP B 1) od ≠ none) → Eqx Se M N → N 99 0 = 0 → Zz (zx l E mX7_best 2 Q) 0 0 22 [some (.ref 99), none, none, none, none, none, none] [] N := fun N h hE h0 => by
    rw [← hQ]
    refine z_iconst (v := (-1)) dX7_best_22 (by decide) rfl ?_
    exact z_ireturn dX7_best_23 rfl (Or.inr ⟨h, rfl, hE, h0⟩) (Nat.le_of_ble_eq_true rfl) (Nat.le_of_ble_eq_true rfl)
  refine z_aload_n dX7_best_0 rfl rfl ?_
  refine z_iconst (v := 0) dX7_best_1 (by decide) rfl ?_
  refine z_pi7 (j := 0) dX7_best_2 (by decide) fl_X7_79 rfl rfl rfl rfl rfl ?_
  refine z_aload_n dX7_best_5 rfl rfl ?_
  refine z_gi7 (j := 14) dX7_best_6 (by decide) fl_X7_144 rfl rfl rfl ?_
  refine z_bipush (v := 7) dX7_best_9 (by decide) rfl ?_
  refine z_icmp_gt (tgt := 22) dX7_best_11 (by decide) rfl (fun h1 => ?_) (fun h1 => ?_)
  · have h1 : (7 : Int32) < M 99 14 := h1
    rw [hn] at h1
    have := lt_nn (a := 7) h1 (by decide) (by omega)
    exact no _ (fun q => absurd q.1 (by omega)) e0 rfl
  · have h1 : ¬ (7 : Int32) < M 99 14 := h1
    rw [hn] at h1
    have h7 := nlt_nn (a := 7) h1 (by decide) (by omega)
    refine z_aload_n dX7_best_14 rfl rfl ?_
    refine z_iconst (v := 1) dX7_best_15 (by decide) rfl ?_
    refine z_tp (b := (nI 1)) rfl ?_
    refine z_cq1 (ci := 7) (nf := 32) (y := mX7_goes) dX7_best_16 ml_X7_183 iv_X7_goes (Nat.le_of_ble_eq_true rfl) rfl (by decide) rfl (Nat.le_of_ble_eq_true rfl) (Nat.le_of_ble_eq_true rfl) (Nat.le_of_ble_eq_true rfl) (c_X7_goes hst (mu M 99 0 0) (rowP B 1) 1 od (by decide) (hW1.keepE e0) (fun k hk => ⟨hod k hk, hP.1 k hk⟩)) rfl ?_
    intro N ⟨hE, _⟩
    have hE1 : Eqx Se M N := e0.tr (hE.mono (fun a b q => Sm_Se q))
    have z0 : N 99 0 = 0 := by rw [hE 99 0 (by unfold Sm; omega)]; rfl
    cases he : endS (rowP B 1) od with
    | none =>
      refine z_if_ge (tgt := 24) dX7_best_19 (by decide) rfl (fun h2 => ?_) (fun h2 => ?_)
      · exact absurd h2 (by decide)
      · exact no N (fun q => q.2 he) hE1 z0
    | some a0 =>
      have ab0 : a0 ≤ 680 := end_bd (P := rowP B 1) h16 hP.1 (fun w hw => (hW1.2.2.2.2 w hw).2.2.2.2.2.2) he
      have hx := hx_of hP (fun r hr w hw => by
        rcases (by omega : r = 0 ∨ r = 1) with e | e
        · subst e; exact (hW0.2.2.2.2 w hw).2.2.2.2.2.2
        · subst e; exact (hW1.2.2.2.2 w hw).2.2.2.2.2.2) hA (by rw [he]; exact Option.some_ne_none a0)
      have hyes : B.1 ≤ 7 ∧ endS (rowP B 1) od ≠ none := ⟨h7, by rw [he]; exact Option.some_ne_none a0⟩
      refine z_if_ge (tgt := 24) dX7_best_19 (by decide) rfl (fun h2 => ?_) (fun h2 => ?_)
      · refine z_ldc dX7_best_24 co_X7_178 rfl ?_
        refine z_ist1 dX7_best_26 (Nat.le_of_ble_eq_true rfl) rfl ?_
        refine z_ldc dX7_best_27 co_X7_178 rfl ?_
        refine z_ist2 dX7_best_29 (Nat.le_of_ble_eq_true rfl) rfl ?_
        refine z_iconst (v := 0) dX7_best_30 (by decide) rfl ?_
        refine z_ist3 dX7_best_31 (Nat.le_of_ble_eq_true rfl) rfl ?_
        -- the last copy
        have fin : ∀ (N : Mem) (b1 b0 : Nat) (f : Nat → Nat) (u4 u5 u6 : Option Value), Eqx Sbm M N → N 99 0 = 0 → Fst B (Pm B.1) f → b1 = e1N B f → (∀ k, k < B.1 → N 114 k = nI (f k)) → Zz (zx l E mX7_best 2 Q) 0 0 148 [some (.ref 99), some (.int (nI b1)), some (.int (nI b0)), some (.int 0), u4, u5, u6] [] N := by
          intro N b1 b0 f u4 u5 u6 hE z0 hF hb hf
          refine z_iconst (v := 0) dX7_best_148 (by decide) rfl ?_
          refine z_ist4 dX7_best_149 (Nat.le_of_ble_eq_true rfl) rfl ?_
          have loop : ∀ (m j : Nat), j + m = B.1 → Zz (zx l E mX7_best 2 Q) 0 0 151 [some (.ref 99), some (.int (nI b1)), some (.int (nI b0)), some (.int 0), some (.int (nI j)), u5, u6] [] (fil N 107 0 j (N 114)) := by
            intro m
            induction m with
            | zero =>
              intro j hj
              have e : j = B.1 := by omega
              subst e
              have hn2 : fil N 107 0 B.1 (N 114) 99 14 = nI B.1 := by rw [fil_o (by decide), hE 99 14 (by unfold Sbm Se; omega)]; exact hn
              refine z_iload dX7_best_151 rfl rfl ?_
              refine z_aload_n dX7_best_153 rfl rfl ?_
              refine z_gi7 (j := 14) dX7_best_154 (by decide) fl_X7_144 rfl rfl rfl ?_
              refine z_icmp_ge (tgt := 180) dX7_best_157 (by decide) rfl (fun g => ?_) (fun g => ?_)
              · rw [← hQ]
                refine z_iload_n dX7_best_180 rfl rfl ?_
                exact z_ireturn dX7_best_181 rfl (Or.inl ⟨hyes, f, hF, by rw [hb], fun x y q => by rw [fil_o (fun e => q (Or.inr (Or.inl e)))]; exact hE x y q, by rw [fil_o (by decide)]; exact z0, fun k hk => by rw [fil_i (Nat.zero_le _) (by omega), Nat.sub_zero]; exact hf k hk⟩) (Nat.le_of_ble_eq_true rfl) (Nat.le_of_ble_eq_true rfl)
              · exact absurd (by rw [hn2]; exact nI_le (Nat.le_refl _) (by omega)) g
            | succ m ih =>
              intro j hj
              have hn2 : fil N 107 0 j (N 114) 99 14 = nI B.1 := by rw [fil_o (by decide), hE 99 14 (by unfold Sbm Se; omega)]; exact hn
              refine z_iload dX7_best_151 rfl rfl ?_
              refine z_aload_n dX7_best_153 rfl rfl ?_
              refine z_gi7 (j := 14) dX7_best_154 (by decide) fl_X7_144 rfl rfl rfl ?_
              refine z_icmp_ge (tgt := 180) dX7_best_157 (by decide) rfl (fun g => ?_) (fun g => ?_)
              · exact absurd g (by rw [hn2]; exact nI_ge (by omega) (by omega))
              · refine z_aload_n dX7_best_160 rfl rfl ?_
                refine z_gr7 (j := 13) dX7_best_161 (by decide) fl_X7_36 rfl rfl rfl ?_
                refine z_iload dX7_best_164 rfl rfl ?_
                refine z_aload_n dX7_best_166 rfl rfl ?_
                refine z_gr7 (j := 25) dX7_best_167 (by decide) fl_X7_64 rfl rfl rfl ?_
                refine z_iload dX7_best_170 rfl rfl ?_
                refine z_iald dX7_best_172 (by first | rfl | exact knd_h (by omega) | exact knd_s (by omega)) rfl (by omega) (by decide) rfl ?_
                refine z_iast dX7_best_173 (by first | rfl | exact knd_h (by omega) | exact knd_s (by omega)) rfl (by omega) (by decide) rfl ?_
                refine z_mem (N := fil N 107 0 (j + 1) (N 114)) (fil_s' (by rw [fil_o (by decide)]) (by omega)) ?_
                first | refine z_iu4 dX7_best_174 (Nat.le_of_ble_eq_true rfl) rfl ?_ | refine z_inc4 dX7_best_174 (Nat.le_of_ble_eq_true rfl) rfl rfl ?_
                refine z_goto (tgt := 151) dX7_best_177 (by decide) ?_
                exact ih (j + 1) (by omega)
          refine z_mem (N := fil N 107 0 0 (N 114)) fil_0.symm ?_
          exact loop B.1 0 (by omega)
        -- the orders, one after another
        have ords : ∀ (fu : Nat) (c : Nat → Nat), 8 ^ B.1 - cod8 c B.1 ≤ fu → ∀ (N : Mem) (b1 b0 : Nat) (u4 u5 u6 : Option Value), Pm B.1 c → Eqx Sbm M N → N 99 0 = 0 → (∀ k, k < B.1 → N 107 k = nI (c k)) → b1 ≤ 1000000 → b0 ≤ 1000000 → CB B (fun p => Pm B.1 p ∧ ltP B.1 p c) N 114 b1 b0 → Zz (zx l E mX7_best 2 Q) 0 0 55 [some (.ref 99), some (.int (nI b1)), some (.int (nI b0)), some (.int 1), u4, u5, u6] [] N := by
          intro fu
          induction fu with
          | zero =>
            intro c hfu N b1 b0 u4 u5 u6 hc
            have := cod8_bd (hc.lt8 h7)
            omega
          | succ fu ih =>
            intro c hfu N b1 b0 u4 u5 u6 hc hE z0 h107 hb1 hb0 hC
            obtain ⟨⟨a, ha⟩, ⟨b, hb⟩⟩ := hx c hc
            have ea : e1N B c = a := by unfold e1N; rw [ha]; rfl
            have eb : e0N B c = b := by unfold e0N; rw [hb]; rfl
            have ab : a ≤ 680 := end_bd (P := rowP B 1) h16 hc.1 (fun w hw => (hW1.2.2.2.2 w hw).2.2.2.2.2.2) ha
            have bb : b ≤ 680 := end_bd (P := rowP B 0) h16 hc.1 (fun w hw => (hW0.2.2.2.2 w hw).2.2.2.2.2.2) hb
            have hT : ∀ p, (Pm B.1 p ∧ (ltP B.1 p c ∨ eqP B.1 p c)) ↔ ((Pm B.1 p ∧ ltP B.1 p c) ∨ eqP B.1 p c) := fun p => ⟨fun ⟨h1, h2⟩ => h2.elim (fun q => Or.inl ⟨h1, q⟩) Or.inr, fun h => h.elim (fun q => ⟨q.1, Or.inl q.2⟩) (fun q => ⟨Pm_cg (fun k hk => (q k hk).symm) hc, Or.inr q⟩)⟩
            -- on to the next
            have nxt : ∀ (N : Mem) (b1 b0 : Nat) (u4 u5 u6 : Option Value), Eqx Sbm M N → N 99 0 = 0 → (∀ k, k < B.1 → N 107 k = nI (c k)) → b1 ≤ 1000000 → b0 ≤ 1000000 → CB B (fun p => Pm B.1 p ∧ (ltP B.1 p c ∨ eqP B.1 p c)) N 114 b1 b0 → Zz (zx l E mX7_best 2 Q) 0 0 140 [some (.ref 99), some (.int (nI b1)), some (.int (nI b0)), some (.int 1), u4, u5, u6] [] N := by
              intro N b1 b0 u4 u5 u6 hE z0 h107 hb1 hb0 hC
              refine z_aload_n dX7_best_140 rfl rfl ?_
              refine z_cg0 (ci := 7) (nf := 32) (y := mX7_isNext) dX7_best_141 ml_X7_189 iv_X7_isNext (Nat.le_of_ble_eq_true rfl) rfl (by decide) rfl (Nat.le_of_ble_eq_true rfl) (Nat.le_of_ble_eq_true rfl) (Nat.le_of_ble_eq_true rfl) (c_X7_isNext hst N c B.1 h7 (by rw [hE 99 14 (by unfold Sbm Se; omega)]; exact hn) hc h107) (fun C N h => by rcases h.2 with q | q <;> cases q.1) rfl (fun v N2 h => ?_)
              obtain ⟨hE2, hr⟩ := h
              have hE3 : Eqx Sbm M N2 := hE.tr (hE2.mono (fun x y q => Or.inr (Or.inl q)))
              have z2 : N2 99 0 = 0 := by rw [hE2 99 0 (by omega)]; exact z0
              have k114 : ∀ k, N2 114 k = N 114 k := fun k => hE2 114 k (by omega)
              rcases hr with ⟨r1, g, g1, g2, g3, g4⟩ | ⟨r1, g4⟩
              · cases r1
                refine z_ist3 dX7_best_144 (Nat.le_of_ble_eq_true rfl) rfl ?_
                refine z_goto (tgt := 55) dX7_best_145 (by decide) ?_
                have hlt := cod8_lt (hc.lt8 h7) g3
                exact ih g (by omega) N2 b1 b0 u4 u5 u6 g1 hE3 z2 g2 hb1 hb0 (CB_cg hC (fun p => ⟨fun h => ⟨h.1, (g4 p h.1).mpr h.2⟩, fun h => ⟨h.1, (g4 p h.1).mp h.2⟩⟩) (fun k hk => k114 k))
              · cases r1
                refine z_ist3 dX7_best_144 (Nat.le_of_ble_eq_true rfl) rfl ?_
                refine z_goto (tgt := 55) dX7_best_145 (by decide) ?_
                refine z_iload_n dX7_best_55 rfl rfl ?_
                refine z_if_eq (tgt := 148) dX7_best_56 (by decide) rfl (fun g5 => ?_) (fun g5 => ?_)
                · rcases hC with ⟨_, _, q3⟩ | ⟨f, q1, q2, q3, q4⟩
                  · exact absurd ⟨hc, Or.inr (fun _ _ => rfl)⟩ (q3 c)
                  · exact fin N2 b1 b0 f _ _ _ hE3 z2 (Fst_cg q1 (fun p => ⟨fun h => h.1, fun h => ⟨h, g4 p h⟩⟩)) q2 (fun k hk => by rw [k114]; exact q4 k hk)
                · exact absurd rfl g5
            refine z_iload_n dX7_best_55 rfl rfl ?_
            refine z_if_eq (tgt := 148) dX7_best_56 (by decide) rfl (fun g => ?_) (fun g => ?_)
            · exact absurd g (by decide)
            · refine z_aload_n dX7_best_59 rfl rfl ?_
              refine z_iconst (v := 1) dX7_best_60 (by decide) rfl ?_
              refine z_tp (b := (nI 1)) rfl ?_
              refine z_cq1 (ci := 7) (nf := 32) (y := mX7_goes) dX7_best_61 ml_X7_183 iv_X7_goes (Nat.le_of_ble_eq_true rfl) rfl (by decide) rfl (Nat.le_of_ble_eq_true rfl) (Nat.le_of_ble_eq_true rfl) (Nat.le_of_ble_eq_true rfl) (c_X7_goes hst N (rowP B 1) 1 c (by decide) (hW1.keepB hE) (fun k hk => ⟨h107 k hk, hc.1 k hk⟩)) rfl ?_
              intro N2 ⟨hE2, _⟩
              rw [ha]
              refine z_tp (b := (nI a)) rfl ?_
              have hE3 : Eqx Sbm M N2 := hE.tr (hE2.mono (fun x y q => Or.inl (Sm_Se q)))
              have z2 : N2 99 0 = 0 := by rw [hE2 99 0 (by unfold Sm; omega)]; exact z0
              have h1072 : ∀ k, k < B.1 → N2 107 k = nI (c k) := fun k hk => by rw [hE2 107 k (by unfold Sm; omega)]; exact h107 k hk
              have k114 : ∀ k, N2 114 k = N 114 k := fun k => hE2 114 k (by unfold Sm; omega)
              refine z_ist4 dX7_best_64 (Nat.le_of_ble_eq_true rfl) rfl ?_
              refine z_iload dX7_best_66 rfl rfl ?_
              refine z_iload_n dX7_best_68 rfl rfl ?_
              refine z_icmp_le (tgt := 77) dX7_best_69 (by decide) rfl (fun g1 => ?_) (fun g1 => ?_)
              · have hle := le_nn g1 (by omega) (by omega)
                refine z_aload_n dX7_best_77 rfl rfl ?_
                refine z_iconst (v := 0) dX7_best_78 (by decide) rfl ?_
                refine z_tp (b := (nI 0)) rfl ?_
                refine z_cq1 (ci := 7) (nf := 32) (y := mX7_goes) dX7_best_79 ml_X7_183 iv_X7_goes (Nat.le_of_ble_eq_true rfl) rfl (by decide) rfl (Nat.le_of_ble_eq_true rfl) (Nat.le_of_ble_eq_true rfl) (Nat.le_of_ble_eq_true rfl) (c_X7_goes hst N2 (rowP B 0) 0 c (by decide) (hW0.keepB hE3) (fun k hk => ⟨h1072 k hk, hc.1 k hk⟩)) rfl ?_
                intro N3 ⟨hE4, _⟩
                rw [hb]
                refine z_tp (b := (nI b)) rfl ?_
                have hE5 : Eqx Sbm M N3 := hE3.tr (hE4.mono (fun x y q => Or.inl (Sm_Se q)))
                have z3 : N3 99 0 = 0 := by rw [hE4 99 0 (by unfold Sm; omega)]; exact z2
                have h1073 : ∀ k, k < B.1 → N3 107 k = nI (c k) := fun k hk => by rw [hE4 107 k (by unfold Sm; omega)]; exact h1072 k hk
                have k1143 : ∀ k, N3 114 k = N 114 k := fun k => by rw [hE4 114 k (by unfold Sm; omega)]; exact k114 k
                have take : (a < b1 ∨ (a = b1 ∧ b < b0)) → Zz (zx l E mX7_best 2 Q) 0 0 102 [some (.ref 99), some (.int (nI b1)), some (.int (nI b0)), some (.int 1), some (.int (nI a)), some (.int (nI b)), u6] [] N3 := fun hk => by
                  refine z_iload dX7_best_102 rfl rfl ?_
                  refine z_ist1 dX7_best_104 (Nat.le_of_ble_eq_true rfl) rfl ?_
                  refine z_iload dX7_best_105 rfl rfl ?_
                  refine z_ist2 dX7_best_107 (Nat.le_of_ble_eq_true rfl) rfl ?_
                  refine z_iconst (v := 0) dX7_best_108 (by decide) rfl ?_
                  refine z_ist6 dX7_best_109 (Nat.le_of_ble_eq_true rfl) rfl ?_
                  have loop : ∀ (m j : Nat), j + m = B.1 → Zz (zx l E mX7_best 2 Q) 0 0 111 [some (.ref 99), some (.int (nI a)), some (.int (nI b)), some (.int 1), some (.int (nI a)), some (.int (nI b)), some (.int (nI j))] [] (fil N3 114 0 j (N3 107)) := by
                    intro m
                    induction m with
                    | zero =>
                      intro j hj
                      have e : j = B.1 := by omega
                      subst e
                      have hn2 : fil N3 114 0 B.1 (N3 107) 99 14 = nI B.1 := by rw [fil_o (by decide), hE5 99 14 (by unfold Sbm Se; omega)]; exact hn
                      refine z_iload dX7_best_111 rfl rfl ?_
                      refine z_aload_n dX7_best_113 rfl rfl ?_
                      refine z_gi7 (j := 14) dX7_best_114 (by decide) fl_X7_144 rfl rfl rfl ?_
                      refine z_icmp_ge (tgt := 140) dX7_best_117 (by decide) rfl (fun g => ?_) (fun g => ?_)
                      · refine nxt _ a b _ _ _ (fun x y q => by rw [fil_o (fun e => q (Or.inr (Or.inr e)))]; exact hE5 x y q) (by rw [fil_o (by decide)]; exact z3) (fun k hk => by rw [fil_o (by decide)]; exact h1073 k hk) (by omega) (by omega) ?_
                        have q := CB_new (N2 := fil N3 114 0 B.1 (N3 107)) hC hT (by rw [ea, eb]; exact hk) (fun k hk => by rw [fil_i (Nat.zero_le _) (by omega), Nat.sub_zero]; exact h1073 k hk)
                        rw [ea, eb] at q
                        exact q
                      · exact absurd (by rw [hn2]; exact nI_le (Nat.le_refl _) (by omega)) g
                    | succ m ihm =>
                      intro j hj
                      have hn2 : fil N3 114 0 j (N3 107) 99 14 = nI B.1 := by rw [fil_o (by decide), hE5 99 14 (by unfold Sbm Se; omega)]; exact hn
                      refine z_iload dX7_best_111 rfl rfl ?_
                      refine z_aload_n dX7_best_113 rfl rfl ?_
                      refine z_gi7 (j := 14) dX7_best_114 (by decide) fl_X7_144 rfl rfl rfl ?_
                      refine z_icmp_ge (tgt := 140) dX7_best_117 (by decide) rfl (fun g => ?_) (fun g => ?_)
                      · exact absurd g (by rw [hn2]; exact nI_ge (by omega) (by omega))
                      · refine z_aload_n dX7_best_120 rfl rfl ?_
                        refine z_gr7 (j := 25) dX7_best_121 (by decide) fl_X7_64 rfl rfl rfl ?_
                        refine z_iload dX7_best_124 rfl rfl ?_
                        refine z_aload_n dX7_best_126 rfl rfl ?_
                        refine z_gr7 (j := 13) dX7_best_127 (by decide) fl_X7_36 rfl rfl rfl ?_
                        refine z_iload dX7_best_130 rfl rfl ?_
                        refine z_iald dX7_best_132 (by first | rfl | exact knd_h (by omega) | exact knd_s (by omega)) rfl (by omega) (by decide) rfl ?_
                        refine z_iast dX7_best_133 (by first | rfl | exact knd_h (by omega) | exact knd_s (by omega)) rfl (by omega) (by decide) rfl ?_
                        refine z_mem (N := fil N3 114 0 (j + 1) (N3 107)) (fil_s' (by rw [fil_o (by decide)]) (by omega)) ?_
                        first | refine z_iu6 dX7_best_134 (Nat.le_of_ble_eq_true rfl) rfl ?_ | refine z_inc6 dX7_best_134 (Nat.le_of_ble_eq_true rfl) rfl rfl ?_
                        refine z_goto (tgt := 111) dX7_best_137 (by decide) ?_
                        exact ihm (j + 1) (by omega)
                  refine z_mem (N := fil N3 114 0 0 (N3 107)) fil_0.symm ?_
                  exact loop B.1 0 (by omega)
                have keep : b1 = a → b0 ≤ b → Zz (zx l E mX7_best 2 Q) 0 0 140 [some (.ref 99), some (.int (nI b1)), some (.int (nI b0)), some (.int 1), some (.int (nI a)), some (.int (nI b)), u6] [] N3 := fun q1 q2 =>
                  nxt N3 b1 b0 _ _ _ hE5 z3 h1073 hb1 hb0 (CB_keep hC hT (fun p hp => hp.2) (by omega) (Or.inr ⟨by omega, by omega⟩) (fun k hk => k1143 k))
                refine z_ist5 dX7_best_82 (Nat.le_of_ble_eq_true rfl) rfl ?_
                refine z_iload dX7_best_84 rfl rfl ?_
                refine z_iload_n dX7_best_86 rfl rfl ?_
                refine z_icmp_lt (tgt := 102) dX7_best_87 (by decide) rfl (fun g2 => ?_) (fun g2 => ?_)
                · exact take (Or.inl (lt_nn g2 (by omega) (by omega)))
                · have hge := nlt_nn g2 (by omega) (by omega)
                  refine z_iload dX7_best_90 rfl rfl ?_
                  refine z_iload_n dX7_best_92 rfl rfl ?_
                  refine z_icmp_ne (tgt := 140) dX7_best_93 (by decide) rfl (fun g3 => ?_) (fun g3 => ?_)
                  · exact absurd (by rw [show a = b1 by omega]) g3
                  · refine z_iload dX7_best_96 rfl rfl ?_
                    refine z_iload_n dX7_best_98 rfl rfl ?_
                    refine z_icmp_ge (tgt := 140) dX7_best_99 (by decide) rfl (fun g4 => ?_) (fun g4 => ?_)
                    · exact keep (by omega) (le_nn g4 (by omega) (by omega))
                    · exact take (Or.inr ⟨by omega, nle_nn g4 (by omega) (by omega)⟩)
              · have hlt := nle_nn g1 (by omega) (by omega)
                refine z_ldc dX7_best_72 co_X7_178 rfl ?_
                refine z_goto (tgt := 82) dX7_best_74 (by decide) ?_
                refine z_ist5 dX7_best_82 (Nat.le_of_ble_eq_true rfl) rfl ?_
                refine z_iload dX7_best_84 rfl rfl ?_
                refine z_iload_n dX7_best_86 rfl rfl ?_
                refine z_icmp_lt (tgt := 102) dX7_best_87 (by decide) rfl (fun g2 => ?_) (fun g2 => ?_)
                · have := lt_nn g2 (by omega) (by omega)
                  omega
                · refine z_iload dX7_best_90 rfl rfl ?_
                  refine z_iload_n dX7_best_92 rfl rfl ?_
                  refine z_icmp_ne (tgt := 140) dX7_best_93 (by decide) rfl (fun g3 => ?_) (fun g3 => ?_)
                  · exact nxt N2 b1 b0 _ _ _ hE3 z2 h1072 hb1 hb0 (CB_keep hC hT (fun p hp => hp.2) (by omega) (Or.inl (by omega)) (fun k hk => k114 k))
                  · have := (nI_eq (by omega) (by omega)).mp g3
                    omega
        -- the first order
        have first : ∀ (m j : Nat), j + m = B.1 → Zz (zx l E mX7_best 2 Q) 0 0 32 [some (.ref 99), some (.int 1000000), some (.int 1000000), some (.int (nI j)), none, none, none] [] (fil N 107 0 j nI) := by
          intro m
          induction m with
          | zero =>
            intro j hj
            have e : j = B.1 := by omega
            subst e
            have hn2 : fil N 107 0 B.1 nI 99 14 = nI B.1 := by rw [fil_o (by decide), hE1 99 14 (by unfold Se; omega)]; exact hn
            refine z_iload_n dX7_best_32 rfl rfl ?_
            refine z_aload_n dX7_best_33 rfl rfl ?_
            refine z_gi7 (j := 14) dX7_best_34 (by decide) fl_X7_144 rfl rfl rfl ?_
            refine z_icmp_ge (tgt := 53) dX7_best_37 (by decide) rfl (fun g => ?_) (fun g => ?_)
            · refine z_iconst (v := 1) dX7_best_53 (by decide) rfl ?_
              refine z_ist3 dX7_best_54 (Nat.le_of_ble_eq_true rfl) rfl ?_
              exact ords _ (fun k => k) (Nat.le_refl _) _ 1000000 1000000 _ _ _ ⟨fun k hk => hk, fun i j _ _ h => h⟩ (fun x y q => by rw [fil_o (fun e => q (Or.inr (Or.inl e)))]; exact hE1 x y (fun z => q (Or.inl z))) (by rw [fil_o (by decide)]; exact z0) (fun k hk => by rw [fil_i (Nat.zero_le _) (by omega), Nat.sub_zero]) (by decide) (by decide) (Or.inl ⟨by decide, by decide, fun p hp => no_lt_id hp.1 hp.2⟩)
            · exact absurd (by rw [hn2]; exact nI_le (Nat.le_refl _) (by omega)) g
          | succ m ih =>
            intro j hj
            have hn2 : fil N 107 0 j nI 99 14 = nI B.1 := by rw [fil_o (by decide), hE1 99 14 (by unfold Se; omega)]; exact hn
            refine z_iload_n dX7_best_32 rfl rfl ?_
            refine z_aload_n dX7_best_33 rfl rfl ?_
            refine z_gi7 (j := 14) dX7_best_34 (by decide) fl_X7_144 rfl rfl rfl ?_
            refine z_icmp_ge (tgt := 53) dX7_best_37 (by decide) rfl (fun g => ?_) (fun g => ?_)
            · exact absurd g (by rw [hn2]; exact nI_ge (by omega) (by omega))
            · refine z_aload_n dX7_best_40 rfl rfl ?_
              refine z_gr7 (j := 13) dX7_best_41 (by decide) fl_X7_36 rfl rfl rfl ?_
              refine z_iload_n dX7_best_44 rfl rfl ?_
              refine z_iload_n dX7_best_45 rfl rfl ?_
              refine z_iast dX7_best_46 (by first | rfl | exact knd_h (by omega) | exact knd_s (by omega)) rfl (by omega) (by decide) rfl ?_
              refine z_mem (N := fil N 107 0 (j + 1) nI) (fil_s' rfl (by omega)) ?_
              first | refine z_iu3 dX7_best_47 (Nat.le_of_ble_eq_true rfl) rfl ?_ | refine z_inc3 dX7_best_47 (Nat.le_of_ble_eq_true rfl) rfl rfl ?_
              refine z_goto (tgt := 32) dX7_best_50 (by decide) ?_
              exact ih (j + 1) (by omega)
        refine z_mem (N := fil N 107 0 0 nI) fil_0.symm ?_
        exact first B.1 0 (by omega)
      · exact absurd (nI_le (a := 0) (Nat.zero_le a0) (by omega)) h2
