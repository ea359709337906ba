def R_law : String := "BridgeNightLaw"
def lw_P (b : Addr) (xs : List Int32) (args : Array Value) (s : State) : Prop := args = #[.ref b] ∧ s.IntsAt b xs ∧ xs.length ≤ 3072 ∧ (Jvm.Cond.and given_1 narrow_1).before args s = true
def lw_Q (_ : Array Value) (s : State) (o : Outcome) (t : State) : Prop := o = .returned (some (.int 1)) ∧ Framed s o t [] 601024 7293034
def lw_Z (below : List Frame) (a : Array Value) (s : State) : State → Prop := fun t => ∃ o, t.status = .running ∧ Ended t below o ∧ lw_Q a s o t
theorem lw_ret {p : Program} {l : Launch} {e : Env} {R : Room} {s : State} {args : Array Value} {m : MethodId} {below : List Frame} {meth : Method} {c : Code} (hx : p.tables.exec = Jvm.exec) (hb : c.code = code) (hr : meth.sig.returnType = ret) (hlocks : meth.locks = false) {pc : Nat} {H : Heap} {ls : Array Slot} (hdg : decode code pc = .ok (.ireturn, 1)) : W p l e R s m args below meth c H [] 601024 7293034 (lw_Z below args s) (F0 m pc ls [.int 1]) := by
  intro T hT X
  obtain ⟨fs, hret, hrun, hended, hW, hframe⟩ := X.leave (v := some (.int 1)) (hlocks := hlocks) (fun h => by rw [hr] at h; cases h)
  have hmeth' : T.vm.method? m = some meth := X.method'
  refine ⟨T.setFrames fs, ?_, .returned (some (.int 1)), hrun, hended, rfl, ⟨_, rfl⟩, hW, hframe⟩
  jvm_step X.here [X.here.top, hx, hb, hdg, hmeth', hr, ret, narrow_b1]
  (try refine ⟨rfl, ?_⟩); (try refine ⟨rfl, ?_⟩)
  first | (intro acts; rw [hret _ acts rfl rfl rfl]) | rw [hret _ _ rfl rfl rfl]
  exact Steps.refl _
def lw_At (p : Program) (s : State) (m : MethodId) (meth : Method) (c : Code) (b L : Nat) (xs : Nat → Int32) : Prop :=
  p.tables.exec = Jvm.exec ∧ c.code = code ∧ meth.sig.returnType = ret ∧ c.maxLocals = 7 ∧ s.vm.findClass R_law = some m.cls ∧ (∀ w ∈ lw_tbl, w.before #[Value.ref b] s = true) ∧ va_X b L xs s s.heap ∧ b < s.heap.size ∧ meth.locks = false ∧ (Jvm.Cond.and given_1 narrow_1).before #[Value.ref b] s = true ∧ c.exceptionTable.toList = []
/-- the end that the law's walk comes to -/
def FLw (E : EnT) : List Frame → Array Value → State → State → Prop := fun below args s t => s.heap.size = eS E → lw_Z below args s t
theorem lw_fin991 {l : Launch} {E : EnT} : ∀ (cu su : Nat) (N : Mem) (x : Int32) (v5 v6 : Option Value), cu ≤ 601024 → su ≤ 7293034 → Zz (zl l E (FLw E)) cu su 991 [some (.ref 2000), some (.ref 0), some (.ref 99), some (.ref 119), some (.int x), v5, v6] [] N := by
  intro cu su N x v5 v6 hc hs
  refine z_iconst (v := 1) dL_law_991 rfl rfl ?_
  intro p e s m args below meth c H locs lsA C
  obtain ⟨⟨hx, hb, hr, hml, hown, hts, hlk, htb, hls⟩, ⟨hK, hSt, hsz⟩, ⟨hP, hD, hS⟩, hl⟩ := id C
  intro T hT X
  by_cases hq : s.heap.size = eS E
  · obtain ⟨t, a, b⟩ := W.widen hc hs (va_forget (fun q h9 => by rw [hq]; exact hS.2.2 q h9) (lw_ret (R := rmz 2048 601024 7293034) (ls := lsA) (H := H) (pc := 992) (args := args) (l := l) (e := e) (s := s) (m := m) (below := below) hx hb hr hlk dL_law_992)) T hT X
    exact ⟨t, a, fun _ => b⟩
  · exact ⟨_, Steps.refl _, fun h => absurd h hq⟩
set_option maxRecDepth 100000 in
set_option maxHeartbeats 4000000 in
theorem lw_walk0 {l : Launch} {E : EnT} (hst : l.stackTraces = false) (hE : ∀ k, k < 120 → eAd E k = eS E + rk k) (hV : hVw E) (hL : eL E ≤ 3072) : Gz (zl l E (FLw E)) 0 0 0 [some (.ref 2000), none, none, none, none, none, none] [] (0, V0) := by
  refine g_new (ci := 6) tyX6 dL_law_0 rfl (by decide) inwX6 tyX6_ok dvX6 kl_L_8 iw_X6 in_X6 (show gk 0 = (6, 7) by decide) (show 0 < 120 by decide) (Nat.le_of_ble_eq_true rfl) (Nat.le_of_ble_eq_true rfl) rfl ?_
  refine g_dup dL_law_3 rfl rfl ?_
  refine g_call (y := mX6_init) (d := 3) (kc := 98) (ks := 1315) dL_law_4 (Or.inl ml_L_44) ins_X6 (Nat.le_of_ble_eq_true rfl) (Nat.le_of_ble_eq_true rfl) (Nat.le_of_ble_eq_true rfl) (Nat.le_of_ble_eq_true rfl) c_iX6 rfl ?_
  refine g_astore_n dL_law_7 (Nat.le_of_ble_eq_true rfl) rfl rfl ?_
  refine g_new (ci := 7) tyX7 dL_law_8 rfl (by decide) inwX7 tyX7_ok dvX7 kl_L_45 iw_X7 in_X7 (show gk 99 = (7, 32) by decide) (show 99 < 120 by decide) (Nat.le_of_ble_eq_true rfl) (Nat.le_of_ble_eq_true rfl) rfl ?_
  refine g_dup dL_law_11 rfl rfl ?_
  refine g_call (y := mX7_init) (d := 1) (kc := 19) (ks := 1131) dL_law_12 (Or.inl ml_L_47) ins_X7 (Nat.le_of_ble_eq_true rfl) (Nat.le_of_ble_eq_true rfl) (Nat.le_of_ble_eq_true rfl) (Nat.le_of_ble_eq_true rfl) c_iX7 rfl ?_
  refine g_astore_n dL_law_15 (Nat.le_of_ble_eq_true rfl) rfl rfl ?_
  refine g_iconst (v := Int32.ofInt (1)) dL_law_16 (by decide) rfl ?_
  refine g_nl (N := 1) dL_law_17 (show gk 119 = (15, 1) by decide) (by decide) (by decide) (by decide) (show 119 < 120 by decide) (Nat.le_of_ble_eq_true rfl) (Nat.le_of_ble_eq_true rfl) rfl ?_
  refine g_astore_n dL_law_19 (Nat.le_of_ble_eq_true rfl) rfl rfl ?_
  refine g_iconst (v := Int32.ofInt (0)) dL_law_20 (by decide) rfl ?_
  refine g_istore dL_law_21 (Nat.le_of_ble_eq_true rfl) rfl rfl ?_
  intro p e s m args below meth c H locs lsA C
  obtain ⟨⟨hx, hb, hr, hml, hown, hts, hlk, htb, hls⟩, ⟨hK, hG, hsz⟩, ⟨hP, hz, hS⟩, hl⟩ := id C
  obtain ⟨x1, x2, x3⟩ := hls (show ¬ "law" = "<init>" by decide)
  obtain ⟨hP1, hD1⟩ := wl_of_gw (E := E) (H := H) hE hP
  have g1 : gad E 2000 = eAd E 2000 := if_neg (by decide)
  have g2 : gad E 0 = eAd E 0 := by rw [gad_lt (by decide), hE 0 (by decide)]; rfl
  have g3 : gad E 99 = eAd E 99 := by rw [gad_lt (by decide), hE 99 (by decide)]; rfl
  have g4 : gad E 119 = eAd E 119 := by rw [gad_lt (by decide), hE 119 (by decide)]; rfl
  have hl2 : lv_has lsA 7 (lvo (eAd E) 0 [some (.ref 2000), some (.ref 0), some (.ref 99), some (.ref 119), some (.int (nI 0)), none, none]) := by
    have h9 : lv_has lsA 7 [(0, Value.ref (gad E 2000)), (1, Value.ref (gad E 0)), (2, Value.ref (gad E 99)), (3, Value.ref (gad E 119)), (4, Value.int (Int32.ofInt 0))] := hl
    rw [g1, g2, g3, g4] at h9
    exact h9
  exact lw_loop hst hV hL lw_fin991 512 0 120 2486 M0 none none (by omega) (by decide) (by decide) (by decide) Inv0 p e s m args below meth c H locs lsA ⟨⟨hx, hb, hr, hml, hown, hts, hlk, x1, hst⟩, ⟨hK, x2, hsz⟩, ⟨hP1, hD1, hS⟩, hl2⟩
/-- from the entry, for every script of at most 3072 ints, the law comes to its end with true -/
theorem whole_start {p : Program} {e : Env} {s : State} {m : MethodId} {below : List Frame} {meth : Method} {c : Code} (l : Launch) (hst : l.stackTraces = false) {b L : Nat} {xs : Nat → Int32} (hL : L ≤ 3072) (C0 : lw_At p s m meth c b L xs) : W p l e room_1 s m #[Value.ref b] below meth c s.heap [] 0 0 (lw_Z below #[Value.ref b] s) (entryFrame m ([Value.ref b] : List Value).toArray 7) := by
  obtain ⟨hx, hb, hr, hml, hown, hts, hX, hbl, hlk, hg, htb⟩ := C0
  obtain ⟨E, e1, e2, e3, e4, hV, hK, hSt, hGN⟩ := lw_start hts hX hbl hg
  have hl := lv_entry ([.ref b] : List Value) (n := 7) (Nat.le_of_ble_eq_true rfl)
  rw [lg_entry_eq]
  intro T hT X
  have X2 : Stand p l e (rmz 2048 601024 7293034) s m #[Value.ref b] below meth c T [] 0 0 := { X with room := Jvm.Free.hasRoom_mono (by decide) (by decide) (by decide) (by decide) X.room }
  have g1 : gad E 2000 = b := (if_neg (by decide)).trans e3
  obtain ⟨t, a, h⟩ := lw_walk0 (l := l) hst e2 hV (by rw [e4]; exact hL) p e s m #[Value.ref b] below meth c s.heap [] _ ⟨⟨hx, hb, hr, hml, hown, fun w hw => hts w (W0_tbl hw), hlk, fun q => absurd q (show ¬ "law" = "<init>" by decide), fun _ => ⟨htb, hSt, e1.symm⟩⟩, ⟨hK, hGN, by rw [e1]; exact Nat.le_refl _⟩, ⟨fun k q hk => (nomatch hk), ⟨by rw [e1]; rfl, (by decide), fun _ _ => rfl⟩, va_S.rf⟩, by
    show lv_has _ 7 [(0, Value.ref (gad E 2000))]
    rw [g1]
    exact hl⟩ T hT X2
  exact ⟨t, a, h e1.symm⟩
set_option maxHeartbeats 4000000 in
theorem lw_walk (l : Launch) (hst : l.stackTraces = false) (b : Addr) (xs : List Int32) : MetFree l x (headSpec (Jvm.Cond.code x code maxLocals ret :: tables_1) room_1) (lw_P b xs) (fun _ _ _ _ _ => True) lw_Q := by
  refine MetFree.of_bodyS (code := code) (maxLocals := maxLocals) (ret := ret) (by decide) ?_ ?_
  · intro args s m h hn
    obtain ⟨meth, c, h1, h2, h3, h4, h5, h6, -, -⟩ := Cond.code_spec hn (atoms_spec (ws := Jvm.Cond.code x code maxLocals ret :: tables_1) h _ List.mem_cons_self)
    exact ⟨meth, c, h1, h2, h3, h4, h5, h6⟩
  · intro p e s m args below meth c s₁ B hml0 hP _
    obtain ⟨rfl, hx, hbd, hgv⟩ := hP
    obtain ⟨scr, harrAt, hlist, hof, hsmall⟩ := hx
    obtain ⟨hcb, hkn, -, -⟩ := State.arrayAt?_spec harrAt
    have hown : s.vm.findClass R_law = some m.cls := findClass_of_methodNamed B.named
    have hts0 : ∀ c ∈ (Jvm.Cond.code x code maxLocals ret :: tables_1), c.before #[Value.ref b] s = true := atoms_spec (ws := Jvm.Cond.code x code maxLocals ret :: tables_1) B.pre
    have hts : ∀ w ∈ lw_tbl, w.before #[Value.ref b] s = true := k2_hts_sels lw_privs (fun w hw => hts0 w (List.mem_cons_of_mem _ hw)) lw_privs_ok
    have hml : c.maxLocals = 7 := B.maxLocals_eq (hts0 _ List.mem_cons_self)
    have X₀ : Stand p l e room_1 s m #[Value.ref b] below meth c s₁ [] 0 0 := Stand.of_body B
    have hh0 : s₁.heap = s.heap := by rw [B.state]; rfl
    have hsz : scr.slots.size = xs.length := by rw [← Array.length_toList, hlist, List.length_map]
    have hval : ∀ j : Nat, j < xs.length → scr.slots[j]? = some (.int (xs.getD j 0)) := fun j hj => by
      rw [← Array.getElem?_toList, hlist]
      simp [hj]
    have hbl : b < s.heap.size := (Array.getElem?_eq_some_iff.mp hcb).1
    have hX : va_X b xs.length (fun j => xs.getD j 0) s s.heap := ⟨scr, hcb, hof, hkn, hsz, hval⟩
    have htb : c.exceptionTable.toList = [] := by
      obtain ⟨meth9, c9, h1, h2, -, -, -, -, h7, -⟩ := Cond.code_spec B.named (hts0 _ List.mem_cons_self)
      cases Option.some.inj (h1.symm.trans B.method)
      cases Option.some.inj (h2.symm.trans (Stand.of_body B).code)
      rw [Array.isEmpty_iff.mp h7]
    have K : W p l e room_1 s m #[Value.ref b] below meth c s₁.heap [] 0 0 (lw_Z below #[Value.ref b] s) (entryFrame m ([Value.ref b] : List Value).toArray 7) := by
      rw [hh0]
      exact whole_start l hst hbd ⟨B.exec, B.bytes, B.returns, hml, hown, hts, hX, hbl, B.notSynchronized, hgv, htb⟩
    obtain ⟨t, a1, o, b1, b2, b3⟩ := K s₁ rfl X₀
    exact ⟨t, o, a1, b1, b2, b3⟩
theorem lw_pre_spec {args : Array Value} {s : State} (h : (Jvm.Cond.and given_1 narrow_1).before args s = true) (hr : rest_1_c.before args s = true) : ∃ (b : Addr) (xs : List Int32), lw_P b xs args s := by
  have hs := flat_of_before _ h
  have hq := flat_of_before _ hr
  have hc : (Cond.count 1).before args s = true := hs _ (by decide +kernel)
  have harr : (Cond.arrayOf (.arg 0) .int).before args s = true := hs _ (by decide +kernel)
  have hle : (Cond.le (.length (.arg 0)) (.int 3072)).before args s = true := hs _ (by decide +kernel)
  have hlen : (Cond.isInt (.length (.arg 0))).before args s = true := hq _ (by decide +kernel)
  have hall : (Cond.all (.arg 0) (.isInt (.elem (.arg 0) (.index 0)))).before args s = true := hq _ (by decide +kernel)
  obtain ⟨b, xs, hb, hx⟩ := State.ints_of_pre rfl harr hlen hall
  have hsm : xs.length < 2 ^ 31 := hx.choose_spec.2.2.2
  have hev : (Term.length (.arg 0)).eval args s none [] s = some (.int xs.length.toInt32) := hx.length_eval hb
  have hv := Cond.le_ints hev (show (Term.int 3072).eval args s none [] s = some (.int 3072) from rfl)
  have hd : xs.length.toInt32 ≤ 3072 := by
    simpa [Cond.before, Cond.holds, hv] using hle
  have hN : xs.length ≤ 3072 := (Int32.ofNat_le_ofNat hsm (by decide)).mp (show Int32.ofNat xs.length ≤ Int32.ofNat 3072 from hd)
  exact ⟨b, xs, Cond.one_arg hc (show args[0]? = some (.ref b) from hb), hx, hN, h⟩
theorem lw_comes (l : Launch) (hst : l.stackTraces = false) : Comes l x (Jvm.Cond.code x code maxLocals ret :: tables_1) room_1 (fun tb e args s => Calls_1 tb e args s ∧ rest_1 tb e args s ∧ Pre_1 tb e args s)
    (fun _ _ args s o t => lw_Q args s o t) := by
  intro p e ha hc hk s m args below hf hfit hheap happ hpre
  obtain ⟨b, xs, hP⟩ := lw_pre_spec hpre.2.2 hpre.2.1
  obtain ⟨k, o, h1, h2, h3, hQ⟩ := lw_walk l hst b xs p e ha hc hk s m args below hf ((Spec.applies_iff_loose hf).mp happ).1 hP trivial
  exact ⟨k, o, h1, h2, h3, hQ⟩
theorem lw_frame {s t : State} {o : Outcome} {args : Array Value} (h : Framed s o t [] 601024 7293034) :
    Framed s o t (fieldLocs frame_1_writes args s ++ arrayLocs frame_1_arrays args s ++ staticLocs frame_1_statics s) 601024 7293034 := h
theorem lw_limb (L : Cond) (hL : ∀ (args : Array Value) (s t : State), L.after args s (.returned (some (.int 1))) t = true) :
    ArmFor flags0 classFile x code maxLocals ret World_1 tables_1 room_1 Calls_1 rest_1 Pre_1
      (fun tb e a s o t => postC L tb e a s o t ∧ Framed s o t (fieldLocs frame_1_writes a s ++ arrayLocs frame_1_arrays a s ++ staticLocs frame_1_statics s) 601024 7293034) := by
  intro l hfl _ _ p e ha hc hk s m args below hf hfit hheap happ hpre
  obtain ⟨k, o, h1, h2, h3, rfl, hF⟩ := lw_comes l (by unfold Launch.stackTraces; rw [hfl]; decide) p e ha hc hk s m args below hf hfit hheap happ hpre
  exact ⟨k, _, h1, h2, h3, hL args s _, lw_frame hF⟩
theorem i_vc : Claimed_1_1 ∧ Claimed_1_2 := ⟨lw_limb limb_1_1 (fun args s t => by simp [limb_1_1, Cond.after, Cond.holds, Cond.value]), lw_limb limb_1_2 (fun args s t => Cond.after_iff.mpr (by
  first | (rw [show limb_1_2 = Cond.eq .result (.int 1) from rfl, Cond.eq_ints (x := 1) (y := 1) rfl rfl]; simp; done) | (simp [limb_1_2, Cond.value, Term.eval]; done)))⟩
