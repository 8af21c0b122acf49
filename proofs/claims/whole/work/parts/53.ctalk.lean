set_option maxHeartbeats 4000000 in
set_option maxRecDepth 100000 in
theorem c_tk_havesSent (l : Launch) (D : va_G) (cI cJ cZ cN : ClassId) (ta : Nat → Nat) (tk : TS)  (res : Int32) (hf : res = tk_havesSent tk) : yy_Met l yX3_havesSent wsX3_havesSent { frames := 0, cells := 0, slots := 0, locals := 0 } D vwCl (yT cI cJ cZ cN) [.ref (ta 0)] (tkW ta tk) (some (.int res)) (tkW ta tk) := by
  intro sz
  refine Met.ofW (cc := cX3_havesSent) (maxL := 1) (ret := (some .int)) (by decide) rfl ?_
  intro p e s m args below meth c s₁ B hml hv
  obtain ⟨rfl, hsz, hP, hK, hD0, hN⟩ := hv
  have hx := B.exec
  have hb := B.bytes
  have hr := B.returns
  have hts := atoms_spec (ws := wsX3_havesSent) B.pre
  have hw : ∀ w ∈ yW, w.before _ s = true := fun w h => hts w (List.mem_cons_of_mem _ h)
  have hown : s.vm.findClass RX3 = some m.cls := findClass_of_methodNamed B.named
  have hlocks := B.notSynchronized
  subst hsz
  have hD := hD0.self (sz := s.heap.size)
  generalize hAe : va_A (tkW ta tk) s.heap.size = A at hD ⊢
  have hA : ∀ q : Nat, s.heap.size ≤ q → A q := fun q h => by rw [← hAe]; exact Or.inr h
  have hS : va_S A s.heap s.heap [] := va_S.rf
  have hl := lv_entry ([.ref (ta 0)]) (n := 1) (Nat.le_of_ble_eq_true rfl)
  rw [lg_entry_eq]
  generalize (lg_sl ([.ref (ta 0)]) ++ List.replicate (1 - (lg_sl ([.ref (ta 0)])).length) Slot.unset).toArray = ls at hl ⊢
  have hl : lv_has ls 1 [(0, .ref (ta 0))] := hl
  rw [tk_havesSent] at hf
  refine lv_aload_n hx hb dX3_havesSent_0 rfl (lv_at hl 0 rfl) ?_
  refine va_get (D := D) (ci := 3) (v := .int tk.1) (C := RX3) (T := TX3) (N := 3) hx hb hts (yy_tl inX3) hown hK hP 0 rfl rfl 0 (by decide) (hw _ wq_111) (fun _ h9 => h9) rfl dX3_havesSent_1 ?_
  subst hf
  exact yy_iret (v := tk.1) hx hb hr hP hK hS hlocks dX3_havesSent_4

set_option maxHeartbeats 4000000 in
set_option maxRecDepth 100000 in
theorem c_tk_havesAcknowledged (l : Launch) (D : va_G) (cI cJ cZ cN : ClassId) (ta : Nat → Nat) (tk : TS)  (res : Int32) (hf : res = tk_havesAcknowledged tk) : yy_Met l yX3_havesAcknowledged wsX3_havesAcknowledged { frames := 0, cells := 0, slots := 0, locals := 0 } D vwCl (yT cI cJ cZ cN) [.ref (ta 0)] (tkW ta tk) (some (.int res)) (tkW ta tk) := by
  intro sz
  refine Met.ofW (cc := cX3_havesAcknowledged) (maxL := 1) (ret := (some .int)) (by decide) rfl ?_
  intro p e s m args below meth c s₁ B hml hv
  obtain ⟨rfl, hsz, hP, hK, hD0, hN⟩ := hv
  have hx := B.exec
  have hb := B.bytes
  have hr := B.returns
  have hts := atoms_spec (ws := wsX3_havesAcknowledged) B.pre
  have hw : ∀ w ∈ yW, w.before _ s = true := fun w h => hts w (List.mem_cons_of_mem _ h)
  have hown : s.vm.findClass RX3 = some m.cls := findClass_of_methodNamed B.named
  have hlocks := B.notSynchronized
  subst hsz
  have hD := hD0.self (sz := s.heap.size)
  generalize hAe : va_A (tkW ta tk) s.heap.size = A at hD ⊢
  have hA : ∀ q : Nat, s.heap.size ≤ q → A q := fun q h => by rw [← hAe]; exact Or.inr h
  have hS : va_S A s.heap s.heap [] := va_S.rf
  have hl := lv_entry ([.ref (ta 0)]) (n := 1) (Nat.le_of_ble_eq_true rfl)
  rw [lg_entry_eq]
  generalize (lg_sl ([.ref (ta 0)]) ++ List.replicate (1 - (lg_sl ([.ref (ta 0)])).length) Slot.unset).toArray = ls at hl ⊢
  have hl : lv_has ls 1 [(0, .ref (ta 0))] := hl
  rw [tk_havesAcknowledged] at hf
  refine lv_aload_n hx hb dX3_havesAcknowledged_0 rfl (lv_at hl 0 rfl) ?_
  refine va_get (D := D) (ci := 3) (v := .int tk.2.1) (C := RX3) (T := TX3) (N := 3) hx hb hts (yy_tl inX3) hown hK hP 0 rfl rfl 1 (by decide) (hw _ wq_112) (fun _ h9 => h9) rfl dX3_havesAcknowledged_1 ?_
  subst hf
  exact yy_iret (v := tk.2.1) hx hb hr hP hK hS hlocks dX3_havesAcknowledged_4

set_option maxHeartbeats 4000000 in
set_option maxRecDepth 100000 in
theorem c_tk_roundsHeld (l : Launch) (D : va_G) (cI cJ cZ cN : ClassId) (ta : Nat → Nat) (tk : TS)  (res : Int32) (hf : res = tk_roundsHeld tk) : yy_Met l yX3_roundsHeld wsX3_roundsHeld { frames := 0, cells := 0, slots := 0, locals := 0 } D vwCl (yT cI cJ cZ cN) [.ref (ta 0)] (tkW ta tk) (some (.int res)) (tkW ta tk) := by
  intro sz
  refine Met.ofW (cc := cX3_roundsHeld) (maxL := 1) (ret := (some .int)) (by decide) rfl ?_
  intro p e s m args below meth c s₁ B hml hv
  obtain ⟨rfl, hsz, hP, hK, hD0, hN⟩ := hv
  have hx := B.exec
  have hb := B.bytes
  have hr := B.returns
  have hts := atoms_spec (ws := wsX3_roundsHeld) B.pre
  have hw : ∀ w ∈ yW, w.before _ s = true := fun w h => hts w (List.mem_cons_of_mem _ h)
  have hown : s.vm.findClass RX3 = some m.cls := findClass_of_methodNamed B.named
  have hlocks := B.notSynchronized
  subst hsz
  have hD := hD0.self (sz := s.heap.size)
  generalize hAe : va_A (tkW ta tk) s.heap.size = A at hD ⊢
  have hA : ∀ q : Nat, s.heap.size ≤ q → A q := fun q h => by rw [← hAe]; exact Or.inr h
  have hS : va_S A s.heap s.heap [] := va_S.rf
  have hl := lv_entry ([.ref (ta 0)]) (n := 1) (Nat.le_of_ble_eq_true rfl)
  rw [lg_entry_eq]
  generalize (lg_sl ([.ref (ta 0)]) ++ List.replicate (1 - (lg_sl ([.ref (ta 0)])).length) Slot.unset).toArray = ls at hl ⊢
  have hl : lv_has ls 1 [(0, .ref (ta 0))] := hl
  rw [tk_roundsHeld] at hf
  refine lv_aload_n hx hb dX3_roundsHeld_0 rfl (lv_at hl 0 rfl) ?_
  refine va_get (D := D) (ci := 3) (v := .int tk.2.2) (C := RX3) (T := TX3) (N := 3) hx hb hts (yy_tl inX3) hown hK hP 0 rfl rfl 2 (by decide) (hw _ wq_113) (fun _ h9 => h9) rfl dX3_roundsHeld_1 ?_
  subst hf
  exact yy_iret (v := tk.2.2) hx hb hr hP hK hS hlocks dX3_roundsHeld_4

set_option maxHeartbeats 4000000 in
set_option maxRecDepth 100000 in
theorem c_tk_run (l : Launch) (D : va_G) (cI cJ cZ cN : ClassId) (ta : Nat → Nat) (sa : Nat → Nat) (wants : Int64) (cands : Int64) (hbs : Int64) (tk : TS) (so : SS) (hs : so.2.2.2.2.2 ≤ 60) (res : Int64 × TS) (hf : res = tk_run wants cands hbs tk so) : yy_Met l yX3_run wsX3_run { frames := 2, cells := 0, slots := 0, locals := 47 } D vwCl (yT cI cJ cZ cN) [.ref (ta 0), .ref (sa 0), .long wants, .long cands, .long hbs] (tkW ta tk ++ stW cI cJ sa so) (some (.long res.1)) (tkW ta res.2 ++ stW cI cJ sa so) := by
  intro sz
  refine Met.ofW (cc := cX3_run) (maxL := 14) (ret := (some .long)) (by decide) rfl ?_
  intro p e s m args below meth c s₁ B hml hv
  obtain ⟨rfl, hsz, hP, hK, hD0, hN⟩ := hv
  have hx := B.exec
  have hb := B.bytes
  have hr := B.returns
  have hts := atoms_spec (ws := wsX3_run) B.pre
  have hw : ∀ w ∈ yW, w.before _ s = true := fun w h => hts w (List.mem_cons_of_mem _ h)
  have hown : s.vm.findClass RX3 = some m.cls := findClass_of_methodNamed B.named
  have hlocks := B.notSynchronized
  subst hsz
  have hD := hD0.self (sz := s.heap.size)
  generalize hAe : va_A (tkW ta tk ++ stW cI cJ sa so) s.heap.size = A at hD ⊢
  have hA : ∀ q : Nat, s.heap.size ≤ q → A q := fun q h => by rw [← hAe]; exact Or.inr h
  have hS : va_S A s.heap s.heap [] := va_S.rf
  have hl := lv_entry ([.ref (ta 0), .ref (sa 0), .long wants, .long cands, .long hbs]) (n := 14) (Nat.le_of_ble_eq_true rfl)
  rw [lg_entry_eq]
  generalize (lg_sl ([.ref (ta 0), .ref (sa 0), .long wants, .long cands, .long hbs]) ++ List.replicate (14 - (lg_sl ([.ref (ta 0), .ref (sa 0), .long wants, .long cands, .long hbs])).length) Slot.unset).toArray = ls at hl ⊢
  have hl : lv_has ls 14 [(0, .ref (ta 0)), (1, .ref (sa 0)), (2, .long wants), (4, .long cands), (6, .long hbs)] := hl
  have hL17 : ∀ (k : Nat) (i : Nat) (known : Int64) (left : Int64) (sent : Int32) (ackd : Int32) (ls : Array Slot) (H : Heap) (locs : List Loc), i + k = 60 → res = tk_run_L17 wants hbs so k i known left sent ackd → lv_has ls 14 [(0, .ref (ta 0)), (1, .ref (sa 0)), (2, .long wants), (4, .long cands), (6, .long hbs), (8, .long known), (10, .long left)] → va_P D vwCl (tkW ta (sent, ackd, (nI i)) ++ stW cI cJ sa so) H → va_D A (tkW ta (sent, ackd, (nI i)) ++ stW cI cJ sa so) → va_S A s.heap H locs → W p l e (headSpec wsX3_run { frames := 2, cells := 0, slots := 0, locals := 47 }).room s m ([.ref (ta 0), .ref (sa 0), .long wants, .long cands, .long hbs] : List Value).toArray below meth c H locs 0 0 (MQ below (yy_Q A D vwCl (yT cI cJ cZ cN) (tkW ta res.2 ++ stW cI cJ sa so) (some (.long res.1))) ([.ref (ta 0), .ref (sa 0), .long wants, .long cands, .long hbs] : List Value).toArray s 0 0 A) (F0 m 17 ls []) := by
    intro k
    induction k with
    | zero =>
      intro i known left sent ackd ls H locs hi hf hl hP hD hS
      rw [tk_run_L17] at hf
      refine lv_aload_n hx hb dX3_run_17 rfl (lv_at hl 0 rfl) ?_
      refine va_get (D := D) (ci := 3) (v := .int (nI i)) (C := RX3) (T := TX3) (N := 3) hx hb hts (yy_tl inX3) hown hK hP 0 rfl rfl 2 (by decide) (hw _ wq_113) (fun _ h9 => h9) rfl dX3_run_18 ?_
      refine lv_bipush (v := (nI 60)) hx hb dX3_run_21 (by decide) ?_
      refine lv_icmp_ge (tgt := 105) hx hb dX3_run_23 (by decide) (fun _ => ?_) (fun h => absurd (nI_le (by omega) (by omega)) h)
      refine lv_aload_n hx hb dX3_run_105 rfl (lv_at hl 0 rfl) ?_
      refine lv_lload hx hb dX3_run_106 (lv_at hl 5 rfl) ?_
      obtain ⟨r1, er1⟩ : ∃ r, r = jl_bitCount known := ⟨_, rfl⟩
      have hf := yb_e er1 hf
      refine yz_callS (As := [.long known]) (rest := [.ref (ta 0)]) ⟨hx, hb, hml, hown, hts⟩ (c_jl_bitCount l D cI cJ cZ cN known  r1 er1) ⟨callB_of 1 hts (yy_good wq_313) rfl rfl rfl (hw _ wq_40) (hw _ wq_311) (by decide +kernel) ⟨Nat.le_of_ble_eq_true rfl, Nat.le_of_ble_eq_true rfl⟩, hw _ wq_312⟩ hK hN hP hD hS hA [] rfl (by decide) rfl 0 rfl (w2 := (tkW ta (sent, ackd, (nI i)) ++ stW cI cJ sa so)) rfl rfl hl.1 rfl (Nat.le_of_ble_eq_true rfl) dX3_run_108 ⟨Nat.zero_le _, Nat.zero_le _⟩ (fun H locs hP hD hS => ?_)
      refine W.eq (g2 := F0 m 111 ls [.int r1, .ref (ta 0)]) rfl ?_
      refine va_put (D := D) (ci := 3) (v := .int r1) (ty := .int) (C := RX3) (T := TX3) (N := 3) hx hb hts (yy_tl inX3) tyX3 tyX3_ok nX3 hown hK hP hD hS 0 rfl rfl 1 (by decide) (hw _ wq_112) (fun _ h9 => h9) rfl (by decide +kernel) rfl rfl (Nat.le_of_ble_eq_true rfl) dX3_run_111 (fun H locs hP hD hS => ?_)
      have hP : va_P D vwCl (tkW ta (sent, r1, (nI i)) ++ stW cI cJ sa so) H := hP
      have hD : va_D A (tkW ta (sent, r1, (nI i)) ++ stW cI cJ sa so) := hD
      refine lv_lload hx hb dX3_run_114 (lv_at hl 5 rfl) ?_
      subst hf
      exact yy_lret (v := known) hx hb hr hP hK hS hlocks dX3_run_116
    | succ k ih =>
      intro i known left sent ackd ls H locs hi hf hl hP hD hS
      rw [tk_run_L17] at hf
      refine lv_aload_n hx hb dX3_run_17 rfl (lv_at hl 0 rfl) ?_
      refine va_get (D := D) (ci := 3) (v := .int (nI i)) (C := RX3) (T := TX3) (N := 3) hx hb hts (yy_tl inX3) hown hK hP 0 rfl rfl 2 (by decide) (hw _ wq_113) (fun _ h9 => h9) rfl dX3_run_18 ?_
      refine lv_bipush (v := (nI 60)) hx hb dX3_run_21 (by decide) ?_
      refine lv_icmp_ge (tgt := 105) hx hb dX3_run_23 (by decide) (fun h => absurd h (nI_ge (by omega) (by omega))) (fun _ => ?_)
      refine lv_lload hx hb dX3_run_26 (lv_at hl 6 rfl) ?_
      refine lv_lconst (v := 0) hx hb dX3_run_28 (by decide) ?_
      refine W.lcmp hx hb dX3_run_29 ?_
      refine lv_if_eq (tgt := 105) hx hb dX3_run_30 (by decide) (fun h2 => ?_) (fun h2 => ?_)
      · have h2 := yy_cmp0 h2
        have hf := yt h2 hf
        refine lv_aload_n hx hb dX3_run_105 rfl (lv_at hl 0 rfl) ?_
        refine lv_lload hx hb dX3_run_106 (lv_at hl 5 rfl) ?_
        obtain ⟨r3, er3⟩ : ∃ r, r = jl_bitCount known := ⟨_, rfl⟩
        have hf := yb_e er3 hf
        refine yz_callS (As := [.long known]) (rest := [.ref (ta 0)]) ⟨hx, hb, hml, hown, hts⟩ (c_jl_bitCount l D cI cJ cZ cN known  r3 er3) ⟨callB_of 1 hts (yy_good wq_313) rfl rfl rfl (hw _ wq_40) (hw _ wq_311) (by decide +kernel) ⟨Nat.le_of_ble_eq_true rfl, Nat.le_of_ble_eq_true rfl⟩, hw _ wq_312⟩ hK hN hP hD hS hA [] rfl (by decide) rfl 0 rfl (w2 := (tkW ta (sent, ackd, (nI i)) ++ stW cI cJ sa so)) rfl rfl hl.1 rfl (Nat.le_of_ble_eq_true rfl) dX3_run_108 ⟨Nat.zero_le _, Nat.zero_le _⟩ (fun H locs hP hD hS => ?_)
        refine W.eq (g2 := F0 m 111 ls [.int r3, .ref (ta 0)]) rfl ?_
        refine va_put (D := D) (ci := 3) (v := .int r3) (ty := .int) (C := RX3) (T := TX3) (N := 3) hx hb hts (yy_tl inX3) tyX3 tyX3_ok nX3 hown hK hP hD hS 0 rfl rfl 1 (by decide) (hw _ wq_112) (fun _ h9 => h9) rfl (by decide +kernel) rfl rfl (Nat.le_of_ble_eq_true rfl) dX3_run_111 (fun H locs hP hD hS => ?_)
        have hP : va_P D vwCl (tkW ta (sent, r3, (nI i)) ++ stW cI cJ sa so) H := hP
        have hD : va_D A (tkW ta (sent, r3, (nI i)) ++ stW cI cJ sa so) := hD
        refine lv_lload hx hb dX3_run_114 (lv_at hl 5 rfl) ?_
        subst hf
        exact yy_lret (v := known) hx hb hr hP hK hS hlocks dX3_run_116
      · have h2 := yy_cmp1 h2
        have hf := yf h2 hf
        refine lv_aload_n hx hb dX3_run_33 rfl (lv_at hl 1 rfl) ?_
        refine lv_lload_n hx hb dX3_run_34 rfl (lv_at hl 2 rfl) ?_
        refine lv_lload hx hb dX3_run_35 (lv_at hl 5 rfl) ?_
        obtain ⟨r4, er4⟩ : ∃ r, r = st_eachReachesOne wants known so := ⟨_, rfl⟩
        have hf := yb_e er4 hf
        refine yz_callV (As := [.long wants, .long known]) (rest := []) ⟨hx, hb, hml, hown, hts⟩ (c_st_eachReachesOne l D cI cJ cZ cN sa wants known so (by (try dsimp only) <;> omega) r4 er4) ⟨callB_of 2 hts (yy_good wq_306) rfl rfl rfl (hw _ wq_35) (hw _ wq_303) (by decide +kernel) ⟨Nat.le_of_ble_eq_true rfl, Nat.le_of_ble_eq_true rfl⟩, hw _ wq_304, hw _ wq_305⟩ hK hN hP hD hS hA [1, 2, 3, 4, 5, 6] rfl (by decide) rfl 7 rfl (w2 := (tkW ta (sent, ackd, (nI i)) ++ stW cI cJ sa so)) rfl 1 rfl rfl rfl hl.1 rfl (Nat.le_of_ble_eq_true rfl) dX3_run_37 ⟨Nat.zero_le _, Nat.zero_le _⟩ (fun H locs hP hD hS => ?_)
        refine W.eq (g2 := F0 m 40 ls [.int (yB r4)]) rfl ?_
        refine lv_if_ne (tgt := 105) hx hb dX3_run_40 (by decide) (fun h5 => ?_) (fun h5 => ?_)
        · have h5 := yB_1 h5
          have hf := yBt h5 hf
          refine lv_aload_n hx hb dX3_run_105 rfl (lv_at hl 0 rfl) ?_
          refine lv_lload hx hb dX3_run_106 (lv_at hl 5 rfl) ?_
          obtain ⟨r6, er6⟩ : ∃ r, r = jl_bitCount known := ⟨_, rfl⟩
          have hf := yb_e er6 hf
          refine yz_callS (As := [.long known]) (rest := [.ref (ta 0)]) ⟨hx, hb, hml, hown, hts⟩ (c_jl_bitCount l D cI cJ cZ cN known  r6 er6) ⟨callB_of 1 hts (yy_good wq_313) rfl rfl rfl (hw _ wq_40) (hw _ wq_311) (by decide +kernel) ⟨Nat.le_of_ble_eq_true rfl, Nat.le_of_ble_eq_true rfl⟩, hw _ wq_312⟩ hK hN hP hD hS hA [] rfl (by decide) rfl 0 rfl (w2 := (tkW ta (sent, ackd, (nI i)) ++ stW cI cJ sa so)) rfl rfl hl.1 rfl (Nat.le_of_ble_eq_true rfl) dX3_run_108 ⟨Nat.zero_le _, Nat.zero_le _⟩ (fun H locs hP hD hS => ?_)
          refine W.eq (g2 := F0 m 111 ls [.int r6, .ref (ta 0)]) rfl ?_
          refine va_put (D := D) (ci := 3) (v := .int r6) (ty := .int) (C := RX3) (T := TX3) (N := 3) hx hb hts (yy_tl inX3) tyX3 tyX3_ok nX3 hown hK hP hD hS 0 rfl rfl 1 (by decide) (hw _ wq_112) (fun _ h9 => h9) rfl (by decide +kernel) rfl rfl (Nat.le_of_ble_eq_true rfl) dX3_run_111 (fun H locs hP hD hS => ?_)
          have hP : va_P D vwCl (tkW ta (sent, r6, (nI i)) ++ stW cI cJ sa so) H := hP
          have hD : va_D A (tkW ta (sent, r6, (nI i)) ++ stW cI cJ sa so) := hD
          refine lv_lload hx hb dX3_run_114 (lv_at hl 5 rfl) ?_
          subst hf
          exact yy_lret (v := known) hx hb hr hP hK hS hlocks dX3_run_116
        · have h5 := yB_0.mp h5
          have hf := yBf h5 hf
          refine lv_lload hx hb dX3_run_43 (lv_at hl 6 rfl) ?_
          obtain ⟨r7, er7⟩ : ∃ r, r = tk_highest left := ⟨_, rfl⟩
          have hf := yb_e er7 hf
          refine yz_callS (As := [.long left]) (rest := []) ⟨hx, hb, hml, hown, hts⟩ (c_tk_highest l D cI cJ cZ cN left  r7 er7) ⟨callB_of 1 hts (yy_good wq_309) rfl rfl rfl (hw _ wq_37) (hw _ wq_307) (by decide +kernel) ⟨Nat.le_of_ble_eq_true rfl, Nat.le_of_ble_eq_true rfl⟩, hw _ wq_308⟩ hK hN hP hD hS hA [] rfl (by decide) rfl 0 rfl (w2 := (tkW ta (sent, ackd, (nI i)) ++ stW cI cJ sa so)) rfl rfl hl.1 rfl (Nat.le_of_ble_eq_true rfl) dX3_run_45 ⟨Nat.zero_le _, Nat.zero_le _⟩ (fun H locs hP hD hS => ?_)
          refine W.eq (g2 := F0 m 48 ls [.long r7]) rfl ?_
          refine lv_lstore (lv' := [(12, .long r7), (0, .ref (ta 0)), (1, .ref (sa 0)), (2, .long wants), (4, .long cands), (6, .long hbs), (8, .long known), (10, .long left)]) hx hb dX3_run_48 hl (by decide) rfl (fun ls hl => ?_)
          refine lv_aload_n hx hb dX3_run_50 rfl (lv_at hl 1 rfl) ?_
          refine lv_dup hx hb dX3_run_51 rfl ?_
          refine va_get (D := D) (ci := 3) (v := .int sent) (C := RX3) (T := TX3) (N := 3) hx hb hts (yy_tl inX3) hown hK hP 0 rfl rfl 0 (by decide) (hw _ wq_111) (fun _ h9 => h9) rfl dX3_run_52 ?_
          refine lv_lload hx hb dX3_run_55 (lv_at hl 0 rfl) ?_
          obtain ⟨r8, er8⟩ : ∃ r, r = jl_bitCount r7 := ⟨_, rfl⟩
          have hf := yb_e er8 hf
          refine yz_callS (As := [.long r7]) (rest := [.int sent, .ref (ta 0)]) ⟨hx, hb, hml, hown, hts⟩ (c_jl_bitCount l D cI cJ cZ cN r7  r8 er8) ⟨callB_of 1 hts (yy_good wq_313) rfl rfl rfl (hw _ wq_40) (hw _ wq_311) (by decide +kernel) ⟨Nat.le_of_ble_eq_true rfl, Nat.le_of_ble_eq_true rfl⟩, hw _ wq_312⟩ hK hN hP hD hS hA [] rfl (by decide) rfl 0 rfl (w2 := (tkW ta (sent, ackd, (nI i)) ++ stW cI cJ sa so)) rfl rfl hl.1 rfl (Nat.le_of_ble_eq_true rfl) dX3_run_57 ⟨Nat.zero_le _, Nat.zero_le _⟩ (fun H locs hP hD hS => ?_)
          refine W.eq (g2 := F0 m 60 ls [.int r8, .int sent, .ref (ta 0)]) rfl ?_
          refine lv_iadd hx hb dX3_run_60 ?_
          refine va_put (D := D) (ci := 3) (v := .int (sent + r8)) (ty := .int) (C := RX3) (T := TX3) (N := 3) hx hb hts (yy_tl inX3) tyX3 tyX3_ok nX3 hown hK hP hD hS 0 rfl rfl 0 (by decide) (hw _ wq_111) (fun _ h9 => h9) rfl (by decide +kernel) rfl rfl (Nat.le_of_ble_eq_true rfl) dX3_run_61 (fun H locs hP hD hS => ?_)
          have hP : va_P D vwCl (tkW ta ((sent + r8), ackd, (nI i)) ++ stW cI cJ sa so) H := hP
          have hD : va_D A (tkW ta ((sent + r8), ackd, (nI i)) ++ stW cI cJ sa so) := hD
          refine lv_lload hx hb dX3_run_64 (lv_at hl 6 rfl) ?_
          refine lv_lload hx hb dX3_run_66 (lv_at hl 0 rfl) ?_
          refine lv_lload hx hb dX3_run_68 (lv_at hl 5 rfl) ?_
          refine lv_land hx hb dX3_run_70 ?_
          refine lv_lor hx hb dX3_run_71 ?_
          refine lv_lstore (lv' := [(8, .long (known ||| (r7 &&& hbs))), (12, .long r7), (0, .ref (ta 0)), (1, .ref (sa 0)), (2, .long wants), (4, .long cands), (6, .long hbs), (10, .long left)]) hx hb dX3_run_72 hl (by decide) rfl (fun ls hl => ?_)
          refine lv_lload hx hb dX3_run_74 (lv_at hl 7 rfl) ?_
          refine lv_lload hx hb dX3_run_76 (lv_at hl 1 rfl) ?_
          refine lv_aload_n hx hb dX3_run_78 rfl (lv_at hl 3 rfl) ?_
          refine lv_lload hx hb dX3_run_79 (lv_at hl 0 rfl) ?_
          obtain ⟨r9, er9⟩ : ∃ r, r = st_reachOfAll (known ||| (r7 &&& hbs)) so := ⟨_, rfl⟩
          have hf := yb_e er9 hf
          refine yz_callV (As := [.long (known ||| (r7 &&& hbs))]) (rest := [.long r7, .long left]) ⟨hx, hb, hml, hown, hts⟩ (c_st_reachOfAll l D cI cJ cZ cN sa (known ||| (r7 &&& hbs)) so (by (try dsimp only) <;> omega) r9 er9) ⟨callB_of 1 hts (yy_good wq_293) rfl rfl rfl (hw _ wq_35) (hw _ wq_317) (by decide +kernel) ⟨Nat.le_of_ble_eq_true rfl, Nat.le_of_ble_eq_true rfl⟩, hw _ wq_291, hw _ wq_292⟩ hK hN hP hD hS hA [1, 2, 3, 4, 5, 6] rfl (by decide) rfl 7 rfl (w2 := (tkW ta ((sent + r8), ackd, (nI i)) ++ stW cI cJ sa so)) rfl 1 rfl rfl rfl hl.1 rfl (Nat.le_of_ble_eq_true rfl) dX3_run_81 ⟨Nat.zero_le _, Nat.zero_le _⟩ (fun H locs hP hD hS => ?_)
          refine W.eq (g2 := F0 m 84 ls [.long r9, .long r7, .long left]) rfl ?_
          refine lv_lor hx hb dX3_run_84 ?_
          refine lv_ldc2 (v := (-1)) hx hb hown (hw _ wq_318) dX3_run_85 ?_
          refine lv_lxor hx hb dX3_run_88 ?_
          refine lv_land hx hb dX3_run_89 ?_
          refine lv_lstore (lv' := [(10, .long (left &&& ((r7 ||| r9) ^^^ (-1)))), (8, .long (known ||| (r7 &&& hbs))), (12, .long r7), (0, .ref (ta 0)), (1, .ref (sa 0)), (2, .long wants), (4, .long cands), (6, .long hbs)]) hx hb dX3_run_90 hl (by decide) rfl (fun ls hl => ?_)
          refine lv_aload_n hx hb dX3_run_92 rfl (lv_at hl 3 rfl) ?_
          refine lv_dup hx hb dX3_run_93 rfl ?_
          refine va_get (D := D) (ci := 3) (v := .int (nI i)) (C := RX3) (T := TX3) (N := 3) hx hb hts (yy_tl inX3) hown hK hP 0 rfl rfl 2 (by decide) (hw _ wq_113) (fun _ h9 => h9) rfl dX3_run_94 ?_
          refine lv_iconst (v := (nI 1)) hx hb dX3_run_97 (by decide) ?_
          refine yr_iaddN hx hb dX3_run_98 ?_
          refine va_put (D := D) (ci := 3) (v := .int (nI (i + 1))) (ty := .int) (C := RX3) (T := TX3) (N := 3) hx hb hts (yy_tl inX3) tyX3 tyX3_ok nX3 hown hK hP hD hS 0 rfl rfl 2 (by decide) (hw _ wq_113) (fun _ h9 => h9) rfl (by decide +kernel) rfl rfl (Nat.le_of_ble_eq_true rfl) dX3_run_99 (fun H locs hP hD hS => ?_)
          have hP : va_P D vwCl (tkW ta ((sent + r8), ackd, (nI (i + 1))) ++ stW cI cJ sa so) H := hP
          have hD : va_D A (tkW ta ((sent + r8), ackd, (nI (i + 1))) ++ stW cI cJ sa so) := hD
          refine lv_goto (tgt := 17) hx hb dX3_run_102 (by decide) ?_
          exact ih (i + 1) (known ||| (r7 &&& hbs)) (left &&& ((r7 ||| r9) ^^^ (-1))) (sent + r8) ackd _ _ _ (by omega) hf (lv_sub hl [3, 4, 5, 6, 7, 1, 0] rfl) hP hD hS
  rw [tk_run] at hf
  refine lv_lconst (v := 0) hx hb dX3_run_0 (by decide) ?_
  refine lv_lstore (lv' := [(8, .long 0), (0, .ref (ta 0)), (1, .ref (sa 0)), (2, .long wants), (4, .long cands), (6, .long hbs)]) hx hb dX3_run_1 hl (by decide) rfl (fun ls hl => ?_)
  refine lv_lload hx hb dX3_run_3 (lv_at hl 4 rfl) ?_
  refine lv_lstore (lv' := [(10, .long cands), (8, .long 0), (0, .ref (ta 0)), (1, .ref (sa 0)), (2, .long wants), (4, .long cands), (6, .long hbs)]) hx hb dX3_run_5 hl (by decide) rfl (fun ls hl => ?_)
  refine lv_aload_n hx hb dX3_run_7 rfl (lv_at hl 2 rfl) ?_
  refine lv_iconst (v := 0) hx hb dX3_run_8 (by decide) ?_
  refine va_put (D := D) (ci := 3) (v := .int 0) (ty := .int) (C := RX3) (T := TX3) (N := 3) hx hb hts (yy_tl inX3) tyX3 tyX3_ok nX3 hown hK hP hD hS 0 rfl rfl 0 (by decide) (hw _ wq_111) (fun _ h9 => h9) rfl (by decide +kernel) rfl rfl (Nat.le_of_ble_eq_true rfl) dX3_run_9 (fun H locs hP hD hS => ?_)
  have hP : va_P D vwCl (tkW ta (0, tk.2.1, tk.2.2) ++ stW cI cJ sa so) H := hP
  have hD : va_D A (tkW ta (0, tk.2.1, tk.2.2) ++ stW cI cJ sa so) := hD
  refine lv_aload_n hx hb dX3_run_12 rfl (lv_at hl 2 rfl) ?_
  refine lv_iconst (v := 0) hx hb dX3_run_13 (by decide) ?_
  refine va_put (D := D) (ci := 3) (v := .int 0) (ty := .int) (C := RX3) (T := TX3) (N := 3) hx hb hts (yy_tl inX3) tyX3 tyX3_ok nX3 hown hK hP hD hS 0 rfl rfl 2 (by decide) (hw _ wq_113) (fun _ h9 => h9) rfl (by decide +kernel) rfl rfl (Nat.le_of_ble_eq_true rfl) dX3_run_14 (fun H locs hP hD hS => ?_)
  have hP : va_P D vwCl (tkW ta (0, tk.2.1, 0) ++ stW cI cJ sa so) H := hP
  have hD : va_D A (tkW ta (0, tk.2.1, 0) ++ stW cI cJ sa so) := hD
  exact hL17 60 0 0 cands 0 tk.2.1 _ _ _ (by omega) hf (lv_sub hl [2, 3, 4, 5, 6, 1, 0] rfl) hP hD hS
