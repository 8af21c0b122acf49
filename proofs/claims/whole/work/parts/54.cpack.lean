set_option maxHeartbeats 4000000 in
set_option maxRecDepth 100000 in
theorem c_pk_memberSet (l : Launch) (D : va_G) (cI cJ cZ cN : ClassId) (pa : Nat → Nat) (pk : PS)  (res : Int64) (hf : res = pk_memberSet pk) : yy_Met l yX1_memberSet wsX1_memberSet { frames := 0, cells := 0, slots := 0, locals := 0 } D vwCl (yT cI cJ cZ cN) [.ref (pa 0)] (pkW cI pa pk) (some (.long res)) (pkW cI pa pk) := by
  intro sz
  refine Met.ofW (cc := cX1_memberSet) (maxL := 1) (ret := (some .long)) (by decide) rfl ?_
  intro p e s m args below meth c s₁ B hml hv
  obtain ⟨rfl, hsz, hP, hK, hD0, hN⟩ := hv
  have hx := B.exec
  have hb := B.bytes
  have hr := B.returns
  have hts := atoms_spec (ws := wsX1_memberSet) B.pre
  have hw : ∀ w ∈ yW, w.before _ s = true := fun w h => hts w (List.mem_cons_of_mem _ h)
  have hown : s.vm.findClass RX1 = some m.cls := findClass_of_methodNamed B.named
  have hlocks := B.notSynchronized
  subst hsz
  have hD := hD0.self (sz := s.heap.size)
  generalize hAe : va_A (pkW cI pa pk) s.heap.size = A at hD ⊢
  have hA : ∀ q : Nat, s.heap.size ≤ q → A q := fun q h => by rw [← hAe]; exact Or.inr h
  have hS : va_S A s.heap s.heap [] := va_S.rf
  have hl := lv_entry ([.ref (pa 0)]) (n := 1) (Nat.le_of_ble_eq_true rfl)
  rw [lg_entry_eq]
  generalize (lg_sl ([.ref (pa 0)]) ++ List.replicate (1 - (lg_sl ([.ref (pa 0)])).length) Slot.unset).toArray = ls at hl ⊢
  have hl : lv_has ls 1 [(0, .ref (pa 0))] := hl
  rw [pk_memberSet] at hf
  refine lv_aload_n hx hb dX1_memberSet_0 rfl (lv_at hl 0 rfl) ?_
  refine va_get (D := D) (ci := 1) (v := .long pk.2.2.2.1) (C := RX1) (T := TX1) (N := 6) hx hb hts (yy_tl inX1) hown hK hP 0 rfl rfl 3 (by decide) (hw _ wq_130) (fun _ h9 => h9) rfl dX1_memberSet_1 ?_
  subst hf
  exact yy_lret (v := pk.2.2.2.1) hx hb hr hP hK hS hlocks dX1_memberSet_4

set_option maxHeartbeats 4000000 in
set_option maxRecDepth 100000 in
theorem c_pk_length (l : Launch) (D : va_G) (cI cJ cZ cN : ClassId) (pa : Nat → Nat) (pk : PS)  (res : Nat) (hf : res = pk_length pk) : yy_Met l yX1_length wsX1_length { frames := 0, cells := 0, slots := 0, locals := 0 } D vwCl (yT cI cJ cZ cN) [.ref (pa 0)] (pkW cI pa pk) (some (.int (nI res))) (pkW cI pa pk) := by
  intro sz
  refine Met.ofW (cc := cX1_length) (maxL := 1) (ret := (some .int)) (by decide) rfl ?_
  intro p e s m args below meth c s₁ B hml hv
  obtain ⟨rfl, hsz, hP, hK, hD0, hN⟩ := hv
  have hx := B.exec
  have hb := B.bytes
  have hr := B.returns
  have hts := atoms_spec (ws := wsX1_length) B.pre
  have hw : ∀ w ∈ yW, w.before _ s = true := fun w h => hts w (List.mem_cons_of_mem _ h)
  have hown : s.vm.findClass RX1 = some m.cls := findClass_of_methodNamed B.named
  have hlocks := B.notSynchronized
  subst hsz
  have hD := hD0.self (sz := s.heap.size)
  generalize hAe : va_A (pkW cI pa pk) s.heap.size = A at hD ⊢
  have hA : ∀ q : Nat, s.heap.size ≤ q → A q := fun q h => by rw [← hAe]; exact Or.inr h
  have hS : va_S A s.heap s.heap [] := va_S.rf
  have hl := lv_entry ([.ref (pa 0)]) (n := 1) (Nat.le_of_ble_eq_true rfl)
  rw [lg_entry_eq]
  generalize (lg_sl ([.ref (pa 0)]) ++ List.replicate (1 - (lg_sl ([.ref (pa 0)])).length) Slot.unset).toArray = ls at hl ⊢
  have hl : lv_has ls 1 [(0, .ref (pa 0))] := hl
  rw [pk_length] at hf
  refine lv_aload_n hx hb dX1_length_0 rfl (lv_at hl 0 rfl) ?_
  refine va_get (D := D) (ci := 1) (v := .int (nI pk.2.2.2.2.1)) (C := RX1) (T := TX1) (N := 6) hx hb hts (yy_tl inX1) hown hK hP 0 rfl rfl 4 (by decide) (hw _ wq_131) (fun _ h9 => h9) rfl dX1_length_1 ?_
  subst hf
  exact yy_iret (v := (nI pk.2.2.2.2.1)) hx hb hr hP hK hS hlocks dX1_length_4

set_option maxHeartbeats 4000000 in
set_option maxRecDepth 100000 in
theorem c_pk_totalWeight (l : Launch) (D : va_G) (cI cJ cZ cN : ClassId) (pa : Nat → Nat) (pk : PS)  (res : Int32) (hf : res = pk_totalWeight pk) : yy_Met l yX1_totalWeight wsX1_totalWeight { frames := 0, cells := 0, slots := 0, locals := 0 } D vwCl (yT cI cJ cZ cN) [.ref (pa 0)] (pkW cI pa pk) (some (.int res)) (pkW cI pa pk) := by
  intro sz
  refine Met.ofW (cc := cX1_totalWeight) (maxL := 1) (ret := (some .int)) (by decide) rfl ?_
  intro p e s m args below meth c s₁ B hml hv
  obtain ⟨rfl, hsz, hP, hK, hD0, hN⟩ := hv
  have hx := B.exec
  have hb := B.bytes
  have hr := B.returns
  have hts := atoms_spec (ws := wsX1_totalWeight) B.pre
  have hw : ∀ w ∈ yW, w.before _ s = true := fun w h => hts w (List.mem_cons_of_mem _ h)
  have hown : s.vm.findClass RX1 = some m.cls := findClass_of_methodNamed B.named
  have hlocks := B.notSynchronized
  subst hsz
  have hD := hD0.self (sz := s.heap.size)
  generalize hAe : va_A (pkW cI pa pk) s.heap.size = A at hD ⊢
  have hA : ∀ q : Nat, s.heap.size ≤ q → A q := fun q h => by rw [← hAe]; exact Or.inr h
  have hS : va_S A s.heap s.heap [] := va_S.rf
  have hl := lv_entry ([.ref (pa 0)]) (n := 1) (Nat.le_of_ble_eq_true rfl)
  rw [lg_entry_eq]
  generalize (lg_sl ([.ref (pa 0)]) ++ List.replicate (1 - (lg_sl ([.ref (pa 0)])).length) Slot.unset).toArray = ls at hl ⊢
  have hl : lv_has ls 1 [(0, .ref (pa 0))] := hl
  rw [pk_totalWeight] at hf
  refine lv_aload_n hx hb dX1_totalWeight_0 rfl (lv_at hl 0 rfl) ?_
  refine va_get (D := D) (ci := 1) (v := .int pk.2.2.2.2.2) (C := RX1) (T := TX1) (N := 6) hx hb hts (yy_tl inX1) hown hK hP 0 rfl rfl 5 (by decide) (hw _ wq_132) (fun _ h9 => h9) rfl dX1_totalWeight_1 ?_
  subst hf
  exact yy_iret (v := pk.2.2.2.2.2) hx hb hr hP hK hS hlocks dX1_totalWeight_4

set_option maxHeartbeats 4000000 in
set_option maxRecDepth 100000 in
theorem c_pk_isPlace (l : Launch) (D : va_G) (cI cJ cZ cN : ClassId) (pa : Nat → Nat) (pl : Int32) (pk : PS)  (res : Bool) (hf : res = pk_isPlace pl pk) : yy_Met l yX1_isPlace wsX1_isPlace { frames := 0, cells := 0, slots := 0, locals := 0 } D vwCl (yT cI cJ cZ cN) [.ref (pa 0), .int pl] (pkW cI pa pk) (some (.int (yB res))) (pkW cI pa pk) := by
  intro sz
  refine Met.ofW (cc := cX1_isPlace) (maxL := 2) (ret := (some .boolean)) (by decide) rfl ?_
  intro p e s m args below meth c s₁ B hml hv
  obtain ⟨rfl, hsz, hP, hK, hD0, hN⟩ := hv
  have hx := B.exec
  have hb := B.bytes
  have hr := B.returns
  have hts := atoms_spec (ws := wsX1_isPlace) B.pre
  have hw : ∀ w ∈ yW, w.before _ s = true := fun w h => hts w (List.mem_cons_of_mem _ h)
  have hown : s.vm.findClass RX1 = some m.cls := findClass_of_methodNamed B.named
  have hlocks := B.notSynchronized
  subst hsz
  have hD := hD0.self (sz := s.heap.size)
  generalize hAe : va_A (pkW cI pa pk) s.heap.size = A at hD ⊢
  have hA : ∀ q : Nat, s.heap.size ≤ q → A q := fun q h => by rw [← hAe]; exact Or.inr h
  have hS : va_S A s.heap s.heap [] := va_S.rf
  have hl := lv_entry ([.ref (pa 0), .int pl]) (n := 2) (Nat.le_of_ble_eq_true rfl)
  rw [lg_entry_eq]
  generalize (lg_sl ([.ref (pa 0), .int pl]) ++ List.replicate (2 - (lg_sl ([.ref (pa 0), .int pl])).length) Slot.unset).toArray = ls at hl ⊢
  have hl : lv_has ls 2 [(0, .ref (pa 0)), (1, .int pl)] := hl
  rw [pk_isPlace] at hf
  refine lv_iload_n hx hb dX1_isPlace_0 rfl (lv_at hl 1 rfl) ?_
  refine lv_if_lt (tgt := 16) hx hb dX1_isPlace_1 (by decide) (fun h1 => ?_) (fun h1 => ?_)
  · have hf := yt h1 hf
    refine lv_iconst (v := 0) hx hb dX1_isPlace_16 (by decide) ?_
    subst hf
    exact yy_zret (v := yB false) hx hb hr (yB_n _) hP hK hS hlocks dX1_isPlace_17
  · have hf := yf h1 hf
    refine lv_iload_n hx hb dX1_isPlace_4 rfl (lv_at hl 1 rfl) ?_
    refine lv_aload_n hx hb dX1_isPlace_5 rfl (lv_at hl 0 rfl) ?_
    refine va_get (D := D) (ci := 1) (v := .int (nI pk.2.2.2.2.1)) (C := RX1) (T := TX1) (N := 6) hx hb hts (yy_tl inX1) hown hK hP 0 rfl rfl 4 (by decide) (hw _ wq_131) (fun _ h9 => h9) rfl dX1_isPlace_6 ?_
    refine lv_icmp_ge (tgt := 16) hx hb dX1_isPlace_9 (by decide) (fun h2 => ?_) (fun h2 => ?_)
    · have hf := yt h2 hf
      refine lv_iconst (v := 0) hx hb dX1_isPlace_16 (by decide) ?_
      subst hf
      exact yy_zret (v := yB false) hx hb hr (yB_n _) hP hK hS hlocks dX1_isPlace_17
    · have hf := yf h2 hf
      refine lv_iconst (v := 1) hx hb dX1_isPlace_12 (by decide) ?_
      refine lv_goto (tgt := 17) hx hb dX1_isPlace_13 (by decide) ?_
      subst hf
      exact yy_zret (v := yB true) hx hb hr (yB_n _) hP hK hS hlocks dX1_isPlace_17

set_option maxHeartbeats 4000000 in
set_option maxRecDepth 100000 in
theorem c_pk_objectAt (l : Launch) (D : va_G) (cI cJ cZ cN : ClassId) (pa : Nat → Nat) (pl : Int32) (pk : PS) (hp : pk.2.2.2.2.1 ≤ 60) (res : Int32) (hf : res = pk_objectAt pl pk) : yy_Met l yX1_objectAt wsX1_objectAt { frames := 1, cells := 0, slots := 0, locals := 21 } D vwCl (yT cI cJ cZ cN) [.ref (pa 0), .int pl] (pkW cI pa pk) (some (.int res)) (pkW cI pa pk) := by
  intro sz
  refine Met.ofW (cc := cX1_objectAt) (maxL := 2) (ret := (some .int)) (by decide) rfl ?_
  intro p e s m args below meth c s₁ B hml hv
  obtain ⟨rfl, hsz, hP, hK, hD0, hN⟩ := hv
  have hx := B.exec
  have hb := B.bytes
  have hr := B.returns
  have hts := atoms_spec (ws := wsX1_objectAt) B.pre
  have hw : ∀ w ∈ yW, w.before _ s = true := fun w h => hts w (List.mem_cons_of_mem _ h)
  have hown : s.vm.findClass RX1 = some m.cls := findClass_of_methodNamed B.named
  have hlocks := B.notSynchronized
  subst hsz
  have hD := hD0.self (sz := s.heap.size)
  generalize hAe : va_A (pkW cI pa pk) s.heap.size = A at hD ⊢
  have hA : ∀ q : Nat, s.heap.size ≤ q → A q := fun q h => by rw [← hAe]; exact Or.inr h
  have hS : va_S A s.heap s.heap [] := va_S.rf
  have hl := lv_entry ([.ref (pa 0), .int pl]) (n := 2) (Nat.le_of_ble_eq_true rfl)
  rw [lg_entry_eq]
  generalize (lg_sl ([.ref (pa 0), .int pl]) ++ List.replicate (2 - (lg_sl ([.ref (pa 0), .int pl])).length) Slot.unset).toArray = ls at hl ⊢
  have hl : lv_has ls 2 [(0, .ref (pa 0)), (1, .int pl)] := hl
  rw [pk_objectAt] at hf
  refine lv_aload_n hx hb dX1_objectAt_0 rfl (lv_at hl 0 rfl) ?_
  refine lv_iload_n hx hb dX1_objectAt_1 rfl (lv_at hl 1 rfl) ?_
  obtain ⟨r1, er1⟩ : ∃ r, r = pk_isPlace pl pk := ⟨_, rfl⟩
  have hf := yb_e er1 hf
  refine yz_callV (As := [.int pl]) (rest := []) ⟨hx, hb, hml, hown, hts⟩ (c_pk_isPlace l D cI cJ cZ cN pa pl pk  r1 er1) ⟨callB_of 1 hts (yy_good wq_458) rfl rfl rfl (hw _ wq_38) (hw _ wq_455) (by decide +kernel) ⟨Nat.le_of_ble_eq_true rfl, Nat.le_of_ble_eq_true rfl⟩, hw _ wq_457, hw _ wq_15⟩ hK hN hP hD hS hA [0, 1, 2, 3] rfl (by decide) rfl 4 rfl (w2 := (pkW cI pa pk)) rfl 0 rfl rfl rfl hl.1 rfl (Nat.le_of_ble_eq_true rfl) dX1_objectAt_2 ⟨Nat.zero_le _, Nat.zero_le _⟩ (fun H locs hP hD hS => ?_)
  refine W.eq (g2 := F0 m 5 ls [.int (yB r1)]) rfl ?_
  refine lv_if_eq (tgt := 17) hx hb dX1_objectAt_5 (by decide) (fun h2 => ?_) (fun h2 => ?_)
  · have h2 := yB_0.mp h2
    have hf := yBf h2 hf
    refine lv_bipush (v := (-4)) hx hb dX1_objectAt_17 (by decide) ?_
    subst hf
    exact yy_iret (v := (-4)) hx hb hr hP hK hS hlocks dX1_objectAt_19
  · have h2 := yB_1 h2
    have hf := yBt h2 hf
    refine lv_aload_n hx hb dX1_objectAt_8 rfl (lv_at hl 0 rfl) ?_
    refine va_get (D := D) (ci := 1) (v := .ref (pa 1)) (C := RX1) (T := TX1) (N := 6) hx hb hts (yy_tl inX1) hown hK hP 0 rfl rfl 0 (by decide) (hw _ wq_127) (fun _ h9 => h9) rfl dX1_objectAt_9 ?_
    refine lv_iload_n hx hb dX1_objectAt_12 rfl (lv_at hl 1 rfl) ?_
    refine va_iald hx hb hK hP 1 0 (f := pk.1) rfl rfl (pk_isPlace_in ‹_ = pk_isPlace pl pk› ‹_ = true› hp) dX1_objectAt_13 ?_
    refine lv_goto (tgt := 19) hx hb dX1_objectAt_14 (by decide) ?_
    subst hf
    exact yy_iret (v := (pk.1 pl.toNatClampNeg)) hx hb hr hP hK hS hlocks dX1_objectAt_19

set_option maxHeartbeats 4000000 in
set_option maxRecDepth 100000 in
theorem c_pk_baseAt (l : Launch) (D : va_G) (cI cJ cZ cN : ClassId) (pa : Nat → Nat) (pl : Int32) (pk : PS) (hp : pk.2.2.2.2.1 ≤ 60) (res : Int32) (hf : res = pk_baseAt pl pk) : yy_Met l yX1_baseAt wsX1_baseAt { frames := 1, cells := 0, slots := 0, locals := 21 } D vwCl (yT cI cJ cZ cN) [.ref (pa 0), .int pl] (pkW cI pa pk) (some (.int res)) (pkW cI pa pk) := by
  intro sz
  refine Met.ofW (cc := cX1_baseAt) (maxL := 2) (ret := (some .int)) (by decide) rfl ?_
  intro p e s m args below meth c s₁ B hml hv
  obtain ⟨rfl, hsz, hP, hK, hD0, hN⟩ := hv
  have hx := B.exec
  have hb := B.bytes
  have hr := B.returns
  have hts := atoms_spec (ws := wsX1_baseAt) B.pre
  have hw : ∀ w ∈ yW, w.before _ s = true := fun w h => hts w (List.mem_cons_of_mem _ h)
  have hown : s.vm.findClass RX1 = some m.cls := findClass_of_methodNamed B.named
  have hlocks := B.notSynchronized
  subst hsz
  have hD := hD0.self (sz := s.heap.size)
  generalize hAe : va_A (pkW cI pa pk) s.heap.size = A at hD ⊢
  have hA : ∀ q : Nat, s.heap.size ≤ q → A q := fun q h => by rw [← hAe]; exact Or.inr h
  have hS : va_S A s.heap s.heap [] := va_S.rf
  have hl := lv_entry ([.ref (pa 0), .int pl]) (n := 2) (Nat.le_of_ble_eq_true rfl)
  rw [lg_entry_eq]
  generalize (lg_sl ([.ref (pa 0), .int pl]) ++ List.replicate (2 - (lg_sl ([.ref (pa 0), .int pl])).length) Slot.unset).toArray = ls at hl ⊢
  have hl : lv_has ls 2 [(0, .ref (pa 0)), (1, .int pl)] := hl
  rw [pk_baseAt] at hf
  refine lv_aload_n hx hb dX1_baseAt_0 rfl (lv_at hl 0 rfl) ?_
  refine lv_iload_n hx hb dX1_baseAt_1 rfl (lv_at hl 1 rfl) ?_
  obtain ⟨r1, er1⟩ : ∃ r, r = pk_isPlace pl pk := ⟨_, rfl⟩
  have hf := yb_e er1 hf
  refine yz_callV (As := [.int pl]) (rest := []) ⟨hx, hb, hml, hown, hts⟩ (c_pk_isPlace l D cI cJ cZ cN pa pl pk  r1 er1) ⟨callB_of 1 hts (yy_good wq_458) rfl rfl rfl (hw _ wq_38) (hw _ wq_455) (by decide +kernel) ⟨Nat.le_of_ble_eq_true rfl, Nat.le_of_ble_eq_true rfl⟩, hw _ wq_457, hw _ wq_15⟩ hK hN hP hD hS hA [0, 1, 2, 3] rfl (by decide) rfl 4 rfl (w2 := (pkW cI pa pk)) rfl 0 rfl rfl rfl hl.1 rfl (Nat.le_of_ble_eq_true rfl) dX1_baseAt_2 ⟨Nat.zero_le _, Nat.zero_le _⟩ (fun H locs hP hD hS => ?_)
  refine W.eq (g2 := F0 m 5 ls [.int (yB r1)]) rfl ?_
  refine lv_if_eq (tgt := 17) hx hb dX1_baseAt_5 (by decide) (fun h2 => ?_) (fun h2 => ?_)
  · have h2 := yB_0.mp h2
    have hf := yBf h2 hf
    refine lv_bipush (v := (-4)) hx hb dX1_baseAt_17 (by decide) ?_
    subst hf
    exact yy_iret (v := (-4)) hx hb hr hP hK hS hlocks dX1_baseAt_19
  · have h2 := yB_1 h2
    have hf := yBt h2 hf
    refine lv_aload_n hx hb dX1_baseAt_8 rfl (lv_at hl 0 rfl) ?_
    refine va_get (D := D) (ci := 1) (v := .ref (pa 2)) (C := RX1) (T := TX1) (N := 6) hx hb hts (yy_tl inX1) hown hK hP 0 rfl rfl 1 (by decide) (hw _ wq_128) (fun _ h9 => h9) rfl dX1_baseAt_9 ?_
    refine lv_iload_n hx hb dX1_baseAt_12 rfl (lv_at hl 1 rfl) ?_
    refine va_iald hx hb hK hP 2 0 (f := pk.2.1) rfl rfl (pk_isPlace_in ‹_ = pk_isPlace pl pk› ‹_ = true› hp) dX1_baseAt_13 ?_
    refine lv_goto (tgt := 19) hx hb dX1_baseAt_14 (by decide) ?_
    subst hf
    exact yy_iret (v := (pk.2.1 pl.toNatClampNeg)) hx hb hr hP hK hS hlocks dX1_baseAt_19

set_option maxHeartbeats 4000000 in
set_option maxRecDepth 100000 in
theorem c_pk_chooseBase (l : Launch) (D : va_G) (cI cJ cZ cN : ClassId) (pa : Nat → Nat) (sa : Nat → Nat) (pl : Nat) (pk : PS) (so : SS) (hs : so.2.2.2.2.2 ≤ 60) (hpl : pl < 60) (res : Int32 × PS) (hf : res = pk_chooseBase pl pk so) : yy_Met l yX1_chooseBase wsX1_chooseBase { frames := 2, cells := 0, slots := 0, locals := 43 } D vwCl (yT cI cJ cZ cN) [.ref (pa 0), .ref (sa 0), .int (nI pl)] (pkW cI pa pk ++ stW cI cJ sa so) (some (.int res.1)) (pkW cI pa res.2 ++ stW cI cJ sa so) := by
  intro sz
  refine Met.ofW (cc := cX1_chooseBase) (maxL := 7) (ret := (some .int)) (by decide) rfl ?_
  intro p e s m args below meth c s₁ B hml hv
  obtain ⟨rfl, hsz, hP, hK, hD0, hN⟩ := hv
  have hx := B.exec
  have hb := B.bytes
  have hr := B.returns
  have hts := atoms_spec (ws := wsX1_chooseBase) B.pre
  have hw : ∀ w ∈ yW, w.before _ s = true := fun w h => hts w (List.mem_cons_of_mem _ h)
  have hown : s.vm.findClass RX1 = some m.cls := findClass_of_methodNamed B.named
  have hlocks := B.notSynchronized
  subst hsz
  have hD := hD0.self (sz := s.heap.size)
  generalize hAe : va_A (pkW cI pa pk ++ stW cI cJ sa so) s.heap.size = A at hD ⊢
  have hA : ∀ q : Nat, s.heap.size ≤ q → A q := fun q h => by rw [← hAe]; exact Or.inr h
  have hS : va_S A s.heap s.heap [] := va_S.rf
  have hl := lv_entry ([.ref (pa 0), .ref (sa 0), .int (nI pl)]) (n := 7) (Nat.le_of_ble_eq_true rfl)
  rw [lg_entry_eq]
  generalize (lg_sl ([.ref (pa 0), .ref (sa 0), .int (nI pl)]) ++ List.replicate (7 - (lg_sl ([.ref (pa 0), .ref (sa 0), .int (nI pl)])).length) Slot.unset).toArray = ls at hl ⊢
  have hl : lv_has ls 7 [(0, .ref (pa 0)), (1, .ref (sa 0)), (2, .int (nI pl))] := hl
  have hL20 : ∀ (k : Nat) (least : Int32) (content : Int32) (pk : PS) (ls : Array Slot) (H : Heap) (locs : List Loc), k ≤ pl → res = pk_chooseBase_L20 pl so k least content pk → lv_has ls 7 [(0, .ref (pa 0)), (1, .ref (sa 0)), (2, .int (nI pl)), (3, .int least), (4, .int content), (5, .int (nI k - 1))] → va_P D vwCl (pkW cI pa pk ++ stW cI cJ sa so) H → va_D A (pkW cI pa pk ++ stW cI cJ sa so) → va_S A s.heap H locs → W p l e (headSpec wsX1_chooseBase { frames := 2, cells := 0, slots := 0, locals := 43 }).room s m ([.ref (pa 0), .ref (sa 0), .int (nI pl)] : List Value).toArray below meth c H locs 0 0 (MQ below (yy_Q A D vwCl (yT cI cJ cZ cN) (pkW cI pa res.2 ++ stW cI cJ sa so) (some (.int res.1))) ([.ref (pa 0), .ref (sa 0), .int (nI pl)] : List Value).toArray s 0 0 A) (F0 m 20 ls []) := by
    intro k
    induction k with
    | zero =>
      intro least content pk ls H locs hi hf hl hP hD hS
      rw [pk_chooseBase_L20] at hf
      refine lv_iload hx hb dX1_chooseBase_20 (lv_at hl 5 rfl) ?_
      refine lv_if_lt (tgt := 117) hx hb dX1_chooseBase_22 (by decide) (fun _ => ?_) (fun h => absurd (by decide) h)
      refine lv_iload_n hx hb dX1_chooseBase_117 rfl (lv_at hl 3 rfl) ?_
      subst hf
      exact yy_iret (v := least) hx hb hr hP hK hS hlocks dX1_chooseBase_118
    | succ q ih =>
      intro least content pk ls H locs hi hf hl hP hD hS
      rw [pk_chooseBase_L20] at hf
      rw [nI_pred] at hl
      refine lv_iload hx hb dX1_chooseBase_20 (lv_at hl 5 rfl) ?_
      refine lv_if_lt (tgt := 117) hx hb dX1_chooseBase_22 (by decide) (fun h => absurd h (nI_pos (by omega))) (fun _ => ?_)
      refine lv_iload hx hb dX1_chooseBase_25 (lv_at hl 5 rfl) ?_
      refine lv_iload_n hx hb dX1_chooseBase_27 rfl (lv_at hl 2 rfl) ?_
      refine lv_iconst (v := 3) hx hb dX1_chooseBase_28 (by decide) ?_
      refine lv_isub hx hb dX1_chooseBase_29 ?_
      refine lv_icmp_lt (tgt := 117) hx hb dX1_chooseBase_30 (by decide) (fun h1 => ?_) (fun h1 => ?_)
      · have hf := yt h1 hf
        refine lv_iload_n hx hb dX1_chooseBase_117 rfl (lv_at hl 3 rfl) ?_
        subst hf
        exact yy_iret (v := least) hx hb hr hP hK hS hlocks dX1_chooseBase_118
      · have hf := yf h1 hf
        refine lv_aload_n hx hb dX1_chooseBase_33 rfl (lv_at hl 1 rfl) ?_
        refine lv_aload_n hx hb dX1_chooseBase_34 rfl (lv_at hl 0 rfl) ?_
        refine va_get (D := D) (ci := 1) (v := .ref (pa 1)) (C := RX1) (T := TX1) (N := 6) hx hb hts (yy_tl inX1) hown hK hP 0 rfl rfl 0 (by decide) (hw _ wq_127) (fun _ h9 => h9) rfl dX1_chooseBase_35 ?_
        refine lv_iload hx hb dX1_chooseBase_38 (lv_at hl 5 rfl) ?_
        refine yr_iald hx hb hK hP 1 0 (f := pk.1) (j := q) rfl rfl rfl (by omega) (by decide) dX1_chooseBase_40 ?_
        refine lv_iconst (v := 0) hx hb dX1_chooseBase_41 (by decide) ?_
        obtain ⟨r2, er2⟩ : ∃ r, r = st_isOfKind (pk.1 q) 0 so := ⟨_, rfl⟩
        have hf := yb_e er2 hf
        refine yz_callV (As := [.int (pk.1 q), .int 0]) (rest := []) ⟨hx, hb, hml, hown, hts⟩ (c_st_isOfKind l D cI cJ cZ cN sa (pk.1 q) 0 so (by (try dsimp only) <;> omega) r2 er2) ⟨callB_of 2 hts (yy_good wq_231) rfl rfl rfl (hw _ wq_35) (hw _ wq_328) (by decide +kernel) ⟨Nat.le_of_ble_eq_true rfl, Nat.le_of_ble_eq_true rfl⟩, hw _ wq_229, hw _ wq_230⟩ hK hN hP hD hS hA [4, 5, 6, 7, 8, 9] rfl (by decide) rfl 10 rfl (w2 := (pkW cI pa pk ++ stW cI cJ sa so)) rfl 4 rfl rfl rfl hl.1 rfl (Nat.le_of_ble_eq_true rfl) dX1_chooseBase_42 ⟨Nat.zero_le _, Nat.zero_le _⟩ (fun H locs hP hD hS => ?_)
        refine W.eq (g2 := F0 m 45 ls [.int (yB r2)]) rfl ?_
        refine lv_if_eq (tgt := 111) hx hb dX1_chooseBase_45 (by decide) (fun h3 => ?_) (fun h3 => ?_)
        · have h3 := yB_0.mp h3
          have hf := yBf h3 hf
          refine lv_iinc (k := 5) (v := (nI q - 1)) (lv' := [(5, .int (nI q - 1)), (0, .ref (pa 0)), (1, .ref (sa 0)), (2, .int (nI pl)), (3, .int least), (4, .int content)]) hx hb dX1_chooseBase_111 hl rfl (yy_dec _) (by decide) rfl (fun ls hl => ?_)
          refine lv_goto (tgt := 20) hx hb dX1_chooseBase_114 (by decide) ?_
          exact ih least content pk _ _ _ (by omega) hf (lv_sub hl [1, 2, 3, 4, 5, 0] rfl) hP hD hS
        · have h3 := yB_1 h3
          have hf := yBt h3 hf
          refine lv_aload_n hx hb dX1_chooseBase_48 rfl (lv_at hl 0 rfl) ?_
          refine va_get (D := D) (ci := 1) (v := .ref (pa 3)) (C := RX1) (T := TX1) (N := 6) hx hb hts (yy_tl inX1) hown hK hP 0 rfl rfl 2 (by decide) (hw _ wq_129) (fun _ h9 => h9) rfl dX1_chooseBase_49 ?_
          refine lv_iload hx hb dX1_chooseBase_52 (lv_at hl 5 rfl) ?_
          refine yr_iald hx hb hK hP 3 0 (f := pk.2.2.1) (j := q) rfl rfl rfl (by omega) (by decide) dX1_chooseBase_54 ?_
          refine lv_iconst (v := 2) hx hb dX1_chooseBase_55 (by decide) ?_
          refine lv_icmp_ge (tgt := 111) hx hb dX1_chooseBase_56 (by decide) (fun h4 => ?_) (fun h4 => ?_)
          · have hf := yt h4 hf
            refine lv_iinc (k := 5) (v := (nI q - 1)) (lv' := [(5, .int (nI q - 1)), (0, .ref (pa 0)), (1, .ref (sa 0)), (2, .int (nI pl)), (3, .int least), (4, .int content)]) hx hb dX1_chooseBase_111 hl rfl (yy_dec _) (by decide) rfl (fun ls hl => ?_)
            refine lv_goto (tgt := 20) hx hb dX1_chooseBase_114 (by decide) ?_
            exact ih least content pk _ _ _ (by omega) hf (lv_sub hl [1, 2, 3, 4, 5, 0] rfl) hP hD hS
          · have hf := yf h4 hf
            refine lv_iconst (v := 2) hx hb dX1_chooseBase_59 (by decide) ?_
            refine lv_iload hx hb dX1_chooseBase_60 (lv_at hl 4 rfl) ?_
            refine lv_aload_n hx hb dX1_chooseBase_62 rfl (lv_at hl 1 rfl) ?_
            refine lv_aload_n hx hb dX1_chooseBase_63 rfl (lv_at hl 0 rfl) ?_
            refine va_get (D := D) (ci := 1) (v := .ref (pa 1)) (C := RX1) (T := TX1) (N := 6) hx hb hts (yy_tl inX1) hown hK hP 0 rfl rfl 0 (by decide) (hw _ wq_127) (fun _ h9 => h9) rfl dX1_chooseBase_64 ?_
            refine lv_iload hx hb dX1_chooseBase_67 (lv_at hl 5 rfl) ?_
            refine yr_iald hx hb hK hP 1 0 (f := pk.1) (j := q) rfl rfl rfl (by omega) (by decide) dX1_chooseBase_69 ?_
            obtain ⟨r5, er5⟩ : ∃ r, r = st_contentOf (pk.1 q) so := ⟨_, rfl⟩
            have hf := yb_e er5 hf
            refine yz_callV (As := [.int (pk.1 q)]) (rest := [.int content, .int 2]) ⟨hx, hb, hml, hown, hts⟩ (c_st_contentOf l D cI cJ cZ cN sa (pk.1 q) so (by (try dsimp only) <;> omega) r5 er5) ⟨callB_of 1 hts (yy_good wq_336) rfl rfl rfl (hw _ wq_35) (hw _ wq_333) (by decide +kernel) ⟨Nat.le_of_ble_eq_true rfl, Nat.le_of_ble_eq_true rfl⟩, hw _ wq_334, hw _ wq_335⟩ hK hN hP hD hS hA [4, 5, 6, 7, 8, 9] rfl (by decide) rfl 10 rfl (w2 := (pkW cI pa pk ++ stW cI cJ sa so)) rfl 4 rfl rfl rfl hl.1 rfl (Nat.le_of_ble_eq_true rfl) dX1_chooseBase_70 ⟨Nat.zero_le _, Nat.zero_le _⟩ (fun H locs hP hD hS => ?_)
            refine W.eq (g2 := F0 m 73 ls [.int r5, .int content, .int 2]) rfl ?_
            obtain ⟨r6, er6⟩ : ∃ r, r = pk_differingDigits content r5 := ⟨_, rfl⟩
            have hf := yb_e er6 hf
            refine yz_callS (As := [.int content, .int r5]) (rest := [.int 2]) ⟨hx, hb, hml, hown, hts⟩ (c_pk_differingDigits l D cI cJ cZ cN content r5  r6 er6) ⟨callB_of 2 hts (yy_good wq_339) rfl rfl rfl (hw _ wq_38) (hw _ wq_337) (by decide +kernel) ⟨Nat.le_of_ble_eq_true rfl, Nat.le_of_ble_eq_true rfl⟩, hw _ wq_338⟩ hK hN hP hD hS hA [] rfl (by decide) rfl 0 rfl (w2 := (pkW cI pa pk ++ stW cI cJ sa so)) rfl rfl hl.1 rfl (Nat.le_of_ble_eq_true rfl) dX1_chooseBase_73 ⟨Nat.zero_le _, Nat.zero_le _⟩ (fun H locs hP hD hS => ?_)
            refine W.eq (g2 := F0 m 76 ls [.int r6, .int 2]) rfl ?_
            refine lv_iadd hx hb dX1_chooseBase_76 ?_
            refine lv_istore (lv' := [(6, .int (2 + r6)), (0, .ref (pa 0)), (1, .ref (sa 0)), (2, .int (nI pl)), (3, .int least), (4, .int content), (5, .int (nI q))]) hx hb dX1_chooseBase_77 hl (by decide) rfl (fun ls hl => ?_)
            refine lv_iload hx hb dX1_chooseBase_79 (lv_at hl 0 rfl) ?_
            refine lv_iload_n hx hb dX1_chooseBase_81 rfl (lv_at hl 4 rfl) ?_
            refine lv_icmp_ge (tgt := 111) hx hb dX1_chooseBase_82 (by decide) (fun h7 => ?_) (fun h7 => ?_)
            · have hf := yt h7 hf
              refine lv_iinc (k := 6) (v := (nI q - 1)) (lv' := [(5, .int (nI q - 1)), (6, .int (2 + r6)), (0, .ref (pa 0)), (1, .ref (sa 0)), (2, .int (nI pl)), (3, .int least), (4, .int content)]) hx hb dX1_chooseBase_111 hl rfl (yy_dec _) (by decide) rfl (fun ls hl => ?_)
              refine lv_goto (tgt := 20) hx hb dX1_chooseBase_114 (by decide) ?_
              exact ih least content pk _ _ _ (by omega) hf (lv_sub hl [2, 3, 4, 5, 6, 0] rfl) hP hD hS
            · have hf := yf h7 hf
              refine lv_iload hx hb dX1_chooseBase_85 (lv_at hl 0 rfl) ?_
              refine lv_istore_n (lv' := [(3, .int (2 + r6)), (6, .int (2 + r6)), (0, .ref (pa 0)), (1, .ref (sa 0)), (2, .int (nI pl)), (4, .int content), (5, .int (nI q))]) hx hb dX1_chooseBase_87 rfl hl (by decide) rfl (fun ls hl => ?_)
              refine lv_aload_n hx hb dX1_chooseBase_88 rfl (lv_at hl 2 rfl) ?_
              refine va_get (D := D) (ci := 1) (v := .ref (pa 2)) (C := RX1) (T := TX1) (N := 6) hx hb hts (yy_tl inX1) hown hK hP 0 rfl rfl 1 (by decide) (hw _ wq_128) (fun _ h9 => h9) rfl dX1_chooseBase_89 ?_
              refine lv_iload_n hx hb dX1_chooseBase_92 rfl (lv_at hl 4 rfl) ?_
              refine lv_iload hx hb dX1_chooseBase_93 (lv_at hl 6 rfl) ?_
              refine yr_iast hx hb hK hP hD hS 2 0 (f := pk.2.1) (j := pl) rfl rfl rfl (by omega) (by decide) dX1_chooseBase_95 (fun H locs hP hD hS => ?_)
              have hP : va_P D vwCl (pkW cI pa (pk.1, upd pk.2.1 pl (nI q), pk.2.2.1, pk.2.2.2.1, pk.2.2.2.2.1, pk.2.2.2.2.2) ++ stW cI cJ sa so) H := hP
              have hD : va_D A (pkW cI pa (pk.1, upd pk.2.1 pl (nI q), pk.2.2.1, pk.2.2.2.1, pk.2.2.2.2.1, pk.2.2.2.2.2) ++ stW cI cJ sa so) := hD
              refine lv_aload_n hx hb dX1_chooseBase_96 rfl (lv_at hl 2 rfl) ?_
              refine va_get (D := D) (ci := 1) (v := .ref (pa 3)) (C := RX1) (T := TX1) (N := 6) hx hb hts (yy_tl inX1) hown hK hP 0 rfl rfl 2 (by decide) (hw _ wq_129) (fun _ h9 => h9) rfl dX1_chooseBase_97 ?_
              refine lv_iload_n hx hb dX1_chooseBase_100 rfl (lv_at hl 4 rfl) ?_
              refine lv_aload_n hx hb dX1_chooseBase_101 rfl (lv_at hl 2 rfl) ?_
              refine va_get (D := D) (ci := 1) (v := .ref (pa 3)) (C := RX1) (T := TX1) (N := 6) hx hb hts (yy_tl inX1) hown hK hP 0 rfl rfl 2 (by decide) (hw _ wq_129) (fun _ h9 => h9) rfl dX1_chooseBase_102 ?_
              refine lv_iload hx hb dX1_chooseBase_105 (lv_at hl 6 rfl) ?_
              refine yr_iald hx hb hK hP 3 0 (f := pk.2.2.1) (j := q) rfl rfl rfl (by omega) (by decide) dX1_chooseBase_107 ?_
              refine lv_iconst (v := 1) hx hb dX1_chooseBase_108 (by decide) ?_
              refine lv_iadd hx hb dX1_chooseBase_109 ?_
              refine yr_iast hx hb hK hP hD hS 3 0 (f := pk.2.2.1) (j := pl) rfl rfl rfl (by omega) (by decide) dX1_chooseBase_110 (fun H locs hP hD hS => ?_)
              have hP : va_P D vwCl (pkW cI pa (pk.1, upd pk.2.1 pl (nI q), upd pk.2.2.1 pl ((pk.2.2.1 q) + 1), pk.2.2.2.1, pk.2.2.2.2.1, pk.2.2.2.2.2) ++ stW cI cJ sa so) H := hP
              have hD : va_D A (pkW cI pa (pk.1, upd pk.2.1 pl (nI q), upd pk.2.2.1 pl ((pk.2.2.1 q) + 1), pk.2.2.2.1, pk.2.2.2.2.1, pk.2.2.2.2.2) ++ stW cI cJ sa so) := hD
              refine lv_iinc (k := 6) (v := (nI q - 1)) (lv' := [(5, .int (nI q - 1)), (3, .int (2 + r6)), (6, .int (2 + r6)), (0, .ref (pa 0)), (1, .ref (sa 0)), (2, .int (nI pl)), (4, .int content)]) hx hb dX1_chooseBase_111 hl rfl (yy_dec _) (by decide) rfl (fun ls hl => ?_)
              refine lv_goto (tgt := 20) hx hb dX1_chooseBase_114 (by decide) ?_
              exact ih (2 + r6) content (pk.1, upd pk.2.1 pl (nI q), upd pk.2.2.1 pl ((pk.2.2.1 q) + 1), pk.2.2.2.1, pk.2.2.2.2.1, pk.2.2.2.2.2) _ _ _ (by omega) hf (lv_sub hl [3, 4, 5, 1, 6, 0] rfl) hP hD hS
  rw [pk_chooseBase] at hf
  refine lv_bipush (v := 8) hx hb dX1_chooseBase_0 (by decide) ?_
  refine lv_istore_n (lv' := [(3, .int 8), (0, .ref (pa 0)), (1, .ref (sa 0)), (2, .int (nI pl))]) hx hb dX1_chooseBase_2 rfl hl (by decide) rfl (fun ls hl => ?_)
  refine lv_aload_n hx hb dX1_chooseBase_3 rfl (lv_at hl 2 rfl) ?_
  refine lv_aload_n hx hb dX1_chooseBase_4 rfl (lv_at hl 1 rfl) ?_
  refine va_get (D := D) (ci := 1) (v := .ref (pa 1)) (C := RX1) (T := TX1) (N := 6) hx hb hts (yy_tl inX1) hown hK hP 0 rfl rfl 0 (by decide) (hw _ wq_127) (fun _ h9 => h9) rfl dX1_chooseBase_5 ?_
  refine lv_iload_n hx hb dX1_chooseBase_8 rfl (lv_at hl 3 rfl) ?_
  refine yr_iald hx hb hK hP 1 0 (f := pk.1) (j := pl) rfl rfl rfl (by omega) (by decide) dX1_chooseBase_9 ?_
  obtain ⟨r8, er8⟩ : ∃ r, r = st_contentOf (pk.1 pl) so := ⟨_, rfl⟩
  have hf := yb_e er8 hf
  refine yz_callV (As := [.int (pk.1 pl)]) (rest := []) ⟨hx, hb, hml, hown, hts⟩ (c_st_contentOf l D cI cJ cZ cN sa (pk.1 pl) so (by (try dsimp only) <;> omega) r8 er8) ⟨callB_of 1 hts (yy_good wq_336) rfl rfl rfl (hw _ wq_35) (hw _ wq_333) (by decide +kernel) ⟨Nat.le_of_ble_eq_true rfl, Nat.le_of_ble_eq_true rfl⟩, hw _ wq_334, hw _ wq_335⟩ hK hN hP hD hS hA [4, 5, 6, 7, 8, 9] rfl (by decide) rfl 10 rfl (w2 := (pkW cI pa pk ++ stW cI cJ sa so)) rfl 4 rfl rfl rfl hl.1 rfl (Nat.le_of_ble_eq_true rfl) dX1_chooseBase_10 ⟨Nat.zero_le _, Nat.zero_le _⟩ (fun H locs hP hD hS => ?_)
  refine W.eq (g2 := F0 m 13 ls [.int r8]) rfl ?_
  refine lv_istore (lv' := [(4, .int r8), (3, .int 8), (0, .ref (pa 0)), (1, .ref (sa 0)), (2, .int (nI pl))]) hx hb dX1_chooseBase_13 hl (by decide) rfl (fun ls hl => ?_)
  refine lv_iload_n hx hb dX1_chooseBase_15 rfl (lv_at hl 4 rfl) ?_
  refine lv_iconst (v := 1) hx hb dX1_chooseBase_16 (by decide) ?_
  refine lv_isub hx hb dX1_chooseBase_17 ?_
  refine lv_istore (lv' := [(5, .int (nI pl - 1)), (4, .int r8), (3, .int 8), (0, .ref (pa 0)), (1, .ref (sa 0)), (2, .int (nI pl))]) hx hb dX1_chooseBase_18 hl (by decide) rfl (fun ls hl => ?_)
  exact hL20 pl 8 r8 pk _ _ _ (by omega) hf (lv_sub hl [3, 4, 5, 2, 1, 0] rfl) hP hD hS

set_option maxHeartbeats 4000000 in
set_option maxRecDepth 100000 in
theorem c_pk_placeKind (l : Launch) (D : va_G) (cI cJ cZ cN : ClassId) (pa : Nat → Nat) (sa : Nat → Nat) (kd : Int32) (pk : PS) (so : SS) (hp : pk.2.2.2.2.1 ≤ 60) (hs : so.2.2.2.2.2 ≤ 60) (res : PS) (hf : res = pk_placeKind kd pk so) : yy_Met l yX1_placeKind wsX1_placeKind { frames := 3, cells := 0, slots := 0, locals := 69 } D vwCl (yT cI cJ cZ cN) [.ref (pa 0), .ref (sa 0), .int kd] (pkW cI pa pk ++ stW cI cJ sa so) none (pkW cI pa res ++ stW cI cJ sa so) := by
  intro sz
  refine Met.ofW (cc := cX1_placeKind) (maxL := 5) (ret := none) (by decide) rfl ?_
  intro p e s m args below meth c s₁ B hml hv
  obtain ⟨rfl, hsz, hP, hK, hD0, hN⟩ := hv
  have hx := B.exec
  have hb := B.bytes
  have hr := B.returns
  have hts := atoms_spec (ws := wsX1_placeKind) B.pre
  have hw : ∀ w ∈ yW, w.before _ s = true := fun w h => hts w (List.mem_cons_of_mem _ h)
  have hown : s.vm.findClass RX1 = some m.cls := findClass_of_methodNamed B.named
  have hlocks := B.notSynchronized
  subst hsz
  have hD := hD0.self (sz := s.heap.size)
  generalize hAe : va_A (pkW cI pa pk ++ stW cI cJ sa so) s.heap.size = A at hD ⊢
  have hA : ∀ q : Nat, s.heap.size ≤ q → A q := fun q h => by rw [← hAe]; exact Or.inr h
  have hS : va_S A s.heap s.heap [] := va_S.rf
  have hl := lv_entry ([.ref (pa 0), .ref (sa 0), .int kd]) (n := 5) (Nat.le_of_ble_eq_true rfl)
  rw [lg_entry_eq]
  generalize (lg_sl ([.ref (pa 0), .ref (sa 0), .int kd]) ++ List.replicate (5 - (lg_sl ([.ref (pa 0), .ref (sa 0), .int kd])).length) Slot.unset).toArray = ls at hl ⊢
  have hl : lv_has ls 5 [(0, .ref (pa 0)), (1, .ref (sa 0)), (2, .int kd)] := hl
  have hL3 : ∀ (k : Nat) (pk : PS) (ls : Array Slot) (H : Heap) (locs : List Loc), k ≤ 60 → pk.2.2.2.2.1 ≤ 60 → res = pk_placeKind_L3 kd so k pk → lv_has ls 5 [(0, .ref (pa 0)), (1, .ref (sa 0)), (2, .int kd), (3, .int (nI k - 1))] → va_P D vwCl (pkW cI pa pk ++ stW cI cJ sa so) H → va_D A (pkW cI pa pk ++ stW cI cJ sa so) → va_S A s.heap H locs → W p l e (headSpec wsX1_placeKind { frames := 3, cells := 0, slots := 0, locals := 69 }).room s m ([.ref (pa 0), .ref (sa 0), .int kd] : List Value).toArray below meth c H locs 0 0 (MQ below (yy_Q A D vwCl (yT cI cJ cZ cN) (pkW cI pa res ++ stW cI cJ sa so) none) ([.ref (pa 0), .ref (sa 0), .int kd] : List Value).toArray s 0 0 A) (F0 m 3 ls []) := by
    intro k
    induction k with
    | zero =>
      intro pk ls H locs hi hv0 hf hl hP hD hS
      rw [pk_placeKind_L3] at hf
      refine lv_iload_n hx hb dX1_placeKind_3 rfl (lv_at hl 3 rfl) ?_
      refine lv_if_lt (tgt := 111) hx hb dX1_placeKind_4 (by decide) (fun _ => ?_) (fun h => absurd (by decide) h)
      subst hf
      exact yy_vret hx hb hr hP hK hS hlocks dX1_placeKind_111
    | succ x ih =>
      intro pk ls H locs hi hv0 hf hl hP hD hS
      rw [pk_placeKind_L3] at hf
      rw [nI_pred] at hl
      refine lv_iload_n hx hb dX1_placeKind_3 rfl (lv_at hl 3 rfl) ?_
      refine lv_if_lt (tgt := 111) hx hb dX1_placeKind_4 (by decide) (fun h => absurd h (nI_pos (by omega))) (fun _ => ?_)
      refine lv_aload_n hx hb dX1_placeKind_7 rfl (lv_at hl 0 rfl) ?_
      refine va_get (D := D) (ci := 1) (v := .int (nI pk.2.2.2.2.1)) (C := RX1) (T := TX1) (N := 6) hx hb hts (yy_tl inX1) hown hK hP 0 rfl rfl 4 (by decide) (hw _ wq_131) (fun _ h9 => h9) rfl dX1_placeKind_8 ?_
      refine lv_bipush (v := 60) hx hb dX1_placeKind_11 (by decide) ?_
      refine lv_icmp_ge (tgt := 111) hx hb dX1_placeKind_13 (by decide) (fun h1 => ?_) (fun h1 => ?_)
      · have hf := yt h1 hf
        subst hf
        exact yy_vret hx hb hr hP hK hS hlocks dX1_placeKind_111
      · have hf := yf h1 hf
        have hsz := yy_lt60' ‹¬ (60 : Int32) ≤ nI _› hv0
        refine lv_aload_n hx hb dX1_placeKind_16 rfl (lv_at hl 0 rfl) ?_
        refine va_get (D := D) (ci := 1) (v := .long pk.2.2.2.1) (C := RX1) (T := TX1) (N := 6) hx hb hts (yy_tl inX1) hown hK hP 0 rfl rfl 3 (by decide) (hw _ wq_130) (fun _ h9 => h9) rfl dX1_placeKind_17 ?_
        refine lv_iload_n hx hb dX1_placeKind_20 rfl (lv_at hl 3 rfl) ?_
        obtain ⟨r2, er2⟩ : ∃ r, r = px_isIn pk.2.2.2.1 (nI x) := ⟨_, rfl⟩
        have hf := yb_e er2 hf
        refine yz_callSN (As := [.long pk.2.2.2.1, .int (nI x)]) (rest := []) ⟨hx, hb, hml, hown, hts⟩ (c_px_isIn l D cI cJ cZ cN pk.2.2.2.1 (nI x)  r2 er2) ⟨va_cnB 2 hts (yy_good wq_194) rfl rfl rfl hN.2.2.2.2.1 (hw _ wq_34) (by decide +kernel) ⟨Nat.le_of_ble_eq_true rfl, Nat.le_of_ble_eq_true rfl⟩, hw _ wq_193, trivial⟩ hK hN hP hD hS hA [] rfl (by decide) rfl 0 rfl (w2 := (pkW cI pa pk ++ stW cI cJ sa so)) rfl rfl hl.1 rfl (Nat.le_of_ble_eq_true rfl) dX1_placeKind_21 ⟨Nat.zero_le _, Nat.zero_le _⟩ (fun H locs hP hD hS => ?_)
        refine W.eq (g2 := F0 m 24 ls [.int (yB r2)]) rfl ?_
        refine lv_if_eq (tgt := 105) hx hb dX1_placeKind_24 (by decide) (fun h3 => ?_) (fun h3 => ?_)
        · have h3 := yB_0.mp h3
          have hf := yBf h3 hf
          refine lv_iinc (k := 3) (v := (nI x - 1)) (lv' := [(3, .int (nI x - 1)), (0, .ref (pa 0)), (1, .ref (sa 0)), (2, .int kd)]) hx hb dX1_placeKind_105 hl rfl (yy_dec _) (by decide) rfl (fun ls hl => ?_)
          refine lv_goto (tgt := 3) hx hb dX1_placeKind_108 (by decide) ?_
          exact ih pk _ _ _ (by omega) (by (try dsimp only) <;> omega) hf (lv_sub hl [1, 2, 3, 0] rfl) hP hD hS
        · have h3 := yB_1 h3
          have hf := yBt h3 hf
          refine lv_aload_n hx hb dX1_placeKind_27 rfl (lv_at hl 1 rfl) ?_
          refine lv_iload_n hx hb dX1_placeKind_28 rfl (lv_at hl 3 rfl) ?_
          refine lv_iload_n hx hb dX1_placeKind_29 rfl (lv_at hl 2 rfl) ?_
          obtain ⟨r4, er4⟩ : ∃ r, r = st_isOfKind (nI x) kd so := ⟨_, rfl⟩
          have hf := yb_e er4 hf
          refine yz_callV (As := [.int (nI x), .int kd]) (rest := []) ⟨hx, hb, hml, hown, hts⟩ (c_st_isOfKind l D cI cJ cZ cN sa (nI x) kd so (by (try dsimp only) <;> omega) r4 er4) ⟨callB_of 2 hts (yy_good wq_231) rfl rfl rfl (hw _ wq_35) (hw _ wq_328) (by decide +kernel) ⟨Nat.le_of_ble_eq_true rfl, Nat.le_of_ble_eq_true rfl⟩, hw _ wq_229, hw _ wq_230⟩ hK hN hP hD hS hA [4, 5, 6, 7, 8, 9] rfl (by decide) rfl 10 rfl (w2 := (pkW cI pa pk ++ stW cI cJ sa so)) rfl 4 rfl rfl rfl hl.1 rfl (Nat.le_of_ble_eq_true rfl) dX1_placeKind_30 ⟨Nat.zero_le _, Nat.zero_le _⟩ (fun H locs hP hD hS => ?_)
          refine W.eq (g2 := F0 m 33 ls [.int (yB r4)]) rfl ?_
          refine lv_if_eq (tgt := 105) hx hb dX1_placeKind_33 (by decide) (fun h5 => ?_) (fun h5 => ?_)
          · have h5 := yB_0.mp h5
            have hf := yBf h5 hf
            refine lv_iinc (k := 3) (v := (nI x - 1)) (lv' := [(3, .int (nI x - 1)), (0, .ref (pa 0)), (1, .ref (sa 0)), (2, .int kd)]) hx hb dX1_placeKind_105 hl rfl (yy_dec _) (by decide) rfl (fun ls hl => ?_)
            refine lv_goto (tgt := 3) hx hb dX1_placeKind_108 (by decide) ?_
            exact ih pk _ _ _ (by omega) (by (try dsimp only) <;> omega) hf (lv_sub hl [1, 2, 3, 0] rfl) hP hD hS
          · have h5 := yB_1 h5
            have hf := yBt h5 hf
            refine lv_aload_n hx hb dX1_placeKind_36 rfl (lv_at hl 0 rfl) ?_
            refine va_get (D := D) (ci := 1) (v := .int (nI pk.2.2.2.2.1)) (C := RX1) (T := TX1) (N := 6) hx hb hts (yy_tl inX1) hown hK hP 0 rfl rfl 4 (by decide) (hw _ wq_131) (fun _ h9 => h9) rfl dX1_placeKind_37 ?_
            refine lv_istore (lv' := [(4, .int (nI pk.2.2.2.2.1)), (0, .ref (pa 0)), (1, .ref (sa 0)), (2, .int kd), (3, .int (nI x))]) hx hb dX1_placeKind_40 hl (by decide) rfl (fun ls hl => ?_)
            refine lv_aload_n hx hb dX1_placeKind_42 rfl (lv_at hl 1 rfl) ?_
            refine va_get (D := D) (ci := 1) (v := .ref (pa 1)) (C := RX1) (T := TX1) (N := 6) hx hb hts (yy_tl inX1) hown hK hP 0 rfl rfl 0 (by decide) (hw _ wq_127) (fun _ h9 => h9) rfl dX1_placeKind_43 ?_
            refine lv_iload hx hb dX1_placeKind_46 (lv_at hl 0 rfl) ?_
            refine lv_iload_n hx hb dX1_placeKind_48 rfl (lv_at hl 4 rfl) ?_
            refine yr_iast hx hb hK hP hD hS 1 0 (f := pk.1) (j := pk.2.2.2.2.1) rfl rfl rfl (by omega) (by decide) dX1_placeKind_49 (fun H locs hP hD hS => ?_)
            have hP : va_P D vwCl (pkW cI pa (upd pk.1 pk.2.2.2.2.1 (nI x), pk.2.1, pk.2.2.1, pk.2.2.2.1, pk.2.2.2.2.1, pk.2.2.2.2.2) ++ stW cI cJ sa so) H := hP
            have hD : va_D A (pkW cI pa (upd pk.1 pk.2.2.2.2.1 (nI x), pk.2.1, pk.2.2.1, pk.2.2.2.1, pk.2.2.2.2.1, pk.2.2.2.2.2) ++ stW cI cJ sa so) := hD
            refine lv_aload_n hx hb dX1_placeKind_50 rfl (lv_at hl 1 rfl) ?_
            refine va_get (D := D) (ci := 1) (v := .ref (pa 2)) (C := RX1) (T := TX1) (N := 6) hx hb hts (yy_tl inX1) hown hK hP 0 rfl rfl 1 (by decide) (hw _ wq_128) (fun _ h9 => h9) rfl dX1_placeKind_51 ?_
            refine lv_iload hx hb dX1_placeKind_54 (lv_at hl 0 rfl) ?_
            refine lv_bipush (v := (-4)) hx hb dX1_placeKind_56 (by decide) ?_
            refine yr_iast hx hb hK hP hD hS 2 0 (f := pk.2.1) (j := pk.2.2.2.2.1) rfl rfl rfl (by omega) (by decide) dX1_placeKind_58 (fun H locs hP hD hS => ?_)
            have hP : va_P D vwCl (pkW cI pa (upd pk.1 pk.2.2.2.2.1 (nI x), upd pk.2.1 pk.2.2.2.2.1 (-4), pk.2.2.1, pk.2.2.2.1, pk.2.2.2.2.1, pk.2.2.2.2.2) ++ stW cI cJ sa so) H := hP
            have hD : va_D A (pkW cI pa (upd pk.1 pk.2.2.2.2.1 (nI x), upd pk.2.1 pk.2.2.2.2.1 (-4), pk.2.2.1, pk.2.2.2.1, pk.2.2.2.2.1, pk.2.2.2.2.2) ++ stW cI cJ sa so) := hD
            refine lv_aload_n hx hb dX1_placeKind_59 rfl (lv_at hl 1 rfl) ?_
            refine va_get (D := D) (ci := 1) (v := .ref (pa 3)) (C := RX1) (T := TX1) (N := 6) hx hb hts (yy_tl inX1) hown hK hP 0 rfl rfl 2 (by decide) (hw _ wq_129) (fun _ h9 => h9) rfl dX1_placeKind_60 ?_
            refine lv_iload hx hb dX1_placeKind_63 (lv_at hl 0 rfl) ?_
            refine lv_iconst (v := 0) hx hb dX1_placeKind_65 (by decide) ?_
            refine yr_iast hx hb hK hP hD hS 3 0 (f := pk.2.2.1) (j := pk.2.2.2.2.1) rfl rfl rfl (by omega) (by decide) dX1_placeKind_66 (fun H locs hP hD hS => ?_)
            have hP : va_P D vwCl (pkW cI pa (upd pk.1 pk.2.2.2.2.1 (nI x), upd pk.2.1 pk.2.2.2.2.1 (-4), upd pk.2.2.1 pk.2.2.2.2.1 0, pk.2.2.2.1, pk.2.2.2.2.1, pk.2.2.2.2.2) ++ stW cI cJ sa so) H := hP
            have hD : va_D A (pkW cI pa (upd pk.1 pk.2.2.2.2.1 (nI x), upd pk.2.1 pk.2.2.2.2.1 (-4), upd pk.2.2.1 pk.2.2.2.2.1 0, pk.2.2.2.1, pk.2.2.2.2.1, pk.2.2.2.2.2) ++ stW cI cJ sa so) := hD
            refine lv_aload_n hx hb dX1_placeKind_67 rfl (lv_at hl 1 rfl) ?_
            refine lv_dup hx hb dX1_placeKind_68 rfl ?_
            refine va_get (D := D) (ci := 1) (v := .int pk.2.2.2.2.2) (C := RX1) (T := TX1) (N := 6) hx hb hts (yy_tl inX1) hown hK hP 0 rfl rfl 5 (by decide) (hw _ wq_132) (fun _ h9 => h9) rfl dX1_placeKind_69 ?_
            refine lv_iload_n hx hb dX1_placeKind_72 rfl (lv_at hl 3 rfl) ?_
            refine lv_if_ne (tgt := 86) hx hb dX1_placeKind_73 (by decide) (fun h6 => ?_) (fun h6 => ?_)
            · have hf := yf h6 hf
              refine lv_iconst (v := 1) hx hb dX1_placeKind_86 (by decide) ?_
              refine lv_aload_n hx hb dX1_placeKind_87 rfl (lv_at hl 2 rfl) ?_
              refine lv_iload_n hx hb dX1_placeKind_88 rfl (lv_at hl 4 rfl) ?_
              obtain ⟨r7, er7⟩ : ∃ r, r = st_partsOf (nI x) so := ⟨_, rfl⟩
              have hf := yb_e er7 hf
              refine yz_callV (As := [.int (nI x)]) (rest := [.int 1, .int pk.2.2.2.2.2, .ref (pa 0)]) ⟨hx, hb, hml, hown, hts⟩ (c_st_partsOf l D cI cJ cZ cN sa (nI x) so (by (try dsimp only) <;> omega) r7 er7) ⟨callB_of 1 hts (yy_good wq_343) rfl rfl rfl (hw _ wq_35) (hw _ wq_340) (by decide +kernel) ⟨Nat.le_of_ble_eq_true rfl, Nat.le_of_ble_eq_true rfl⟩, hw _ wq_341, hw _ wq_342⟩ hK hN hP hD hS hA [4, 5, 6, 7, 8, 9] rfl (by decide) rfl 10 rfl (w2 := (pkW cI pa (upd pk.1 pk.2.2.2.2.1 (nI x), upd pk.2.1 pk.2.2.2.2.1 (-4), upd pk.2.2.1 pk.2.2.2.2.1 0, pk.2.2.2.1, pk.2.2.2.2.1, pk.2.2.2.2.2) ++ stW cI cJ sa so)) rfl 4 rfl rfl rfl hl.1 rfl (Nat.le_of_ble_eq_true rfl) dX1_placeKind_89 ⟨Nat.zero_le _, Nat.zero_le _⟩ (fun H locs hP hD hS => ?_)
              refine W.eq (g2 := F0 m 92 ls [.int r7, .int 1, .int pk.2.2.2.2.2, .ref (pa 0)]) rfl ?_
              refine lv_iadd hx hb dX1_placeKind_92 ?_
              refine lv_iadd hx hb dX1_placeKind_93 ?_
              refine va_put (D := D) (ci := 1) (v := .int (pk.2.2.2.2.2 + (1 + r7))) (ty := .int) (C := RX1) (T := TX1) (N := 6) hx hb hts (yy_tl inX1) tyX1 tyX1_ok nX1 hown hK hP hD hS 0 rfl rfl 5 (by decide) (hw _ wq_132) (fun _ h9 => h9) rfl (by decide +kernel) rfl rfl (Nat.le_of_ble_eq_true rfl) dX1_placeKind_94 (fun H locs hP hD hS => ?_)
              have hP : va_P D vwCl (pkW cI pa (upd pk.1 pk.2.2.2.2.1 (nI x), upd pk.2.1 pk.2.2.2.2.1 (-4), upd pk.2.2.1 pk.2.2.2.2.1 0, pk.2.2.2.1, pk.2.2.2.2.1, (pk.2.2.2.2.2 + (1 + r7))) ++ stW cI cJ sa so) H := hP
              have hD : va_D A (pkW cI pa (upd pk.1 pk.2.2.2.2.1 (nI x), upd pk.2.1 pk.2.2.2.2.1 (-4), upd pk.2.2.1 pk.2.2.2.2.1 0, pk.2.2.2.1, pk.2.2.2.2.1, (pk.2.2.2.2.2 + (1 + r7))) ++ stW cI cJ sa so) := hD
              refine lv_aload_n hx hb dX1_placeKind_97 rfl (lv_at hl 1 rfl) ?_
              refine lv_iload hx hb dX1_placeKind_98 (lv_at hl 0 rfl) ?_
              refine lv_iconst (v := (nI 1)) hx hb dX1_placeKind_100 (by decide) ?_
              refine yr_iaddN hx hb dX1_placeKind_101 ?_
              refine va_put (D := D) (ci := 1) (v := .int (nI (pk.2.2.2.2.1 + 1))) (ty := .int) (C := RX1) (T := TX1) (N := 6) hx hb hts (yy_tl inX1) tyX1 tyX1_ok nX1 hown hK hP hD hS 0 rfl rfl 4 (by decide) (hw _ wq_131) (fun _ h9 => h9) rfl (by decide +kernel) rfl rfl (Nat.le_of_ble_eq_true rfl) dX1_placeKind_102 (fun H locs hP hD hS => ?_)
              have hP : va_P D vwCl (pkW cI pa (upd pk.1 pk.2.2.2.2.1 (nI x), upd pk.2.1 pk.2.2.2.2.1 (-4), upd pk.2.2.1 pk.2.2.2.2.1 0, pk.2.2.2.1, pk.2.2.2.2.1 + 1, (pk.2.2.2.2.2 + (1 + r7))) ++ stW cI cJ sa so) H := hP
              have hD : va_D A (pkW cI pa (upd pk.1 pk.2.2.2.2.1 (nI x), upd pk.2.1 pk.2.2.2.2.1 (-4), upd pk.2.2.1 pk.2.2.2.2.1 0, pk.2.2.2.1, pk.2.2.2.2.1 + 1, (pk.2.2.2.2.2 + (1 + r7))) ++ stW cI cJ sa so) := hD
              refine lv_iinc (k := 4) (v := (nI x - 1)) (lv' := [(3, .int (nI x - 1)), (4, .int (nI pk.2.2.2.2.1)), (0, .ref (pa 0)), (1, .ref (sa 0)), (2, .int kd)]) hx hb dX1_placeKind_105 hl rfl (yy_dec _) (by decide) rfl (fun ls hl => ?_)
              refine lv_goto (tgt := 3) hx hb dX1_placeKind_108 (by decide) ?_
              exact ih (upd pk.1 pk.2.2.2.2.1 (nI x), upd pk.2.1 pk.2.2.2.2.1 (-4), upd pk.2.2.1 pk.2.2.2.2.1 0, pk.2.2.2.1, pk.2.2.2.2.1 + 1, (pk.2.2.2.2.2 + (1 + r7))) _ _ _ (by omega) (by (try dsimp only) <;> omega) hf (lv_sub hl [2, 3, 4, 0] rfl) hP hD hS
            · have hf := yt h6 hf
              refine lv_aload_n hx hb dX1_placeKind_76 rfl (lv_at hl 1 rfl) ?_
              refine lv_aload_n hx hb dX1_placeKind_77 rfl (lv_at hl 2 rfl) ?_
              refine lv_iload hx hb dX1_placeKind_78 (lv_at hl 0 rfl) ?_
              obtain ⟨r8, er8⟩ : ∃ r, r = pk_chooseBase pk.2.2.2.2.1 (upd pk.1 pk.2.2.2.2.1 (nI x), upd pk.2.1 pk.2.2.2.2.1 (-4), upd pk.2.2.1 pk.2.2.2.2.1 0, pk.2.2.2.1, pk.2.2.2.2.1, pk.2.2.2.2.2) so := ⟨_, rfl⟩
              have hf := yb_e er8 hf
              refine yz_callV (As := [.ref (sa 0), .int (nI pk.2.2.2.2.1)]) (rest := [.int pk.2.2.2.2.2, .ref (pa 0)]) ⟨hx, hb, hml, hown, hts⟩ (c_pk_chooseBase l D cI cJ cZ cN pa sa pk.2.2.2.2.1 (upd pk.1 pk.2.2.2.2.1 (nI x), upd pk.2.1 pk.2.2.2.2.1 (-4), upd pk.2.2.1 pk.2.2.2.2.1 0, pk.2.2.2.1, pk.2.2.2.2.1, pk.2.2.2.2.2) so (by (try dsimp only) <;> omega) (by (try dsimp only) <;> omega) r8 er8) ⟨callB_of 2 hts (yy_good wq_332) rfl rfl rfl (hw _ wq_38) (hw _ wq_329) (by decide +kernel) ⟨Nat.le_of_ble_eq_true rfl, Nat.le_of_ble_eq_true rfl⟩, hw _ wq_331, hw _ wq_10⟩ hK hN hP hD hS hA [0, 1, 2, 3, 4, 5, 6, 7, 8, 9] rfl (by decide) rfl 10 rfl (w2 := (pkW cI pa r8.2 ++ stW cI cJ sa so)) rfl 0 rfl rfl rfl hl.1 rfl (Nat.le_of_ble_eq_true rfl) dX1_placeKind_80 ⟨Nat.zero_le _, Nat.zero_le _⟩ (fun H locs hP hD hS => ?_)
              refine W.eq (g2 := F0 m 83 ls [.int r8.1, .int pk.2.2.2.2.2, .ref (pa 0)]) rfl ?_
              refine lv_goto (tgt := 93) hx hb dX1_placeKind_83 (by decide) ?_
              refine lv_iadd hx hb dX1_placeKind_93 ?_
              refine va_put (D := D) (ci := 1) (v := .int (pk.2.2.2.2.2 + r8.1)) (ty := .int) (C := RX1) (T := TX1) (N := 6) hx hb hts (yy_tl inX1) tyX1 tyX1_ok nX1 hown hK hP hD hS 0 rfl rfl 5 (by decide) (hw _ wq_132) (fun _ h9 => h9) rfl (by decide +kernel) rfl rfl (Nat.le_of_ble_eq_true rfl) dX1_placeKind_94 (fun H locs hP hD hS => ?_)
              have hP : va_P D vwCl (pkW cI pa (r8.2.1, r8.2.2.1, r8.2.2.2.1, r8.2.2.2.2.1, r8.2.2.2.2.2.1, (pk.2.2.2.2.2 + r8.1)) ++ stW cI cJ sa so) H := hP
              have hD : va_D A (pkW cI pa (r8.2.1, r8.2.2.1, r8.2.2.2.1, r8.2.2.2.2.1, r8.2.2.2.2.2.1, (pk.2.2.2.2.2 + r8.1)) ++ stW cI cJ sa so) := hD
              refine lv_aload_n hx hb dX1_placeKind_97 rfl (lv_at hl 1 rfl) ?_
              refine lv_iload hx hb dX1_placeKind_98 (lv_at hl 0 rfl) ?_
              refine lv_iconst (v := (nI 1)) hx hb dX1_placeKind_100 (by decide) ?_
              refine yr_iaddN hx hb dX1_placeKind_101 ?_
              refine va_put (D := D) (ci := 1) (v := .int (nI (pk.2.2.2.2.1 + 1))) (ty := .int) (C := RX1) (T := TX1) (N := 6) hx hb hts (yy_tl inX1) tyX1 tyX1_ok nX1 hown hK hP hD hS 0 rfl rfl 4 (by decide) (hw _ wq_131) (fun _ h9 => h9) rfl (by decide +kernel) rfl rfl (Nat.le_of_ble_eq_true rfl) dX1_placeKind_102 (fun H locs hP hD hS => ?_)
              have hP : va_P D vwCl (pkW cI pa (r8.2.1, r8.2.2.1, r8.2.2.2.1, r8.2.2.2.2.1, pk.2.2.2.2.1 + 1, (pk.2.2.2.2.2 + r8.1)) ++ stW cI cJ sa so) H := hP
              have hD : va_D A (pkW cI pa (r8.2.1, r8.2.2.1, r8.2.2.2.1, r8.2.2.2.2.1, pk.2.2.2.2.1 + 1, (pk.2.2.2.2.2 + r8.1)) ++ stW cI cJ sa so) := hD
              refine lv_iinc (k := 4) (v := (nI x - 1)) (lv' := [(3, .int (nI x - 1)), (4, .int (nI pk.2.2.2.2.1)), (0, .ref (pa 0)), (1, .ref (sa 0)), (2, .int kd)]) hx hb dX1_placeKind_105 hl rfl (yy_dec _) (by decide) rfl (fun ls hl => ?_)
              refine lv_goto (tgt := 3) hx hb dX1_placeKind_108 (by decide) ?_
              exact ih (r8.2.1, r8.2.2.1, r8.2.2.2.1, r8.2.2.2.2.1, pk.2.2.2.2.1 + 1, (pk.2.2.2.2.2 + r8.1)) _ _ _ (by omega) (by (try dsimp only) <;> omega) hf (lv_sub hl [2, 3, 4, 0] rfl) hP hD hS
  rw [pk_placeKind] at hf
  refine lv_bipush (v := (nI 60 - 1)) hx hb dX1_placeKind_0 (by decide) ?_
  refine lv_istore_n (lv' := [(3, .int (nI 60 - 1)), (0, .ref (pa 0)), (1, .ref (sa 0)), (2, .int kd)]) hx hb dX1_placeKind_2 rfl hl (by decide) rfl (fun ls hl => ?_)
  exact hL3 60 pk _ _ _ (by omega) hp hf (lv_sub hl [1, 2, 3, 0] rfl) hP hD hS

set_option maxHeartbeats 4000000 in
set_option maxRecDepth 100000 in
theorem c_pk_fill (l : Launch) (D : va_G) (cI cJ cZ cN : ClassId) (pa : Nat → Nat) (sa : Nat → Nat) (newm : Int64) (pk : PS) (so : SS) (hs : so.2.2.2.2.2 ≤ 60) (res : PS) (hf : res = pk_fill newm pk so) : yy_Met l yX1_fill wsX1_fill { frames := 4, cells := 0, slots := 0, locals := 93 } D vwCl (yT cI cJ cZ cN) [.ref (pa 0), .ref (sa 0), .long newm] (pkW cI pa pk ++ stW cI cJ sa so) none (pkW cI pa res ++ stW cI cJ sa so) := by
  intro sz
  refine Met.ofW (cc := cX1_fill) (maxL := 4) (ret := none) (by decide) rfl ?_
  intro p e s m args below meth c s₁ B hml hv
  obtain ⟨rfl, hsz, hP, hK, hD0, hN⟩ := hv
  have hx := B.exec
  have hb := B.bytes
  have hr := B.returns
  have hts := atoms_spec (ws := wsX1_fill) B.pre
  have hw : ∀ w ∈ yW, w.before _ s = true := fun w h => hts w (List.mem_cons_of_mem _ h)
  have hown : s.vm.findClass RX1 = some m.cls := findClass_of_methodNamed B.named
  have hlocks := B.notSynchronized
  subst hsz
  have hD := hD0.self (sz := s.heap.size)
  generalize hAe : va_A (pkW cI pa pk ++ stW cI cJ sa so) s.heap.size = A at hD ⊢
  have hA : ∀ q : Nat, s.heap.size ≤ q → A q := fun q h => by rw [← hAe]; exact Or.inr h
  have hS : va_S A s.heap s.heap [] := va_S.rf
  have hl := lv_entry ([.ref (pa 0), .ref (sa 0), .long newm]) (n := 4) (Nat.le_of_ble_eq_true rfl)
  rw [lg_entry_eq]
  generalize (lg_sl ([.ref (pa 0), .ref (sa 0), .long newm]) ++ List.replicate (4 - (lg_sl ([.ref (pa 0), .ref (sa 0), .long newm])).length) Slot.unset).toArray = ls at hl ⊢
  have hl : lv_has ls 4 [(0, .ref (pa 0)), (1, .ref (sa 0)), (2, .long newm)] := hl
  rw [pk_fill] at hf
  refine lv_aload_n hx hb dX1_fill_0 rfl (lv_at hl 0 rfl) ?_
  refine lv_lload_n hx hb dX1_fill_1 rfl (lv_at hl 2 rfl) ?_
  refine va_put (D := D) (ci := 1) (v := .long newm) (ty := .long) (C := RX1) (T := TX1) (N := 6) hx hb hts (yy_tl inX1) tyX1 tyX1_ok nX1 hown hK hP hD hS 0 rfl rfl 3 (by decide) (hw _ wq_130) (fun _ h9 => h9) rfl (by decide +kernel) rfl rfl (Nat.le_of_ble_eq_true rfl) dX1_fill_2 (fun H locs hP hD hS => ?_)
  have hP : va_P D vwCl (pkW cI pa (pk.1, pk.2.1, pk.2.2.1, newm, pk.2.2.2.2.1, pk.2.2.2.2.2) ++ stW cI cJ sa so) H := hP
  have hD : va_D A (pkW cI pa (pk.1, pk.2.1, pk.2.2.1, newm, pk.2.2.2.2.1, pk.2.2.2.2.2) ++ stW cI cJ sa so) := hD
  refine lv_aload_n hx hb dX1_fill_5 rfl (lv_at hl 0 rfl) ?_
  refine lv_iconst (v := (nI 0)) hx hb dX1_fill_6 (by decide) ?_
  refine va_put (D := D) (ci := 1) (v := .int (nI 0)) (ty := .int) (C := RX1) (T := TX1) (N := 6) hx hb hts (yy_tl inX1) tyX1 tyX1_ok nX1 hown hK hP hD hS 0 rfl rfl 4 (by decide) (hw _ wq_131) (fun _ h9 => h9) rfl (by decide +kernel) rfl rfl (Nat.le_of_ble_eq_true rfl) dX1_fill_7 (fun H locs hP hD hS => ?_)
  have hP : va_P D vwCl (pkW cI pa (pk.1, pk.2.1, pk.2.2.1, newm, 0, pk.2.2.2.2.2) ++ stW cI cJ sa so) H := hP
  have hD : va_D A (pkW cI pa (pk.1, pk.2.1, pk.2.2.1, newm, 0, pk.2.2.2.2.2) ++ stW cI cJ sa so) := hD
  refine lv_aload_n hx hb dX1_fill_10 rfl (lv_at hl 0 rfl) ?_
  refine lv_iconst (v := 0) hx hb dX1_fill_11 (by decide) ?_
  refine va_put (D := D) (ci := 1) (v := .int 0) (ty := .int) (C := RX1) (T := TX1) (N := 6) hx hb hts (yy_tl inX1) tyX1 tyX1_ok nX1 hown hK hP hD hS 0 rfl rfl 5 (by decide) (hw _ wq_132) (fun _ h9 => h9) rfl (by decide +kernel) rfl rfl (Nat.le_of_ble_eq_true rfl) dX1_fill_12 (fun H locs hP hD hS => ?_)
  have hP : va_P D vwCl (pkW cI pa (pk.1, pk.2.1, pk.2.2.1, newm, 0, 0) ++ stW cI cJ sa so) H := hP
  have hD : va_D A (pkW cI pa (pk.1, pk.2.1, pk.2.2.1, newm, 0, 0) ++ stW cI cJ sa so) := hD
  refine lv_aload_n hx hb dX1_fill_15 rfl (lv_at hl 0 rfl) ?_
  refine lv_aload_n hx hb dX1_fill_16 rfl (lv_at hl 1 rfl) ?_
  refine lv_iconst (v := 2) hx hb dX1_fill_17 (by decide) ?_
  obtain ⟨r1, er1⟩ : ∃ r, r = pk_placeKind 2 (pk.1, pk.2.1, pk.2.2.1, newm, 0, 0) so := ⟨_, rfl⟩
  have hf := yb_e er1 hf
  refine yz_callV (As := [.ref (sa 0), .int 2]) (rest := []) ⟨hx, hb, hml, hown, hts⟩ (c_pk_placeKind l D cI cJ cZ cN pa sa 2 (pk.1, pk.2.1, pk.2.2.1, newm, 0, 0) so (by (try dsimp only) <;> omega) (by (try dsimp only) <;> omega) r1 er1) ⟨callB_of 2 hts (yy_good wq_326) rfl rfl rfl (hw _ wq_38) (hw _ wq_323) (by decide +kernel) ⟨Nat.le_of_ble_eq_true rfl, Nat.le_of_ble_eq_true rfl⟩, hw _ wq_325, hw _ wq_9⟩ hK hN hP hD hS hA [0, 1, 2, 3, 4, 5, 6, 7, 8, 9] rfl (by decide) rfl 10 rfl (w2 := (pkW cI pa r1 ++ stW cI cJ sa so)) rfl 0 rfl rfl rfl hl.1 rfl (Nat.le_of_ble_eq_true rfl) dX1_fill_18 ⟨Nat.zero_le _, Nat.zero_le _⟩ (fun H locs hP hD hS => ?_)
  refine W.eq (g2 := F0 m 21 ls []) rfl ?_
  refine lv_aload_n hx hb dX1_fill_21 rfl (lv_at hl 0 rfl) ?_
  refine lv_aload_n hx hb dX1_fill_22 rfl (lv_at hl 1 rfl) ?_
  refine lv_iconst (v := 1) hx hb dX1_fill_23 (by decide) ?_
  obtain ⟨r2, er2⟩ : ∃ r, r = pk_placeKind 1 r1 so := ⟨_, rfl⟩
  have hf := yb_e er2 hf
  refine yz_callV (As := [.ref (sa 0), .int 1]) (rest := []) ⟨hx, hb, hml, hown, hts⟩ (c_pk_placeKind l D cI cJ cZ cN pa sa 1 r1 so (pk_placeKind_le ‹_ = pk_placeKind 2 _ _› (Nat.zero_le _)) hs r2 er2) ⟨callB_of 2 hts (yy_good wq_326) rfl rfl rfl (hw _ wq_38) (hw _ wq_323) (by decide +kernel) ⟨Nat.le_of_ble_eq_true rfl, Nat.le_of_ble_eq_true rfl⟩, hw _ wq_325, hw _ wq_9⟩ hK hN hP hD hS hA [0, 1, 2, 3, 4, 5, 6, 7, 8, 9] rfl (by decide) rfl 10 rfl (w2 := (pkW cI pa r2 ++ stW cI cJ sa so)) rfl 0 rfl rfl rfl hl.1 rfl (Nat.le_of_ble_eq_true rfl) dX1_fill_24 ⟨Nat.zero_le _, Nat.zero_le _⟩ (fun H locs hP hD hS => ?_)
  refine W.eq (g2 := F0 m 27 ls []) rfl ?_
  refine lv_aload_n hx hb dX1_fill_27 rfl (lv_at hl 0 rfl) ?_
  refine lv_aload_n hx hb dX1_fill_28 rfl (lv_at hl 1 rfl) ?_
  refine lv_iconst (v := 0) hx hb dX1_fill_29 (by decide) ?_
  obtain ⟨r3, er3⟩ : ∃ r, r = pk_placeKind 0 r2 so := ⟨_, rfl⟩
  have hf := yb_e er3 hf
  refine yz_callV (As := [.ref (sa 0), .int 0]) (rest := []) ⟨hx, hb, hml, hown, hts⟩ (c_pk_placeKind l D cI cJ cZ cN pa sa 0 r2 so (pk_placeKind_le ‹_ = pk_placeKind 1 _ _› (pk_placeKind_le ‹_ = pk_placeKind 2 _ _› (Nat.zero_le _))) hs r3 er3) ⟨callB_of 2 hts (yy_good wq_326) rfl rfl rfl (hw _ wq_38) (hw _ wq_323) (by decide +kernel) ⟨Nat.le_of_ble_eq_true rfl, Nat.le_of_ble_eq_true rfl⟩, hw _ wq_325, hw _ wq_9⟩ hK hN hP hD hS hA [0, 1, 2, 3, 4, 5, 6, 7, 8, 9] rfl (by decide) rfl 10 rfl (w2 := (pkW cI pa r3 ++ stW cI cJ sa so)) rfl 0 rfl rfl rfl hl.1 rfl (Nat.le_of_ble_eq_true rfl) dX1_fill_30 ⟨Nat.zero_le _, Nat.zero_le _⟩ (fun H locs hP hD hS => ?_)
  refine W.eq (g2 := F0 m 33 ls []) rfl ?_
  subst hf
  exact yy_vret hx hb hr hP hK hS hlocks dX1_fill_33
