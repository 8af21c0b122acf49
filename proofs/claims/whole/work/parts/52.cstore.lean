set_option maxHeartbeats 4000000 in
set_option maxRecDepth 100000 in
theorem c_st_isFull (l : Launch) (D : va_G) (cI cJ cZ cN : ClassId) (sa : Nat → Nat) (so : SS)  (res : Bool) (hf : res = st_isFull so) : yy_Met l yX2_isFull wsX2_isFull { frames := 0, cells := 0, slots := 0, locals := 0 } D vwCl (yT cI cJ cZ cN) [.ref (sa 0)] (stW cI cJ sa so) (some (.int (yB res))) (stW cI cJ sa so) := by
  intro sz
  refine Met.ofW (cc := cX2_isFull) (maxL := 1) (ret := (some .boolean)) (by decide) rfl ?_
  intro p e s m args below meth c s₁ B hml hv
  obtain ⟨rfl, hsz, hP, hK, hD0, hN⟩ := hv
  have hx := B.exec
  have hb := B.bytes
  have hr := B.returns
  have hts := atoms_spec (ws := wsX2_isFull) B.pre
  have hw : ∀ w ∈ yW, w.before _ s = true := fun w h => hts w (List.mem_cons_of_mem _ h)
  have hown : s.vm.findClass RX2 = some m.cls := findClass_of_methodNamed B.named
  have hlocks := B.notSynchronized
  subst hsz
  have hD := hD0.self (sz := s.heap.size)
  generalize hAe : va_A (stW cI cJ sa so) s.heap.size = A at hD ⊢
  have hA : ∀ q : Nat, s.heap.size ≤ q → A q := fun q h => by rw [← hAe]; exact Or.inr h
  have hS : va_S A s.heap s.heap [] := va_S.rf
  have hl := lv_entry ([.ref (sa 0)]) (n := 1) (Nat.le_of_ble_eq_true rfl)
  rw [lg_entry_eq]
  generalize (lg_sl ([.ref (sa 0)]) ++ List.replicate (1 - (lg_sl ([.ref (sa 0)])).length) Slot.unset).toArray = ls at hl ⊢
  have hl : lv_has ls 1 [(0, .ref (sa 0))] := hl
  rw [st_isFull] at hf
  refine lv_aload_n hx hb dX2_isFull_0 rfl (lv_at hl 0 rfl) ?_
  refine va_get (D := D) (ci := 2) (v := .int (nI so.2.2.2.2.2)) (C := RX2) (T := TX2) (N := 6) hx hb hts (yy_tl inX2) hown hK hP 0 rfl rfl 5 (by decide) (hw _ wq_60) (fun _ h9 => h9) rfl dX2_isFull_1 ?_
  refine lv_bipush (v := 60) hx hb dX2_isFull_4 (by decide) ?_
  refine lv_icmp_lt (tgt := 13) hx hb dX2_isFull_6 (by decide) (fun h1 => ?_) (fun h1 => ?_)
  · have hf := yt h1 hf
    refine lv_iconst (v := 0) hx hb dX2_isFull_13 (by decide) ?_
    subst hf
    exact yy_zret (v := yB false) hx hb hr (yB_n _) hP hK hS hlocks dX2_isFull_14
  · have hf := yf h1 hf
    refine lv_iconst (v := 1) hx hb dX2_isFull_9 (by decide) ?_
    refine lv_goto (tgt := 14) hx hb dX2_isFull_10 (by decide) ?_
    subst hf
    exact yy_zret (v := yB true) hx hb hr (yB_n _) hP hK hS hlocks dX2_isFull_14

set_option maxHeartbeats 4000000 in
set_option maxRecDepth 100000 in
theorem c_st_isNumber (l : Launch) (D : va_G) (cI cJ cZ cN : ClassId) (sa : Nat → Nat) (num : Int32) (so : SS)  (res : Bool) (hf : res = st_isNumber num so) : yy_Met l yX2_isNumber wsX2_isNumber { frames := 0, cells := 0, slots := 0, locals := 0 } D vwCl (yT cI cJ cZ cN) [.ref (sa 0), .int num] (stW cI cJ sa so) (some (.int (yB res))) (stW cI cJ sa so) := by
  intro sz
  refine Met.ofW (cc := cX2_isNumber) (maxL := 2) (ret := (some .boolean)) (by decide) rfl ?_
  intro p e s m args below meth c s₁ B hml hv
  obtain ⟨rfl, hsz, hP, hK, hD0, hN⟩ := hv
  have hx := B.exec
  have hb := B.bytes
  have hr := B.returns
  have hts := atoms_spec (ws := wsX2_isNumber) B.pre
  have hw : ∀ w ∈ yW, w.before _ s = true := fun w h => hts w (List.mem_cons_of_mem _ h)
  have hown : s.vm.findClass RX2 = some m.cls := findClass_of_methodNamed B.named
  have hlocks := B.notSynchronized
  subst hsz
  have hD := hD0.self (sz := s.heap.size)
  generalize hAe : va_A (stW cI cJ sa so) s.heap.size = A at hD ⊢
  have hA : ∀ q : Nat, s.heap.size ≤ q → A q := fun q h => by rw [← hAe]; exact Or.inr h
  have hS : va_S A s.heap s.heap [] := va_S.rf
  have hl := lv_entry ([.ref (sa 0), .int num]) (n := 2) (Nat.le_of_ble_eq_true rfl)
  rw [lg_entry_eq]
  generalize (lg_sl ([.ref (sa 0), .int num]) ++ List.replicate (2 - (lg_sl ([.ref (sa 0), .int num])).length) Slot.unset).toArray = ls at hl ⊢
  have hl : lv_has ls 2 [(0, .ref (sa 0)), (1, .int num)] := hl
  rw [st_isNumber] at hf
  refine lv_iload_n hx hb dX2_isNumber_0 rfl (lv_at hl 1 rfl) ?_
  refine lv_if_lt (tgt := 16) hx hb dX2_isNumber_1 (by decide) (fun h1 => ?_) (fun h1 => ?_)
  · have hf := yt h1 hf
    refine lv_iconst (v := 0) hx hb dX2_isNumber_16 (by decide) ?_
    subst hf
    exact yy_zret (v := yB false) hx hb hr (yB_n _) hP hK hS hlocks dX2_isNumber_17
  · have hf := yf h1 hf
    refine lv_iload_n hx hb dX2_isNumber_4 rfl (lv_at hl 1 rfl) ?_
    refine lv_aload_n hx hb dX2_isNumber_5 rfl (lv_at hl 0 rfl) ?_
    refine va_get (D := D) (ci := 2) (v := .int (nI so.2.2.2.2.2)) (C := RX2) (T := TX2) (N := 6) hx hb hts (yy_tl inX2) hown hK hP 0 rfl rfl 5 (by decide) (hw _ wq_60) (fun _ h9 => h9) rfl dX2_isNumber_6 ?_
    refine lv_icmp_ge (tgt := 16) hx hb dX2_isNumber_9 (by decide) (fun h2 => ?_) (fun h2 => ?_)
    · have hf := yt h2 hf
      refine lv_iconst (v := 0) hx hb dX2_isNumber_16 (by decide) ?_
      subst hf
      exact yy_zret (v := yB false) hx hb hr (yB_n _) hP hK hS hlocks dX2_isNumber_17
    · have hf := yf h2 hf
      refine lv_iconst (v := 1) hx hb dX2_isNumber_12 (by decide) ?_
      refine lv_goto (tgt := 17) hx hb dX2_isNumber_13 (by decide) ?_
      subst hf
      exact yy_zret (v := yB true) hx hb hr (yB_n _) hP hK hS hlocks dX2_isNumber_17

set_option maxHeartbeats 4000000 in
set_option maxRecDepth 100000 in
theorem c_st_isOfKind (l : Launch) (D : va_G) (cI cJ cZ cN : ClassId) (sa : Nat → Nat) (num : Int32) (kd : Int32) (so : SS) (hs : so.2.2.2.2.2 ≤ 60) (res : Bool) (hf : res = st_isOfKind num kd so) : yy_Met l yX2_isOfKind wsX2_isOfKind { frames := 1, cells := 0, slots := 0, locals := 21 } D vwCl (yT cI cJ cZ cN) [.ref (sa 0), .int num, .int kd] (stW cI cJ sa so) (some (.int (yB res))) (stW cI cJ sa so) := by
  intro sz
  refine Met.ofW (cc := cX2_isOfKind) (maxL := 3) (ret := (some .boolean)) (by decide) rfl ?_
  intro p e s m args below meth c s₁ B hml hv
  obtain ⟨rfl, hsz, hP, hK, hD0, hN⟩ := hv
  have hx := B.exec
  have hb := B.bytes
  have hr := B.returns
  have hts := atoms_spec (ws := wsX2_isOfKind) B.pre
  have hw : ∀ w ∈ yW, w.before _ s = true := fun w h => hts w (List.mem_cons_of_mem _ h)
  have hown : s.vm.findClass RX2 = some m.cls := findClass_of_methodNamed B.named
  have hlocks := B.notSynchronized
  subst hsz
  have hD := hD0.self (sz := s.heap.size)
  generalize hAe : va_A (stW cI cJ sa so) s.heap.size = A at hD ⊢
  have hA : ∀ q : Nat, s.heap.size ≤ q → A q := fun q h => by rw [← hAe]; exact Or.inr h
  have hS : va_S A s.heap s.heap [] := va_S.rf
  have hl := lv_entry ([.ref (sa 0), .int num, .int kd]) (n := 3) (Nat.le_of_ble_eq_true rfl)
  rw [lg_entry_eq]
  generalize (lg_sl ([.ref (sa 0), .int num, .int kd]) ++ List.replicate (3 - (lg_sl ([.ref (sa 0), .int num, .int kd])).length) Slot.unset).toArray = ls at hl ⊢
  have hl : lv_has ls 3 [(0, .ref (sa 0)), (1, .int num), (2, .int kd)] := hl
  rw [st_isOfKind] at hf
  refine lv_aload_n hx hb dX2_isOfKind_0 rfl (lv_at hl 0 rfl) ?_
  refine lv_iload_n hx hb dX2_isOfKind_1 rfl (lv_at hl 1 rfl) ?_
  obtain ⟨r1, er1⟩ : ∃ r, r = st_isNumber num so := ⟨_, rfl⟩
  have hf := yb_e er1 hf
  refine yz_callV (As := [.int num]) (rest := []) ⟨hx, hb, hml, hown, hts⟩ (c_st_isNumber l D cI cJ cZ cN sa num so  r1 er1) ⟨callB_of 1 hts (yy_good wq_211) rfl rfl rfl (hw _ wq_35) (hw _ wq_208) (by decide +kernel) ⟨Nat.le_of_ble_eq_true rfl, Nat.le_of_ble_eq_true rfl⟩, hw _ wq_210, hw _ wq_1⟩ hK hN hP hD hS hA [0, 1, 2, 3, 4, 5] rfl (by decide) rfl 6 rfl (w2 := (stW cI cJ sa so)) rfl 0 rfl rfl rfl hl.1 rfl (Nat.le_of_ble_eq_true rfl) dX2_isOfKind_2 ⟨Nat.zero_le _, Nat.zero_le _⟩ (fun H locs hP hD hS => ?_)
  refine W.eq (g2 := F0 m 5 ls [.int (yB r1)]) rfl ?_
  refine lv_if_eq (tgt := 22) hx hb dX2_isOfKind_5 (by decide) (fun h2 => ?_) (fun h2 => ?_)
  · have h2 := yB_0.mp h2
    have hf := yBf h2 hf
    refine lv_iconst (v := 0) hx hb dX2_isOfKind_22 (by decide) ?_
    subst hf
    exact yy_zret (v := yB false) hx hb hr (yB_n _) hP hK hS hlocks dX2_isOfKind_23
  · have h2 := yB_1 h2
    have hf := yBt h2 hf
    refine lv_aload_n hx hb dX2_isOfKind_8 rfl (lv_at hl 0 rfl) ?_
    refine va_get (D := D) (ci := 2) (v := .ref (sa 1)) (C := RX2) (T := TX2) (N := 6) hx hb hts (yy_tl inX2) hown hK hP 0 rfl rfl 0 (by decide) (hw _ wq_55) (fun _ h9 => h9) rfl dX2_isOfKind_9 ?_
    refine lv_iload_n hx hb dX2_isOfKind_12 rfl (lv_at hl 1 rfl) ?_
    refine va_iald hx hb hK hP 1 0 (f := so.1) rfl rfl (st_isNumber_in ‹_ = st_isNumber num so› ‹_ = true› hs) dX2_isOfKind_13 ?_
    refine lv_iload_n hx hb dX2_isOfKind_14 rfl (lv_at hl 2 rfl) ?_
    refine lv_icmp_ne (tgt := 22) hx hb dX2_isOfKind_15 (by decide) (fun h3 => ?_) (fun h3 => ?_)
    · have hf := yf h3 hf
      refine lv_iconst (v := 0) hx hb dX2_isOfKind_22 (by decide) ?_
      subst hf
      exact yy_zret (v := yB false) hx hb hr (yB_n _) hP hK hS hlocks dX2_isOfKind_23
    · have hf := yt h3 hf
      refine lv_iconst (v := 1) hx hb dX2_isOfKind_18 (by decide) ?_
      refine lv_goto (tgt := 23) hx hb dX2_isOfKind_19 (by decide) ?_
      subst hf
      exact yy_zret (v := yB true) hx hb hr (yB_n _) hP hK hS hlocks dX2_isOfKind_23

set_option maxHeartbeats 4000000 in
set_option maxRecDepth 100000 in
theorem c_st_reachOf (l : Launch) (D : va_G) (cI cJ cZ cN : ClassId) (sa : Nat → Nat) (num : Int32) (so : SS) (hs : so.2.2.2.2.2 ≤ 60) (res : Int64) (hf : res = st_reachOf num so) : yy_Met l yX2_reachOf wsX2_reachOf { frames := 1, cells := 0, slots := 0, locals := 21 } D vwCl (yT cI cJ cZ cN) [.ref (sa 0), .int num] (stW cI cJ sa so) (some (.long res)) (stW cI cJ sa so) := by
  intro sz
  refine Met.ofW (cc := cX2_reachOf) (maxL := 2) (ret := (some .long)) (by decide) rfl ?_
  intro p e s m args below meth c s₁ B hml hv
  obtain ⟨rfl, hsz, hP, hK, hD0, hN⟩ := hv
  have hx := B.exec
  have hb := B.bytes
  have hr := B.returns
  have hts := atoms_spec (ws := wsX2_reachOf) B.pre
  have hw : ∀ w ∈ yW, w.before _ s = true := fun w h => hts w (List.mem_cons_of_mem _ h)
  have hown : s.vm.findClass RX2 = some m.cls := findClass_of_methodNamed B.named
  have hlocks := B.notSynchronized
  subst hsz
  have hD := hD0.self (sz := s.heap.size)
  generalize hAe : va_A (stW cI cJ sa so) s.heap.size = A at hD ⊢
  have hA : ∀ q : Nat, s.heap.size ≤ q → A q := fun q h => by rw [← hAe]; exact Or.inr h
  have hS : va_S A s.heap s.heap [] := va_S.rf
  have hl := lv_entry ([.ref (sa 0), .int num]) (n := 2) (Nat.le_of_ble_eq_true rfl)
  rw [lg_entry_eq]
  generalize (lg_sl ([.ref (sa 0), .int num]) ++ List.replicate (2 - (lg_sl ([.ref (sa 0), .int num])).length) Slot.unset).toArray = ls at hl ⊢
  have hl : lv_has ls 2 [(0, .ref (sa 0)), (1, .int num)] := hl
  rw [st_reachOf] at hf
  refine lv_aload_n hx hb dX2_reachOf_0 rfl (lv_at hl 0 rfl) ?_
  refine lv_iload_n hx hb dX2_reachOf_1 rfl (lv_at hl 1 rfl) ?_
  obtain ⟨r1, er1⟩ : ∃ r, r = st_isNumber num so := ⟨_, rfl⟩
  have hf := yb_e er1 hf
  refine yz_callV (As := [.int num]) (rest := []) ⟨hx, hb, hml, hown, hts⟩ (c_st_isNumber l D cI cJ cZ cN sa num so  r1 er1) ⟨callB_of 1 hts (yy_good wq_211) rfl rfl rfl (hw _ wq_35) (hw _ wq_208) (by decide +kernel) ⟨Nat.le_of_ble_eq_true rfl, Nat.le_of_ble_eq_true rfl⟩, hw _ wq_210, hw _ wq_1⟩ hK hN hP hD hS hA [0, 1, 2, 3, 4, 5] rfl (by decide) rfl 6 rfl (w2 := (stW cI cJ sa so)) rfl 0 rfl rfl rfl hl.1 rfl (Nat.le_of_ble_eq_true rfl) dX2_reachOf_2 ⟨Nat.zero_le _, Nat.zero_le _⟩ (fun H locs hP hD hS => ?_)
  refine W.eq (g2 := F0 m 5 ls [.int (yB r1)]) rfl ?_
  refine lv_if_eq (tgt := 17) hx hb dX2_reachOf_5 (by decide) (fun h2 => ?_) (fun h2 => ?_)
  · have h2 := yB_0.mp h2
    have hf := yBf h2 hf
    refine lv_lconst (v := 0) hx hb dX2_reachOf_17 (by decide) ?_
    subst hf
    exact yy_lret (v := 0) hx hb hr hP hK hS hlocks dX2_reachOf_18
  · have h2 := yB_1 h2
    have hf := yBt h2 hf
    refine lv_aload_n hx hb dX2_reachOf_8 rfl (lv_at hl 0 rfl) ?_
    refine va_get (D := D) (ci := 2) (v := .ref (sa 5)) (C := RX2) (T := TX2) (N := 6) hx hb hts (yy_tl inX2) hown hK hP 0 rfl rfl 4 (by decide) (hw _ wq_59) (fun _ h9 => h9) rfl dX2_reachOf_9 ?_
    refine lv_iload_n hx hb dX2_reachOf_12 rfl (lv_at hl 1 rfl) ?_
    refine va_lald hx hb hK hP 5 1 (f := so.2.2.2.2.1) rfl rfl (st_isNumber_in ‹_ = st_isNumber num so› ‹_ = true› hs) dX2_reachOf_13 ?_
    refine lv_goto (tgt := 18) hx hb dX2_reachOf_14 (by decide) ?_
    subst hf
    exact yy_lret (v := so.2.2.2.2.1 num.toNatClampNeg) hx hb hr hP hK hS hlocks dX2_reachOf_18

set_option maxHeartbeats 4000000 in
set_option maxRecDepth 100000 in
theorem c_st_contentOf (l : Launch) (D : va_G) (cI cJ cZ cN : ClassId) (sa : Nat → Nat) (num : Int32) (so : SS) (hs : so.2.2.2.2.2 ≤ 60) (res : Int32) (hf : res = st_contentOf num so) : yy_Met l yX2_contentOf wsX2_contentOf { frames := 1, cells := 0, slots := 0, locals := 21 } D vwCl (yT cI cJ cZ cN) [.ref (sa 0), .int num] (stW cI cJ sa so) (some (.int res)) (stW cI cJ sa so) := by
  intro sz
  refine Met.ofW (cc := cX2_contentOf) (maxL := 2) (ret := (some .int)) (by decide) rfl ?_
  intro p e s m args below meth c s₁ B hml hv
  obtain ⟨rfl, hsz, hP, hK, hD0, hN⟩ := hv
  have hx := B.exec
  have hb := B.bytes
  have hr := B.returns
  have hts := atoms_spec (ws := wsX2_contentOf) B.pre
  have hw : ∀ w ∈ yW, w.before _ s = true := fun w h => hts w (List.mem_cons_of_mem _ h)
  have hown : s.vm.findClass RX2 = some m.cls := findClass_of_methodNamed B.named
  have hlocks := B.notSynchronized
  subst hsz
  have hD := hD0.self (sz := s.heap.size)
  generalize hAe : va_A (stW cI cJ sa so) s.heap.size = A at hD ⊢
  have hA : ∀ q : Nat, s.heap.size ≤ q → A q := fun q h => by rw [← hAe]; exact Or.inr h
  have hS : va_S A s.heap s.heap [] := va_S.rf
  have hl := lv_entry ([.ref (sa 0), .int num]) (n := 2) (Nat.le_of_ble_eq_true rfl)
  rw [lg_entry_eq]
  generalize (lg_sl ([.ref (sa 0), .int num]) ++ List.replicate (2 - (lg_sl ([.ref (sa 0), .int num])).length) Slot.unset).toArray = ls at hl ⊢
  have hl : lv_has ls 2 [(0, .ref (sa 0)), (1, .int num)] := hl
  rw [st_contentOf] at hf
  refine lv_aload_n hx hb dX2_contentOf_0 rfl (lv_at hl 0 rfl) ?_
  refine lv_iload_n hx hb dX2_contentOf_1 rfl (lv_at hl 1 rfl) ?_
  obtain ⟨r1, er1⟩ : ∃ r, r = st_isNumber num so := ⟨_, rfl⟩
  have hf := yb_e er1 hf
  refine yz_callV (As := [.int num]) (rest := []) ⟨hx, hb, hml, hown, hts⟩ (c_st_isNumber l D cI cJ cZ cN sa num so  r1 er1) ⟨callB_of 1 hts (yy_good wq_211) rfl rfl rfl (hw _ wq_35) (hw _ wq_208) (by decide +kernel) ⟨Nat.le_of_ble_eq_true rfl, Nat.le_of_ble_eq_true rfl⟩, hw _ wq_210, hw _ wq_1⟩ hK hN hP hD hS hA [0, 1, 2, 3, 4, 5] rfl (by decide) rfl 6 rfl (w2 := (stW cI cJ sa so)) rfl 0 rfl rfl rfl hl.1 rfl (Nat.le_of_ble_eq_true rfl) dX2_contentOf_2 ⟨Nat.zero_le _, Nat.zero_le _⟩ (fun H locs hP hD hS => ?_)
  refine W.eq (g2 := F0 m 5 ls [.int (yB r1)]) rfl ?_
  refine lv_if_eq (tgt := 17) hx hb dX2_contentOf_5 (by decide) (fun h2 => ?_) (fun h2 => ?_)
  · have h2 := yB_0.mp h2
    have hf := yBf h2 hf
    refine lv_iconst (v := 0) hx hb dX2_contentOf_17 (by decide) ?_
    subst hf
    exact yy_iret (v := 0) hx hb hr hP hK hS hlocks dX2_contentOf_18
  · have h2 := yB_1 h2
    have hf := yBt h2 hf
    refine lv_aload_n hx hb dX2_contentOf_8 rfl (lv_at hl 0 rfl) ?_
    refine va_get (D := D) (ci := 2) (v := .ref (sa 2)) (C := RX2) (T := TX2) (N := 6) hx hb hts (yy_tl inX2) hown hK hP 0 rfl rfl 1 (by decide) (hw _ wq_56) (fun _ h9 => h9) rfl dX2_contentOf_9 ?_
    refine lv_iload_n hx hb dX2_contentOf_12 rfl (lv_at hl 1 rfl) ?_
    refine va_iald hx hb hK hP 2 0 (f := so.2.1) rfl rfl (st_isNumber_in ‹_ = st_isNumber num so› ‹_ = true› hs) dX2_contentOf_13 ?_
    refine lv_goto (tgt := 18) hx hb dX2_contentOf_14 (by decide) ?_
    subst hf
    exact yy_iret (v := (so.2.1 num.toNatClampNeg)) hx hb hr hP hK hS hlocks dX2_contentOf_18

set_option maxHeartbeats 4000000 in
set_option maxRecDepth 100000 in
theorem c_st_partsOf (l : Launch) (D : va_G) (cI cJ cZ cN : ClassId) (sa : Nat → Nat) (num : Int32) (so : SS) (hs : so.2.2.2.2.2 ≤ 60) (res : Int32) (hf : res = st_partsOf num so) : yy_Met l yX2_partsOf wsX2_partsOf { frames := 1, cells := 0, slots := 0, locals := 21 } D vwCl (yT cI cJ cZ cN) [.ref (sa 0), .int num] (stW cI cJ sa so) (some (.int res)) (stW cI cJ sa so) := by
  intro sz
  refine Met.ofW (cc := cX2_partsOf) (maxL := 2) (ret := (some .int)) (by decide) rfl ?_
  intro p e s m args below meth c s₁ B hml hv
  obtain ⟨rfl, hsz, hP, hK, hD0, hN⟩ := hv
  have hx := B.exec
  have hb := B.bytes
  have hr := B.returns
  have hts := atoms_spec (ws := wsX2_partsOf) B.pre
  have hw : ∀ w ∈ yW, w.before _ s = true := fun w h => hts w (List.mem_cons_of_mem _ h)
  have hown : s.vm.findClass RX2 = some m.cls := findClass_of_methodNamed B.named
  have hlocks := B.notSynchronized
  subst hsz
  have hD := hD0.self (sz := s.heap.size)
  generalize hAe : va_A (stW cI cJ sa so) s.heap.size = A at hD ⊢
  have hA : ∀ q : Nat, s.heap.size ≤ q → A q := fun q h => by rw [← hAe]; exact Or.inr h
  have hS : va_S A s.heap s.heap [] := va_S.rf
  have hl := lv_entry ([.ref (sa 0), .int num]) (n := 2) (Nat.le_of_ble_eq_true rfl)
  rw [lg_entry_eq]
  generalize (lg_sl ([.ref (sa 0), .int num]) ++ List.replicate (2 - (lg_sl ([.ref (sa 0), .int num])).length) Slot.unset).toArray = ls at hl ⊢
  have hl : lv_has ls 2 [(0, .ref (sa 0)), (1, .int num)] := hl
  rw [st_partsOf] at hf
  refine lv_aload_n hx hb dX2_partsOf_0 rfl (lv_at hl 0 rfl) ?_
  refine lv_iload_n hx hb dX2_partsOf_1 rfl (lv_at hl 1 rfl) ?_
  obtain ⟨r1, er1⟩ : ∃ r, r = st_isNumber num so := ⟨_, rfl⟩
  have hf := yb_e er1 hf
  refine yz_callV (As := [.int num]) (rest := []) ⟨hx, hb, hml, hown, hts⟩ (c_st_isNumber l D cI cJ cZ cN sa num so  r1 er1) ⟨callB_of 1 hts (yy_good wq_211) rfl rfl rfl (hw _ wq_35) (hw _ wq_208) (by decide +kernel) ⟨Nat.le_of_ble_eq_true rfl, Nat.le_of_ble_eq_true rfl⟩, hw _ wq_210, hw _ wq_1⟩ hK hN hP hD hS hA [0, 1, 2, 3, 4, 5] rfl (by decide) rfl 6 rfl (w2 := (stW cI cJ sa so)) rfl 0 rfl rfl rfl hl.1 rfl (Nat.le_of_ble_eq_true rfl) dX2_partsOf_2 ⟨Nat.zero_le _, Nat.zero_le _⟩ (fun H locs hP hD hS => ?_)
  refine W.eq (g2 := F0 m 5 ls [.int (yB r1)]) rfl ?_
  refine lv_if_eq (tgt := 17) hx hb dX2_partsOf_5 (by decide) (fun h2 => ?_) (fun h2 => ?_)
  · have h2 := yB_0.mp h2
    have hf := yBf h2 hf
    refine lv_iconst (v := 0) hx hb dX2_partsOf_17 (by decide) ?_
    subst hf
    exact yy_iret (v := 0) hx hb hr hP hK hS hlocks dX2_partsOf_18
  · have h2 := yB_1 h2
    have hf := yBt h2 hf
    refine lv_aload_n hx hb dX2_partsOf_8 rfl (lv_at hl 0 rfl) ?_
    refine va_get (D := D) (ci := 2) (v := .ref (sa 1)) (C := RX2) (T := TX2) (N := 6) hx hb hts (yy_tl inX2) hown hK hP 0 rfl rfl 0 (by decide) (hw _ wq_55) (fun _ h9 => h9) rfl dX2_partsOf_9 ?_
    refine lv_iload_n hx hb dX2_partsOf_12 rfl (lv_at hl 1 rfl) ?_
    refine va_iald hx hb hK hP 1 0 (f := so.1) rfl rfl (st_isNumber_in ‹_ = st_isNumber num so› ‹_ = true› hs) dX2_partsOf_13 ?_
    refine lv_if_ne (tgt := 19) hx hb dX2_partsOf_14 (by decide) (fun h3 => ?_) (fun h3 => ?_)
    · have hf := yf h3 hf
      refine lv_iconst (v := 1) hx hb dX2_partsOf_19 (by decide) ?_
      refine lv_aload_n hx hb dX2_partsOf_20 rfl (lv_at hl 0 rfl) ?_
      refine va_get (D := D) (ci := 2) (v := .ref (sa 3)) (C := RX2) (T := TX2) (N := 6) hx hb hts (yy_tl inX2) hown hK hP 0 rfl rfl 2 (by decide) (hw _ wq_57) (fun _ h9 => h9) rfl dX2_partsOf_21 ?_
      refine lv_iload_n hx hb dX2_partsOf_24 rfl (lv_at hl 1 rfl) ?_
      refine va_iald hx hb hK hP 3 0 (f := so.2.2.1) rfl rfl (st_isNumber_in ‹_ = st_isNumber num so› ‹_ = true› hs) dX2_partsOf_25 ?_
      refine lv_iconst (v := (-1)) hx hb dX2_partsOf_26 (by decide) ?_
      refine lv_icmp_ne (tgt := 34) hx hb dX2_partsOf_27 (by decide) (fun h4 => ?_) (fun h4 => ?_)
      · have hf := yf h4 hf
        refine lv_iconst (v := 1) hx hb dX2_partsOf_34 (by decide) ?_
        refine lv_iadd hx hb dX2_partsOf_35 ?_
        refine lv_aload_n hx hb dX2_partsOf_36 rfl (lv_at hl 0 rfl) ?_
        refine va_get (D := D) (ci := 2) (v := .ref (sa 4)) (C := RX2) (T := TX2) (N := 6) hx hb hts (yy_tl inX2) hown hK hP 0 rfl rfl 3 (by decide) (hw _ wq_58) (fun _ h9 => h9) rfl dX2_partsOf_37 ?_
        refine lv_iload_n hx hb dX2_partsOf_40 rfl (lv_at hl 1 rfl) ?_
        refine va_iald hx hb hK hP 4 0 (f := so.2.2.2.1) rfl rfl (st_isNumber_in ‹_ = st_isNumber num so› ‹_ = true› hs) dX2_partsOf_41 ?_
        refine lv_iconst (v := (-1)) hx hb dX2_partsOf_42 (by decide) ?_
        refine lv_icmp_ne (tgt := 50) hx hb dX2_partsOf_43 (by decide) (fun h5 => ?_) (fun h5 => ?_)
        · have hf := yf h5 hf
          refine lv_iconst (v := 1) hx hb dX2_partsOf_50 (by decide) ?_
          refine lv_iadd hx hb dX2_partsOf_51 ?_
          subst hf
          exact yy_iret (v := ((1 + 1) + 1)) hx hb hr hP hK hS hlocks dX2_partsOf_52
        · have hf := yt h5 hf
          refine lv_iconst (v := 0) hx hb dX2_partsOf_46 (by decide) ?_
          refine lv_goto (tgt := 51) hx hb dX2_partsOf_47 (by decide) ?_
          refine lv_iadd hx hb dX2_partsOf_51 ?_
          subst hf
          exact yy_iret (v := ((1 + 1) + 0)) hx hb hr hP hK hS hlocks dX2_partsOf_52
      · have hf := yt h4 hf
        refine lv_iconst (v := 0) hx hb dX2_partsOf_30 (by decide) ?_
        refine lv_goto (tgt := 35) hx hb dX2_partsOf_31 (by decide) ?_
        refine lv_iadd hx hb dX2_partsOf_35 ?_
        refine lv_aload_n hx hb dX2_partsOf_36 rfl (lv_at hl 0 rfl) ?_
        refine va_get (D := D) (ci := 2) (v := .ref (sa 4)) (C := RX2) (T := TX2) (N := 6) hx hb hts (yy_tl inX2) hown hK hP 0 rfl rfl 3 (by decide) (hw _ wq_58) (fun _ h9 => h9) rfl dX2_partsOf_37 ?_
        refine lv_iload_n hx hb dX2_partsOf_40 rfl (lv_at hl 1 rfl) ?_
        refine va_iald hx hb hK hP 4 0 (f := so.2.2.2.1) rfl rfl (st_isNumber_in ‹_ = st_isNumber num so› ‹_ = true› hs) dX2_partsOf_41 ?_
        refine lv_iconst (v := (-1)) hx hb dX2_partsOf_42 (by decide) ?_
        refine lv_icmp_ne (tgt := 50) hx hb dX2_partsOf_43 (by decide) (fun h6 => ?_) (fun h6 => ?_)
        · have hf := yf h6 hf
          refine lv_iconst (v := 1) hx hb dX2_partsOf_50 (by decide) ?_
          refine lv_iadd hx hb dX2_partsOf_51 ?_
          subst hf
          exact yy_iret (v := ((1 + 0) + 1)) hx hb hr hP hK hS hlocks dX2_partsOf_52
        · have hf := yt h6 hf
          refine lv_iconst (v := 0) hx hb dX2_partsOf_46 (by decide) ?_
          refine lv_goto (tgt := 51) hx hb dX2_partsOf_47 (by decide) ?_
          refine lv_iadd hx hb dX2_partsOf_51 ?_
          subst hf
          exact yy_iret (v := ((1 + 0) + 0)) hx hb hr hP hK hS hlocks dX2_partsOf_52
    · have hf := yt h3 hf
      refine lv_iconst (v := 0) hx hb dX2_partsOf_17 (by decide) ?_
      subst hf
      exact yy_iret (v := 0) hx hb hr hP hK hS hlocks dX2_partsOf_18

set_option maxHeartbeats 4000000 in
set_option maxRecDepth 100000 in
theorem c_st_find (l : Launch) (D : va_G) (cI cJ cZ cN : ClassId) (sa : Nat → Nat) (kd : Int32) (f1 : Int32) (f2 : Int32) (f3 : Int32) (so : SS) (hs : so.2.2.2.2.2 ≤ 60) (res : Int32) (hf : res = st_find kd f1 f2 f3 so) : yy_Met l yX2_find wsX2_find { frames := 0, cells := 0, slots := 0, locals := 0 } D vwCl (yT cI cJ cZ cN) [.ref (sa 0), .int kd, .int f1, .int f2, .int f3] (stW cI cJ sa so) (some (.int res)) (stW cI cJ sa so) := by
  intro sz
  refine Met.ofW (cc := cX2_find) (maxL := 6) (ret := (some .int)) (by decide) rfl ?_
  intro p e s m args below meth c s₁ B hml hv
  obtain ⟨rfl, hsz, hP, hK, hD0, hN⟩ := hv
  have hx := B.exec
  have hb := B.bytes
  have hr := B.returns
  have hts := atoms_spec (ws := wsX2_find) B.pre
  have hw : ∀ w ∈ yW, w.before _ s = true := fun w h => hts w (List.mem_cons_of_mem _ h)
  have hown : s.vm.findClass RX2 = some m.cls := findClass_of_methodNamed B.named
  have hlocks := B.notSynchronized
  subst hsz
  have hD := hD0.self (sz := s.heap.size)
  generalize hAe : va_A (stW cI cJ sa so) s.heap.size = A at hD ⊢
  have hA : ∀ q : Nat, s.heap.size ≤ q → A q := fun q h => by rw [← hAe]; exact Or.inr h
  have hS : va_S A s.heap s.heap [] := va_S.rf
  have hl := lv_entry ([.ref (sa 0), .int kd, .int f1, .int f2, .int f3]) (n := 6) (Nat.le_of_ble_eq_true rfl)
  rw [lg_entry_eq]
  generalize (lg_sl ([.ref (sa 0), .int kd, .int f1, .int f2, .int f3]) ++ List.replicate (6 - (lg_sl ([.ref (sa 0), .int kd, .int f1, .int f2, .int f3])).length) Slot.unset).toArray = ls at hl ⊢
  have hl : lv_has ls 6 [(0, .ref (sa 0)), (1, .int kd), (2, .int f1), (3, .int f2), (4, .int f3)] := hl
  have hL3 : ∀ (k : Nat) (i : Nat) (ls : Array Slot) (H : Heap) (locs : List Loc), i + k = so.2.2.2.2.2 → res = st_find_L3 kd f1 f2 f3 so k i → lv_has ls 6 [(0, .ref (sa 0)), (1, .int kd), (2, .int f1), (3, .int f2), (4, .int f3), (5, .int (nI i))] → va_P D vwCl (stW cI cJ sa so) H → va_D A (stW cI cJ sa so) → va_S A s.heap H locs → W p l e (headSpec wsX2_find { frames := 0, cells := 0, slots := 0, locals := 0 }).room s m ([.ref (sa 0), .int kd, .int f1, .int f2, .int f3] : List Value).toArray below meth c H locs 0 0 (MQ below (yy_Q A D vwCl (yT cI cJ cZ cN) (stW cI cJ sa so) (some (.int res))) ([.ref (sa 0), .int kd, .int f1, .int f2, .int f3] : List Value).toArray s 0 0 A) (F0 m 3 ls []) := by
    intro k
    induction k with
    | zero =>
      intro i ls H locs hi hf hl hP hD hS
      rw [st_find_L3] at hf
      refine lv_iload hx hb dX2_find_3 (lv_at hl 5 rfl) ?_
      refine lv_aload_n hx hb dX2_find_5 rfl (lv_at hl 0 rfl) ?_
      refine va_get (D := D) (ci := 2) (v := .int (nI so.2.2.2.2.2)) (C := RX2) (T := TX2) (N := 6) hx hb hts (yy_tl inX2) hown hK hP 0 rfl rfl 5 (by decide) (hw _ wq_60) (fun _ h9 => h9) rfl dX2_find_6 ?_
      refine lv_icmp_ge (tgt := 66) hx hb dX2_find_9 (by decide) (fun _ => ?_) (fun h => absurd (nI_le (by omega) (by omega)) h)
      refine lv_iconst (v := (-1)) hx hb dX2_find_66 (by decide) ?_
      subst hf
      exact yy_iret (v := (-1)) hx hb hr hP hK hS hlocks dX2_find_67
    | succ k ih =>
      intro i ls H locs hi hf hl hP hD hS
      rw [st_find_L3] at hf
      refine lv_iload hx hb dX2_find_3 (lv_at hl 5 rfl) ?_
      refine lv_aload_n hx hb dX2_find_5 rfl (lv_at hl 0 rfl) ?_
      refine va_get (D := D) (ci := 2) (v := .int (nI so.2.2.2.2.2)) (C := RX2) (T := TX2) (N := 6) hx hb hts (yy_tl inX2) hown hK hP 0 rfl rfl 5 (by decide) (hw _ wq_60) (fun _ h9 => h9) rfl dX2_find_6 ?_
      refine lv_icmp_ge (tgt := 66) hx hb dX2_find_9 (by decide) (fun h => absurd h (nI_ge (by omega) (by omega))) (fun _ => ?_)
      refine lv_aload_n hx hb dX2_find_12 rfl (lv_at hl 0 rfl) ?_
      refine va_get (D := D) (ci := 2) (v := .ref (sa 1)) (C := RX2) (T := TX2) (N := 6) hx hb hts (yy_tl inX2) hown hK hP 0 rfl rfl 0 (by decide) (hw _ wq_55) (fun _ h9 => h9) rfl dX2_find_13 ?_
      refine lv_iload hx hb dX2_find_16 (lv_at hl 5 rfl) ?_
      refine yr_iald hx hb hK hP 1 0 (f := so.1) (j := i) rfl rfl rfl (by omega) (by decide) dX2_find_18 ?_
      refine lv_iload_n hx hb dX2_find_19 rfl (lv_at hl 1 rfl) ?_
      refine lv_icmp_ne (tgt := 60) hx hb dX2_find_20 (by decide) (fun h1 => ?_) (fun h1 => ?_)
      · have hf := yf h1 hf
        refine lv_iinc (k := 5) (v := (nI (i + 1))) (lv' := [(5, .int (nI (i + 1))), (0, .ref (sa 0)), (1, .int kd), (2, .int f1), (3, .int f2), (4, .int f3)]) hx hb dX2_find_60 hl rfl (yy_inc _) (by decide) rfl (fun ls hl => ?_)
        refine lv_goto (tgt := 3) hx hb dX2_find_63 (by decide) ?_
        exact ih (i + 1) _ _ _ (by omega) hf (lv_sub hl [1, 2, 3, 4, 5, 0] rfl) hP hD hS
      · have hf := yt h1 hf
        refine lv_aload_n hx hb dX2_find_23 rfl (lv_at hl 0 rfl) ?_
        refine va_get (D := D) (ci := 2) (v := .ref (sa 2)) (C := RX2) (T := TX2) (N := 6) hx hb hts (yy_tl inX2) hown hK hP 0 rfl rfl 1 (by decide) (hw _ wq_56) (fun _ h9 => h9) rfl dX2_find_24 ?_
        refine lv_iload hx hb dX2_find_27 (lv_at hl 5 rfl) ?_
        refine yr_iald hx hb hK hP 2 0 (f := so.2.1) (j := i) rfl rfl rfl (by omega) (by decide) dX2_find_29 ?_
        refine lv_iload_n hx hb dX2_find_30 rfl (lv_at hl 2 rfl) ?_
        refine lv_icmp_ne (tgt := 60) hx hb dX2_find_31 (by decide) (fun h2 => ?_) (fun h2 => ?_)
        · have hf := yf h2 hf
          refine lv_iinc (k := 5) (v := (nI (i + 1))) (lv' := [(5, .int (nI (i + 1))), (0, .ref (sa 0)), (1, .int kd), (2, .int f1), (3, .int f2), (4, .int f3)]) hx hb dX2_find_60 hl rfl (yy_inc _) (by decide) rfl (fun ls hl => ?_)
          refine lv_goto (tgt := 3) hx hb dX2_find_63 (by decide) ?_
          exact ih (i + 1) _ _ _ (by omega) hf (lv_sub hl [1, 2, 3, 4, 5, 0] rfl) hP hD hS
        · have hf := yt h2 hf
          refine lv_aload_n hx hb dX2_find_34 rfl (lv_at hl 0 rfl) ?_
          refine va_get (D := D) (ci := 2) (v := .ref (sa 3)) (C := RX2) (T := TX2) (N := 6) hx hb hts (yy_tl inX2) hown hK hP 0 rfl rfl 2 (by decide) (hw _ wq_57) (fun _ h9 => h9) rfl dX2_find_35 ?_
          refine lv_iload hx hb dX2_find_38 (lv_at hl 5 rfl) ?_
          refine yr_iald hx hb hK hP 3 0 (f := so.2.2.1) (j := i) rfl rfl rfl (by omega) (by decide) dX2_find_40 ?_
          refine lv_iload_n hx hb dX2_find_41 rfl (lv_at hl 3 rfl) ?_
          refine lv_icmp_ne (tgt := 60) hx hb dX2_find_42 (by decide) (fun h3 => ?_) (fun h3 => ?_)
          · have hf := yf h3 hf
            refine lv_iinc (k := 5) (v := (nI (i + 1))) (lv' := [(5, .int (nI (i + 1))), (0, .ref (sa 0)), (1, .int kd), (2, .int f1), (3, .int f2), (4, .int f3)]) hx hb dX2_find_60 hl rfl (yy_inc _) (by decide) rfl (fun ls hl => ?_)
            refine lv_goto (tgt := 3) hx hb dX2_find_63 (by decide) ?_
            exact ih (i + 1) _ _ _ (by omega) hf (lv_sub hl [1, 2, 3, 4, 5, 0] rfl) hP hD hS
          · have hf := yt h3 hf
            refine lv_aload_n hx hb dX2_find_45 rfl (lv_at hl 0 rfl) ?_
            refine va_get (D := D) (ci := 2) (v := .ref (sa 4)) (C := RX2) (T := TX2) (N := 6) hx hb hts (yy_tl inX2) hown hK hP 0 rfl rfl 3 (by decide) (hw _ wq_58) (fun _ h9 => h9) rfl dX2_find_46 ?_
            refine lv_iload hx hb dX2_find_49 (lv_at hl 5 rfl) ?_
            refine yr_iald hx hb hK hP 4 0 (f := so.2.2.2.1) (j := i) rfl rfl rfl (by omega) (by decide) dX2_find_51 ?_
            refine lv_iload hx hb dX2_find_52 (lv_at hl 4 rfl) ?_
            refine lv_icmp_ne (tgt := 60) hx hb dX2_find_54 (by decide) (fun h4 => ?_) (fun h4 => ?_)
            · have hf := yf h4 hf
              refine lv_iinc (k := 5) (v := (nI (i + 1))) (lv' := [(5, .int (nI (i + 1))), (0, .ref (sa 0)), (1, .int kd), (2, .int f1), (3, .int f2), (4, .int f3)]) hx hb dX2_find_60 hl rfl (yy_inc _) (by decide) rfl (fun ls hl => ?_)
              refine lv_goto (tgt := 3) hx hb dX2_find_63 (by decide) ?_
              exact ih (i + 1) _ _ _ (by omega) hf (lv_sub hl [1, 2, 3, 4, 5, 0] rfl) hP hD hS
            · have hf := yt h4 hf
              refine lv_iload hx hb dX2_find_57 (lv_at hl 5 rfl) ?_
              subst hf
              exact yy_iret (v := (nI i)) hx hb hr hP hK hS hlocks dX2_find_59
  rw [st_find] at hf
  refine lv_iconst (v := (nI 0)) hx hb dX2_find_0 (by decide) ?_
  refine lv_istore (lv' := [(5, .int (nI 0)), (0, .ref (sa 0)), (1, .int kd), (2, .int f1), (3, .int f2), (4, .int f3)]) hx hb dX2_find_1 hl (by decide) rfl (fun ls hl => ?_)
  exact hL3 so.2.2.2.2.2 0 _ _ _ (by omega) hf (lv_sub hl [1, 2, 3, 4, 5, 0] rfl) hP hD hS

set_option maxHeartbeats 4000000 in
set_option maxRecDepth 100000 in
theorem c_st_add (l : Launch) (D : va_G) (cI cJ cZ cN : ClassId) (sa : Nat → Nat) (kd : Int32) (f1 : Int32) (f2 : Int32) (f3 : Int32) (so : SS) (hs : so.2.2.2.2.2 ≤ 60) (res : Int32 × SS) (hf : res = st_add kd f1 f2 f3 so) : yy_Met l yX2_add wsX2_add { frames := 2, cells := 0, slots := 0, locals := 42 } D vwCl (yT cI cJ cZ cN) [.ref (sa 0), .int kd, .int f1, .int f2, .int f3] (stW cI cJ sa so) (some (.int res.1)) (stW cI cJ sa res.2) := by
  intro sz
  refine Met.ofW (cc := cX2_add) (maxL := 8) (ret := (some .int)) (by decide) rfl ?_
  intro p e s m args below meth c s₁ B hml hv
  obtain ⟨rfl, hsz, hP, hK, hD0, hN⟩ := hv
  have hx := B.exec
  have hb := B.bytes
  have hr := B.returns
  have hts := atoms_spec (ws := wsX2_add) B.pre
  have hw : ∀ w ∈ yW, w.before _ s = true := fun w h => hts w (List.mem_cons_of_mem _ h)
  have hown : s.vm.findClass RX2 = some m.cls := findClass_of_methodNamed B.named
  have hlocks := B.notSynchronized
  subst hsz
  have hD := hD0.self (sz := s.heap.size)
  generalize hAe : va_A (stW cI cJ sa so) s.heap.size = A at hD ⊢
  have hA : ∀ q : Nat, s.heap.size ≤ q → A q := fun q h => by rw [← hAe]; exact Or.inr h
  have hS : va_S A s.heap s.heap [] := va_S.rf
  have hl := lv_entry ([.ref (sa 0), .int kd, .int f1, .int f2, .int f3]) (n := 8) (Nat.le_of_ble_eq_true rfl)
  rw [lg_entry_eq]
  generalize (lg_sl ([.ref (sa 0), .int kd, .int f1, .int f2, .int f3]) ++ List.replicate (8 - (lg_sl ([.ref (sa 0), .int kd, .int f1, .int f2, .int f3])).length) Slot.unset).toArray = ls at hl ⊢
  have hl : lv_has ls 8 [(0, .ref (sa 0)), (1, .int kd), (2, .int f1), (3, .int f2), (4, .int f3)] := hl
  rw [st_add] at hf
  refine lv_aload_n hx hb dX2_add_0 rfl (lv_at hl 0 rfl) ?_
  obtain ⟨r1, er1⟩ : ∃ r, r = st_isFull so := ⟨_, rfl⟩
  have hf := yb_e er1 hf
  refine yz_callV (As := []) (rest := []) ⟨hx, hb, hml, hown, hts⟩ (c_st_isFull l D cI cJ cZ cN sa so  r1 er1) ⟨callB_of 0 hts (yy_good wq_187) rfl rfl rfl (hw _ wq_35) (hw _ wq_203) (by decide +kernel) ⟨Nat.le_of_ble_eq_true rfl, Nat.le_of_ble_eq_true rfl⟩, hw _ wq_185, hw _ wq_186⟩ hK hN hP hD hS hA [0, 1, 2, 3, 4, 5] rfl (by decide) rfl 6 rfl (w2 := (stW cI cJ sa so)) rfl 0 rfl rfl rfl hl.1 rfl (Nat.le_of_ble_eq_true rfl) dX2_add_1 ⟨Nat.zero_le _, Nat.zero_le _⟩ (fun H locs hP hD hS => ?_)
  refine W.eq (g2 := F0 m 4 ls [.int (yB r1)]) rfl ?_
  refine lv_if_eq (tgt := 9) hx hb dX2_add_4 (by decide) (fun h2 => ?_) (fun h2 => ?_)
  · have h2 := yB_0.mp h2
    have hf := yBf h2 hf
    refine lv_aload_n hx hb dX2_add_9 rfl (lv_at hl 0 rfl) ?_
    refine va_get (D := D) (ci := 2) (v := .int (nI so.2.2.2.2.2)) (C := RX2) (T := TX2) (N := 6) hx hb hts (yy_tl inX2) hown hK hP 0 rfl rfl 5 (by decide) (hw _ wq_60) (fun _ h9 => h9) rfl dX2_add_10 ?_
    refine lv_istore (lv' := [(5, .int (nI so.2.2.2.2.2)), (0, .ref (sa 0)), (1, .int kd), (2, .int f1), (3, .int f2), (4, .int f3)]) hx hb dX2_add_13 hl (by decide) rfl (fun ls hl => ?_)
    refine lv_lconst (v := 1) hx hb dX2_add_15 (by decide) ?_
    refine lv_iload hx hb dX2_add_16 (lv_at hl 0 rfl) ?_
    refine lv_lshl (v := ylshl 1 (nI so.2.2.2.2.2)) hx hb dX2_add_18 rfl ?_
    refine lv_lstore (lv' := [(6, .long (ylshl 1 (nI so.2.2.2.2.2))), (5, .int (nI so.2.2.2.2.2)), (0, .ref (sa 0)), (1, .int kd), (2, .int f1), (3, .int f2), (4, .int f3)]) hx hb dX2_add_19 hl (by decide) rfl (fun ls hl => ?_)
    refine lv_iload_n hx hb dX2_add_21 rfl (lv_at hl 3 rfl) ?_
    refine lv_if_eq (tgt := 48) hx hb dX2_add_22 (by decide) (fun h3 => ?_) (fun h3 => ?_)
    · have hf := yt h3 hf
      refine lv_aload_n hx hb dX2_add_48 rfl (lv_at hl 2 rfl) ?_
      refine va_get (D := D) (ci := 2) (v := .ref (sa 1)) (C := RX2) (T := TX2) (N := 6) hx hb hts (yy_tl inX2) hown hK hP 0 rfl rfl 0 (by decide) (hw _ wq_55) (fun _ h9 => h9) rfl dX2_add_49 ?_
      refine lv_iload hx hb dX2_add_52 (lv_at hl 1 rfl) ?_
      refine lv_iload_n hx hb dX2_add_54 rfl (lv_at hl 3 rfl) ?_
      refine yr_iast hx hb hK hP hD hS 1 0 (f := so.1) (j := so.2.2.2.2.2) rfl rfl rfl (st_isFull_lt ‹_ = st_isFull so› ‹_ = false› hs) (by decide) dX2_add_55 (fun H locs hP hD hS => ?_)
      have hP : va_P D vwCl (stW cI cJ sa (upd so.1 so.2.2.2.2.2 kd, so.2.1, so.2.2.1, so.2.2.2.1, so.2.2.2.2.1, so.2.2.2.2.2)) H := hP
      have hD : va_D A (stW cI cJ sa (upd so.1 so.2.2.2.2.2 kd, so.2.1, so.2.2.1, so.2.2.2.1, so.2.2.2.2.1, so.2.2.2.2.2)) := hD
      refine lv_aload_n hx hb dX2_add_56 rfl (lv_at hl 2 rfl) ?_
      refine va_get (D := D) (ci := 2) (v := .ref (sa 2)) (C := RX2) (T := TX2) (N := 6) hx hb hts (yy_tl inX2) hown hK hP 0 rfl rfl 1 (by decide) (hw _ wq_56) (fun _ h9 => h9) rfl dX2_add_57 ?_
      refine lv_iload hx hb dX2_add_60 (lv_at hl 1 rfl) ?_
      refine lv_iload_n hx hb dX2_add_62 rfl (lv_at hl 4 rfl) ?_
      refine yr_iast hx hb hK hP hD hS 2 0 (f := so.2.1) (j := so.2.2.2.2.2) rfl rfl rfl (st_isFull_lt ‹_ = st_isFull so› ‹_ = false› hs) (by decide) dX2_add_63 (fun H locs hP hD hS => ?_)
      have hP : va_P D vwCl (stW cI cJ sa (upd so.1 so.2.2.2.2.2 kd, upd so.2.1 so.2.2.2.2.2 f1, so.2.2.1, so.2.2.2.1, so.2.2.2.2.1, so.2.2.2.2.2)) H := hP
      have hD : va_D A (stW cI cJ sa (upd so.1 so.2.2.2.2.2 kd, upd so.2.1 so.2.2.2.2.2 f1, so.2.2.1, so.2.2.2.1, so.2.2.2.2.1, so.2.2.2.2.2)) := hD
      refine lv_aload_n hx hb dX2_add_64 rfl (lv_at hl 2 rfl) ?_
      refine va_get (D := D) (ci := 2) (v := .ref (sa 3)) (C := RX2) (T := TX2) (N := 6) hx hb hts (yy_tl inX2) hown hK hP 0 rfl rfl 2 (by decide) (hw _ wq_57) (fun _ h9 => h9) rfl dX2_add_65 ?_
      refine lv_iload hx hb dX2_add_68 (lv_at hl 1 rfl) ?_
      refine lv_iload_n hx hb dX2_add_70 rfl (lv_at hl 5 rfl) ?_
      refine yr_iast hx hb hK hP hD hS 3 0 (f := so.2.2.1) (j := so.2.2.2.2.2) rfl rfl rfl (st_isFull_lt ‹_ = st_isFull so› ‹_ = false› hs) (by decide) dX2_add_71 (fun H locs hP hD hS => ?_)
      have hP : va_P D vwCl (stW cI cJ sa (upd so.1 so.2.2.2.2.2 kd, upd so.2.1 so.2.2.2.2.2 f1, upd so.2.2.1 so.2.2.2.2.2 f2, so.2.2.2.1, so.2.2.2.2.1, so.2.2.2.2.2)) H := hP
      have hD : va_D A (stW cI cJ sa (upd so.1 so.2.2.2.2.2 kd, upd so.2.1 so.2.2.2.2.2 f1, upd so.2.2.1 so.2.2.2.2.2 f2, so.2.2.2.1, so.2.2.2.2.1, so.2.2.2.2.2)) := hD
      refine lv_aload_n hx hb dX2_add_72 rfl (lv_at hl 2 rfl) ?_
      refine va_get (D := D) (ci := 2) (v := .ref (sa 4)) (C := RX2) (T := TX2) (N := 6) hx hb hts (yy_tl inX2) hown hK hP 0 rfl rfl 3 (by decide) (hw _ wq_58) (fun _ h9 => h9) rfl dX2_add_73 ?_
      refine lv_iload hx hb dX2_add_76 (lv_at hl 1 rfl) ?_
      refine lv_iload hx hb dX2_add_78 (lv_at hl 6 rfl) ?_
      refine yr_iast hx hb hK hP hD hS 4 0 (f := so.2.2.2.1) (j := so.2.2.2.2.2) rfl rfl rfl (st_isFull_lt ‹_ = st_isFull so› ‹_ = false› hs) (by decide) dX2_add_80 (fun H locs hP hD hS => ?_)
      have hP : va_P D vwCl (stW cI cJ sa (upd so.1 so.2.2.2.2.2 kd, upd so.2.1 so.2.2.2.2.2 f1, upd so.2.2.1 so.2.2.2.2.2 f2, upd so.2.2.2.1 so.2.2.2.2.2 f3, so.2.2.2.2.1, so.2.2.2.2.2)) H := hP
      have hD : va_D A (stW cI cJ sa (upd so.1 so.2.2.2.2.2 kd, upd so.2.1 so.2.2.2.2.2 f1, upd so.2.2.1 so.2.2.2.2.2 f2, upd so.2.2.2.1 so.2.2.2.2.2 f3, so.2.2.2.2.1, so.2.2.2.2.2)) := hD
      refine lv_aload_n hx hb dX2_add_81 rfl (lv_at hl 2 rfl) ?_
      refine va_get (D := D) (ci := 2) (v := .ref (sa 5)) (C := RX2) (T := TX2) (N := 6) hx hb hts (yy_tl inX2) hown hK hP 0 rfl rfl 4 (by decide) (hw _ wq_59) (fun _ h9 => h9) rfl dX2_add_82 ?_
      refine lv_iload hx hb dX2_add_85 (lv_at hl 1 rfl) ?_
      refine lv_lload hx hb dX2_add_87 (lv_at hl 0 rfl) ?_
      refine yr_last hx hb hK hP hD hS 5 1 (f := so.2.2.2.2.1) (j := so.2.2.2.2.2) rfl rfl rfl (st_isFull_lt ‹_ = st_isFull so› ‹_ = false› hs) (by decide) dX2_add_89 (fun H locs hP hD hS => ?_)
      have hP : va_P D vwCl (stW cI cJ sa (upd so.1 so.2.2.2.2.2 kd, upd so.2.1 so.2.2.2.2.2 f1, upd so.2.2.1 so.2.2.2.2.2 f2, upd so.2.2.2.1 so.2.2.2.2.2 f3, vp_updL so.2.2.2.2.1 so.2.2.2.2.2 (ylshl 1 (nI so.2.2.2.2.2)), so.2.2.2.2.2)) H := hP
      have hD : va_D A (stW cI cJ sa (upd so.1 so.2.2.2.2.2 kd, upd so.2.1 so.2.2.2.2.2 f1, upd so.2.2.1 so.2.2.2.2.2 f2, upd so.2.2.2.1 so.2.2.2.2.2 f3, vp_updL so.2.2.2.2.1 so.2.2.2.2.2 (ylshl 1 (nI so.2.2.2.2.2)), so.2.2.2.2.2)) := hD
      refine lv_aload_n hx hb dX2_add_90 rfl (lv_at hl 2 rfl) ?_
      refine lv_iload hx hb dX2_add_91 (lv_at hl 1 rfl) ?_
      refine lv_iconst (v := (nI 1)) hx hb dX2_add_93 (by decide) ?_
      refine yr_iaddN hx hb dX2_add_94 ?_
      refine va_put (D := D) (ci := 2) (v := .int (nI (so.2.2.2.2.2 + 1))) (ty := .int) (C := RX2) (T := TX2) (N := 6) hx hb hts (yy_tl inX2) tyX2 tyX2_ok nX2 hown hK hP hD hS 0 rfl rfl 5 (by decide) (hw _ wq_60) (fun _ h9 => h9) rfl (by decide +kernel) rfl rfl (Nat.le_of_ble_eq_true rfl) dX2_add_95 (fun H locs hP hD hS => ?_)
      have hP : va_P D vwCl (stW cI cJ sa (upd so.1 so.2.2.2.2.2 kd, upd so.2.1 so.2.2.2.2.2 f1, upd so.2.2.1 so.2.2.2.2.2 f2, upd so.2.2.2.1 so.2.2.2.2.2 f3, vp_updL so.2.2.2.2.1 so.2.2.2.2.2 (ylshl 1 (nI so.2.2.2.2.2)), so.2.2.2.2.2 + 1)) H := hP
      have hD : va_D A (stW cI cJ sa (upd so.1 so.2.2.2.2.2 kd, upd so.2.1 so.2.2.2.2.2 f1, upd so.2.2.1 so.2.2.2.2.2 f2, upd so.2.2.2.1 so.2.2.2.2.2 f3, vp_updL so.2.2.2.2.1 so.2.2.2.2.2 (ylshl 1 (nI so.2.2.2.2.2)), so.2.2.2.2.2 + 1)) := hD
      refine lv_iload hx hb dX2_add_98 (lv_at hl 1 rfl) ?_
      subst hf
      exact yy_iret (v := (nI so.2.2.2.2.2)) hx hb hr hP hK hS hlocks dX2_add_100
    · have hf := yf h3 hf
      refine lv_lload hx hb dX2_add_25 (lv_at hl 0 rfl) ?_
      refine lv_aload_n hx hb dX2_add_27 rfl (lv_at hl 2 rfl) ?_
      refine lv_iload_n hx hb dX2_add_28 rfl (lv_at hl 4 rfl) ?_
      obtain ⟨r4, er4⟩ : ∃ r, r = st_reachOf f1 so := ⟨_, rfl⟩
      have hf := yb_e er4 hf
      refine yz_callV (As := [.int f1]) (rest := [.long (ylshl 1 (nI so.2.2.2.2.2))]) ⟨hx, hb, hml, hown, hts⟩ (c_st_reachOf l D cI cJ cZ cN sa f1 so (by (try dsimp only) <;> omega) r4 er4) ⟨callB_of 1 hts (yy_good wq_207) rfl rfl rfl (hw _ wq_35) (hw _ wq_204) (by decide +kernel) ⟨Nat.le_of_ble_eq_true rfl, Nat.le_of_ble_eq_true rfl⟩, hw _ wq_205, hw _ wq_206⟩ hK hN hP hD hS hA [0, 1, 2, 3, 4, 5] rfl (by decide) rfl 6 rfl (w2 := (stW cI cJ sa so)) rfl 0 rfl rfl rfl hl.1 rfl (Nat.le_of_ble_eq_true rfl) dX2_add_29 ⟨Nat.zero_le _, Nat.zero_le _⟩ (fun H locs hP hD hS => ?_)
      refine W.eq (g2 := F0 m 32 ls [.long r4, .long (ylshl 1 (nI so.2.2.2.2.2))]) rfl ?_
      refine lv_lor hx hb dX2_add_32 ?_
      refine lv_aload_n hx hb dX2_add_33 rfl (lv_at hl 2 rfl) ?_
      refine lv_iload_n hx hb dX2_add_34 rfl (lv_at hl 5 rfl) ?_
      obtain ⟨r5, er5⟩ : ∃ r, r = st_reachOf f2 so := ⟨_, rfl⟩
      have hf := yb_e er5 hf
      refine yz_callV (As := [.int f2]) (rest := [.long ((ylshl 1 (nI so.2.2.2.2.2)) ||| r4)]) ⟨hx, hb, hml, hown, hts⟩ (c_st_reachOf l D cI cJ cZ cN sa f2 so (by (try dsimp only) <;> omega) r5 er5) ⟨callB_of 1 hts (yy_good wq_207) rfl rfl rfl (hw _ wq_35) (hw _ wq_204) (by decide +kernel) ⟨Nat.le_of_ble_eq_true rfl, Nat.le_of_ble_eq_true rfl⟩, hw _ wq_205, hw _ wq_206⟩ hK hN hP hD hS hA [0, 1, 2, 3, 4, 5] rfl (by decide) rfl 6 rfl (w2 := (stW cI cJ sa so)) rfl 0 rfl rfl rfl hl.1 rfl (Nat.le_of_ble_eq_true rfl) dX2_add_35 ⟨Nat.zero_le _, Nat.zero_le _⟩ (fun H locs hP hD hS => ?_)
      refine W.eq (g2 := F0 m 38 ls [.long r5, .long ((ylshl 1 (nI so.2.2.2.2.2)) ||| r4)]) rfl ?_
      refine lv_lor hx hb dX2_add_38 ?_
      refine lv_aload_n hx hb dX2_add_39 rfl (lv_at hl 2 rfl) ?_
      refine lv_iload hx hb dX2_add_40 (lv_at hl 6 rfl) ?_
      obtain ⟨r6, er6⟩ : ∃ r, r = st_reachOf f3 so := ⟨_, rfl⟩
      have hf := yb_e er6 hf
      refine yz_callV (As := [.int f3]) (rest := [.long (((ylshl 1 (nI so.2.2.2.2.2)) ||| r4) ||| r5)]) ⟨hx, hb, hml, hown, hts⟩ (c_st_reachOf l D cI cJ cZ cN sa f3 so (by (try dsimp only) <;> omega) r6 er6) ⟨callB_of 1 hts (yy_good wq_207) rfl rfl rfl (hw _ wq_35) (hw _ wq_204) (by decide +kernel) ⟨Nat.le_of_ble_eq_true rfl, Nat.le_of_ble_eq_true rfl⟩, hw _ wq_205, hw _ wq_206⟩ hK hN hP hD hS hA [0, 1, 2, 3, 4, 5] rfl (by decide) rfl 6 rfl (w2 := (stW cI cJ sa so)) rfl 0 rfl rfl rfl hl.1 rfl (Nat.le_of_ble_eq_true rfl) dX2_add_42 ⟨Nat.zero_le _, Nat.zero_le _⟩ (fun H locs hP hD hS => ?_)
      refine W.eq (g2 := F0 m 45 ls [.long r6, .long (((ylshl 1 (nI so.2.2.2.2.2)) ||| r4) ||| r5)]) rfl ?_
      refine lv_lor hx hb dX2_add_45 ?_
      refine lv_lstore (lv' := [(6, .long ((((ylshl 1 (nI so.2.2.2.2.2)) ||| r4) ||| r5) ||| r6)), (5, .int (nI so.2.2.2.2.2)), (0, .ref (sa 0)), (1, .int kd), (2, .int f1), (3, .int f2), (4, .int f3)]) hx hb dX2_add_46 hl (by decide) rfl (fun ls hl => ?_)
      refine lv_aload_n hx hb dX2_add_48 rfl (lv_at hl 2 rfl) ?_
      refine va_get (D := D) (ci := 2) (v := .ref (sa 1)) (C := RX2) (T := TX2) (N := 6) hx hb hts (yy_tl inX2) hown hK hP 0 rfl rfl 0 (by decide) (hw _ wq_55) (fun _ h9 => h9) rfl dX2_add_49 ?_
      refine lv_iload hx hb dX2_add_52 (lv_at hl 1 rfl) ?_
      refine lv_iload_n hx hb dX2_add_54 rfl (lv_at hl 3 rfl) ?_
      refine yr_iast hx hb hK hP hD hS 1 0 (f := so.1) (j := so.2.2.2.2.2) rfl rfl rfl (st_isFull_lt ‹_ = st_isFull so› ‹_ = false› hs) (by decide) dX2_add_55 (fun H locs hP hD hS => ?_)
      have hP : va_P D vwCl (stW cI cJ sa (upd so.1 so.2.2.2.2.2 kd, so.2.1, so.2.2.1, so.2.2.2.1, so.2.2.2.2.1, so.2.2.2.2.2)) H := hP
      have hD : va_D A (stW cI cJ sa (upd so.1 so.2.2.2.2.2 kd, so.2.1, so.2.2.1, so.2.2.2.1, so.2.2.2.2.1, so.2.2.2.2.2)) := hD
      refine lv_aload_n hx hb dX2_add_56 rfl (lv_at hl 2 rfl) ?_
      refine va_get (D := D) (ci := 2) (v := .ref (sa 2)) (C := RX2) (T := TX2) (N := 6) hx hb hts (yy_tl inX2) hown hK hP 0 rfl rfl 1 (by decide) (hw _ wq_56) (fun _ h9 => h9) rfl dX2_add_57 ?_
      refine lv_iload hx hb dX2_add_60 (lv_at hl 1 rfl) ?_
      refine lv_iload_n hx hb dX2_add_62 rfl (lv_at hl 4 rfl) ?_
      refine yr_iast hx hb hK hP hD hS 2 0 (f := so.2.1) (j := so.2.2.2.2.2) rfl rfl rfl (st_isFull_lt ‹_ = st_isFull so› ‹_ = false› hs) (by decide) dX2_add_63 (fun H locs hP hD hS => ?_)
      have hP : va_P D vwCl (stW cI cJ sa (upd so.1 so.2.2.2.2.2 kd, upd so.2.1 so.2.2.2.2.2 f1, so.2.2.1, so.2.2.2.1, so.2.2.2.2.1, so.2.2.2.2.2)) H := hP
      have hD : va_D A (stW cI cJ sa (upd so.1 so.2.2.2.2.2 kd, upd so.2.1 so.2.2.2.2.2 f1, so.2.2.1, so.2.2.2.1, so.2.2.2.2.1, so.2.2.2.2.2)) := hD
      refine lv_aload_n hx hb dX2_add_64 rfl (lv_at hl 2 rfl) ?_
      refine va_get (D := D) (ci := 2) (v := .ref (sa 3)) (C := RX2) (T := TX2) (N := 6) hx hb hts (yy_tl inX2) hown hK hP 0 rfl rfl 2 (by decide) (hw _ wq_57) (fun _ h9 => h9) rfl dX2_add_65 ?_
      refine lv_iload hx hb dX2_add_68 (lv_at hl 1 rfl) ?_
      refine lv_iload_n hx hb dX2_add_70 rfl (lv_at hl 5 rfl) ?_
      refine yr_iast hx hb hK hP hD hS 3 0 (f := so.2.2.1) (j := so.2.2.2.2.2) rfl rfl rfl (st_isFull_lt ‹_ = st_isFull so› ‹_ = false› hs) (by decide) dX2_add_71 (fun H locs hP hD hS => ?_)
      have hP : va_P D vwCl (stW cI cJ sa (upd so.1 so.2.2.2.2.2 kd, upd so.2.1 so.2.2.2.2.2 f1, upd so.2.2.1 so.2.2.2.2.2 f2, so.2.2.2.1, so.2.2.2.2.1, so.2.2.2.2.2)) H := hP
      have hD : va_D A (stW cI cJ sa (upd so.1 so.2.2.2.2.2 kd, upd so.2.1 so.2.2.2.2.2 f1, upd so.2.2.1 so.2.2.2.2.2 f2, so.2.2.2.1, so.2.2.2.2.1, so.2.2.2.2.2)) := hD
      refine lv_aload_n hx hb dX2_add_72 rfl (lv_at hl 2 rfl) ?_
      refine va_get (D := D) (ci := 2) (v := .ref (sa 4)) (C := RX2) (T := TX2) (N := 6) hx hb hts (yy_tl inX2) hown hK hP 0 rfl rfl 3 (by decide) (hw _ wq_58) (fun _ h9 => h9) rfl dX2_add_73 ?_
      refine lv_iload hx hb dX2_add_76 (lv_at hl 1 rfl) ?_
      refine lv_iload hx hb dX2_add_78 (lv_at hl 6 rfl) ?_
      refine yr_iast hx hb hK hP hD hS 4 0 (f := so.2.2.2.1) (j := so.2.2.2.2.2) rfl rfl rfl (st_isFull_lt ‹_ = st_isFull so› ‹_ = false› hs) (by decide) dX2_add_80 (fun H locs hP hD hS => ?_)
      have hP : va_P D vwCl (stW cI cJ sa (upd so.1 so.2.2.2.2.2 kd, upd so.2.1 so.2.2.2.2.2 f1, upd so.2.2.1 so.2.2.2.2.2 f2, upd so.2.2.2.1 so.2.2.2.2.2 f3, so.2.2.2.2.1, so.2.2.2.2.2)) H := hP
      have hD : va_D A (stW cI cJ sa (upd so.1 so.2.2.2.2.2 kd, upd so.2.1 so.2.2.2.2.2 f1, upd so.2.2.1 so.2.2.2.2.2 f2, upd so.2.2.2.1 so.2.2.2.2.2 f3, so.2.2.2.2.1, so.2.2.2.2.2)) := hD
      refine lv_aload_n hx hb dX2_add_81 rfl (lv_at hl 2 rfl) ?_
      refine va_get (D := D) (ci := 2) (v := .ref (sa 5)) (C := RX2) (T := TX2) (N := 6) hx hb hts (yy_tl inX2) hown hK hP 0 rfl rfl 4 (by decide) (hw _ wq_59) (fun _ h9 => h9) rfl dX2_add_82 ?_
      refine lv_iload hx hb dX2_add_85 (lv_at hl 1 rfl) ?_
      refine lv_lload hx hb dX2_add_87 (lv_at hl 0 rfl) ?_
      refine yr_last hx hb hK hP hD hS 5 1 (f := so.2.2.2.2.1) (j := so.2.2.2.2.2) rfl rfl rfl (st_isFull_lt ‹_ = st_isFull so› ‹_ = false› hs) (by decide) dX2_add_89 (fun H locs hP hD hS => ?_)
      have hP : va_P D vwCl (stW cI cJ sa (upd so.1 so.2.2.2.2.2 kd, upd so.2.1 so.2.2.2.2.2 f1, upd so.2.2.1 so.2.2.2.2.2 f2, upd so.2.2.2.1 so.2.2.2.2.2 f3, vp_updL so.2.2.2.2.1 so.2.2.2.2.2 ((((ylshl 1 (nI so.2.2.2.2.2)) ||| r4) ||| r5) ||| r6), so.2.2.2.2.2)) H := hP
      have hD : va_D A (stW cI cJ sa (upd so.1 so.2.2.2.2.2 kd, upd so.2.1 so.2.2.2.2.2 f1, upd so.2.2.1 so.2.2.2.2.2 f2, upd so.2.2.2.1 so.2.2.2.2.2 f3, vp_updL so.2.2.2.2.1 so.2.2.2.2.2 ((((ylshl 1 (nI so.2.2.2.2.2)) ||| r4) ||| r5) ||| r6), so.2.2.2.2.2)) := hD
      refine lv_aload_n hx hb dX2_add_90 rfl (lv_at hl 2 rfl) ?_
      refine lv_iload hx hb dX2_add_91 (lv_at hl 1 rfl) ?_
      refine lv_iconst (v := (nI 1)) hx hb dX2_add_93 (by decide) ?_
      refine yr_iaddN hx hb dX2_add_94 ?_
      refine va_put (D := D) (ci := 2) (v := .int (nI (so.2.2.2.2.2 + 1))) (ty := .int) (C := RX2) (T := TX2) (N := 6) hx hb hts (yy_tl inX2) tyX2 tyX2_ok nX2 hown hK hP hD hS 0 rfl rfl 5 (by decide) (hw _ wq_60) (fun _ h9 => h9) rfl (by decide +kernel) rfl rfl (Nat.le_of_ble_eq_true rfl) dX2_add_95 (fun H locs hP hD hS => ?_)
      have hP : va_P D vwCl (stW cI cJ sa (upd so.1 so.2.2.2.2.2 kd, upd so.2.1 so.2.2.2.2.2 f1, upd so.2.2.1 so.2.2.2.2.2 f2, upd so.2.2.2.1 so.2.2.2.2.2 f3, vp_updL so.2.2.2.2.1 so.2.2.2.2.2 ((((ylshl 1 (nI so.2.2.2.2.2)) ||| r4) ||| r5) ||| r6), so.2.2.2.2.2 + 1)) H := hP
      have hD : va_D A (stW cI cJ sa (upd so.1 so.2.2.2.2.2 kd, upd so.2.1 so.2.2.2.2.2 f1, upd so.2.2.1 so.2.2.2.2.2 f2, upd so.2.2.2.1 so.2.2.2.2.2 f3, vp_updL so.2.2.2.2.1 so.2.2.2.2.2 ((((ylshl 1 (nI so.2.2.2.2.2)) ||| r4) ||| r5) ||| r6), so.2.2.2.2.2 + 1)) := hD
      refine lv_iload hx hb dX2_add_98 (lv_at hl 1 rfl) ?_
      subst hf
      exact yy_iret (v := (nI so.2.2.2.2.2)) hx hb hr hP hK hS hlocks dX2_add_100
  · have h2 := yB_1 h2
    have hf := yBt h2 hf
    refine lv_iconst (v := (-1)) hx hb dX2_add_7 (by decide) ?_
    subst hf
    exact yy_iret (v := (-1)) hx hb hr hP hK hS hlocks dX2_add_8

set_option maxHeartbeats 4000000 in
set_option maxRecDepth 100000 in
theorem c_st_reachOfAll (l : Launch) (D : va_G) (cI cJ cZ cN : ClassId) (sa : Nat → Nat) (objs : Int64) (so : SS) (hs : so.2.2.2.2.2 ≤ 60) (res : Int64) (hf : res = st_reachOfAll objs so) : yy_Met l yX2_reachOfAll wsX2_reachOfAll { frames := 1, cells := 0, slots := 0, locals := 22 } D vwCl (yT cI cJ cZ cN) [.ref (sa 0), .long objs] (stW cI cJ sa so) (some (.long res)) (stW cI cJ sa so) := by
  intro sz
  refine Met.ofW (cc := cX2_reachOfAll) (maxL := 6) (ret := (some .long)) (by decide) rfl ?_
  intro p e s m args below meth c s₁ B hml hv
  obtain ⟨rfl, hsz, hP, hK, hD0, hN⟩ := hv
  have hx := B.exec
  have hb := B.bytes
  have hr := B.returns
  have hts := atoms_spec (ws := wsX2_reachOfAll) B.pre
  have hw : ∀ w ∈ yW, w.before _ s = true := fun w h => hts w (List.mem_cons_of_mem _ h)
  have hown : s.vm.findClass RX2 = some m.cls := findClass_of_methodNamed B.named
  have hlocks := B.notSynchronized
  subst hsz
  have hD := hD0.self (sz := s.heap.size)
  generalize hAe : va_A (stW cI cJ sa so) s.heap.size = A at hD ⊢
  have hA : ∀ q : Nat, s.heap.size ≤ q → A q := fun q h => by rw [← hAe]; exact Or.inr h
  have hS : va_S A s.heap s.heap [] := va_S.rf
  have hl := lv_entry ([.ref (sa 0), .long objs]) (n := 6) (Nat.le_of_ble_eq_true rfl)
  rw [lg_entry_eq]
  generalize (lg_sl ([.ref (sa 0), .long objs]) ++ List.replicate (6 - (lg_sl ([.ref (sa 0), .long objs])).length) Slot.unset).toArray = ls at hl ⊢
  have hl : lv_has ls 6 [(0, .ref (sa 0)), (1, .long objs)] := hl
  have hL5 : ∀ (k : Nat) (i : Nat) (acc : Int64) (ls : Array Slot) (H : Heap) (locs : List Loc), i + k = so.2.2.2.2.2 → res = st_reachOfAll_L5 objs so k i acc → lv_has ls 6 [(0, .ref (sa 0)), (1, .long objs), (3, .long acc), (5, .int (nI i))] → va_P D vwCl (stW cI cJ sa so) H → va_D A (stW cI cJ sa so) → va_S A s.heap H locs → W p l e (headSpec wsX2_reachOfAll { frames := 1, cells := 0, slots := 0, locals := 22 }).room s m ([.ref (sa 0), .long objs] : List Value).toArray below meth c H locs 0 0 (MQ below (yy_Q A D vwCl (yT cI cJ cZ cN) (stW cI cJ sa so) (some (.long res))) ([.ref (sa 0), .long objs] : List Value).toArray s 0 0 A) (F0 m 5 ls []) := by
    intro k
    induction k with
    | zero =>
      intro i acc ls H locs hi hf hl hP hD hS
      rw [st_reachOfAll_L5] at hf
      refine lv_iload hx hb dX2_reachOfAll_5 (lv_at hl 3 rfl) ?_
      refine lv_aload_n hx hb dX2_reachOfAll_7 rfl (lv_at hl 0 rfl) ?_
      refine va_get (D := D) (ci := 2) (v := .int (nI so.2.2.2.2.2)) (C := RX2) (T := TX2) (N := 6) hx hb hts (yy_tl inX2) hown hK hP 0 rfl rfl 5 (by decide) (hw _ wq_60) (fun _ h9 => h9) rfl dX2_reachOfAll_8 ?_
      refine lv_icmp_ge (tgt := 39) hx hb dX2_reachOfAll_11 (by decide) (fun _ => ?_) (fun h => absurd (nI_le (by omega) (by omega)) h)
      refine lv_lload_n hx hb dX2_reachOfAll_39 rfl (lv_at hl 2 rfl) ?_
      subst hf
      exact yy_lret hx hb hr hP hK hS hlocks dX2_reachOfAll_40
    | succ k ih =>
      intro i acc ls H locs hi hf hl hP hD hS
      rw [st_reachOfAll_L5] at hf
      refine lv_iload hx hb dX2_reachOfAll_5 (lv_at hl 3 rfl) ?_
      refine lv_aload_n hx hb dX2_reachOfAll_7 rfl (lv_at hl 0 rfl) ?_
      refine va_get (D := D) (ci := 2) (v := .int (nI so.2.2.2.2.2)) (C := RX2) (T := TX2) (N := 6) hx hb hts (yy_tl inX2) hown hK hP 0 rfl rfl 5 (by decide) (hw _ wq_60) (fun _ h9 => h9) rfl dX2_reachOfAll_8 ?_
      refine lv_icmp_ge (tgt := 39) hx hb dX2_reachOfAll_11 (by decide) (fun h => absurd h (nI_ge (by omega) (by omega))) (fun _ => ?_)
      refine lv_lload_n hx hb dX2_reachOfAll_14 rfl (lv_at hl 1 rfl) ?_
      refine lv_iload hx hb dX2_reachOfAll_15 (lv_at hl 3 rfl) ?_
      obtain ⟨r1, er1⟩ : ∃ r, r = px_isIn objs (nI i) := ⟨_, rfl⟩
      have hf := yb_e er1 hf
      refine yz_callSN (As := [.long objs, .int (nI i)]) (rest := []) ⟨hx, hb, hml, hown, hts⟩ (c_px_isIn l D cI cJ cZ cN objs (nI i)  r1 er1) ⟨va_cnB 2 hts (yy_good wq_194) rfl rfl rfl hN.2.2.1 (hw _ wq_34) (by decide +kernel) ⟨Nat.le_of_ble_eq_true rfl, Nat.le_of_ble_eq_true rfl⟩, hw _ wq_193, trivial⟩ hK hN hP hD hS hA [] rfl (by decide) rfl 0 rfl (w2 := (stW cI cJ sa so)) rfl rfl hl.1 rfl (Nat.le_of_ble_eq_true rfl) dX2_reachOfAll_17 ⟨Nat.zero_le _, Nat.zero_le _⟩ (fun H locs hP hD hS => ?_)
      refine W.eq (g2 := F0 m 20 ls [.int (yB r1)]) rfl ?_
      refine lv_if_eq (tgt := 33) hx hb dX2_reachOfAll_20 (by decide) (fun h2 => ?_) (fun h2 => ?_)
      · have h2 := yB_0.mp h2
        have hf := yBf h2 hf
        refine lv_iinc (k := 3) (v := (nI (i + 1))) (lv' := [(5, .int (nI (i + 1))), (0, .ref (sa 0)), (1, .long objs), (3, .long acc)]) hx hb dX2_reachOfAll_33 hl rfl (yy_inc _) (by decide) rfl (fun ls hl => ?_)
        refine lv_goto (tgt := 5) hx hb dX2_reachOfAll_36 (by decide) ?_
        exact ih (i + 1) acc _ _ _ (by omega) hf (lv_sub hl [1, 2, 3, 0] rfl) hP hD hS
      · have h2 := yB_1 h2
        have hf := yBt h2 hf
        refine lv_lload_n hx hb dX2_reachOfAll_23 rfl (lv_at hl 2 rfl) ?_
        refine lv_aload_n hx hb dX2_reachOfAll_24 rfl (lv_at hl 0 rfl) ?_
        refine va_get (D := D) (ci := 2) (v := .ref (sa 5)) (C := RX2) (T := TX2) (N := 6) hx hb hts (yy_tl inX2) hown hK hP 0 rfl rfl 4 (by decide) (hw _ wq_59) (fun _ h9 => h9) rfl dX2_reachOfAll_25 ?_
        refine lv_iload hx hb dX2_reachOfAll_28 (lv_at hl 3 rfl) ?_
        refine yr_lald hx hb hK hP 5 1 (f := so.2.2.2.2.1) (j := i) rfl rfl rfl (by omega) (by decide) dX2_reachOfAll_30 ?_
        refine lv_lor hx hb dX2_reachOfAll_31 ?_
        refine lv_lstore_n (lv' := [(3, .long (acc ||| (so.2.2.2.2.1 i))), (0, .ref (sa 0)), (1, .long objs), (5, .int (nI i))]) hx hb dX2_reachOfAll_32 rfl hl (by decide) rfl (fun ls hl => ?_)
        refine lv_iinc (k := 3) (v := (nI (i + 1))) (lv' := [(5, .int (nI (i + 1))), (3, .long (acc ||| (so.2.2.2.2.1 i))), (0, .ref (sa 0)), (1, .long objs)]) hx hb dX2_reachOfAll_33 hl rfl (yy_inc _) (by decide) rfl (fun ls hl => ?_)
        refine lv_goto (tgt := 5) hx hb dX2_reachOfAll_36 (by decide) ?_
        exact ih (i + 1) (acc ||| (so.2.2.2.2.1 i)) _ _ _ (by omega) hf (lv_sub hl [2, 3, 1, 0] rfl) hP hD hS
  rw [st_reachOfAll] at hf
  refine lv_lconst (v := 0) hx hb dX2_reachOfAll_0 (by decide) ?_
  refine lv_lstore_n (lv' := [(3, .long 0), (0, .ref (sa 0)), (1, .long objs)]) hx hb dX2_reachOfAll_1 rfl hl (by decide) rfl (fun ls hl => ?_)
  refine lv_iconst (v := (nI 0)) hx hb dX2_reachOfAll_2 (by decide) ?_
  refine lv_istore (lv' := [(5, .int (nI 0)), (3, .long 0), (0, .ref (sa 0)), (1, .long objs)]) hx hb dX2_reachOfAll_3 hl (by decide) rfl (fun ls hl => ?_)
  exact hL5 so.2.2.2.2.2 0 0 _ _ _ (by omega) hf (lv_sub hl [2, 3, 1, 0] rfl) hP hD hS

set_option maxHeartbeats 4000000 in
set_option maxRecDepth 100000 in
theorem c_st_eachReachesOne (l : Launch) (D : va_G) (cI cJ cZ cN : ClassId) (sa : Nat → Nat) (objs : Int64) (goals : Int64) (so : SS) (hs : so.2.2.2.2.2 ≤ 60) (res : Bool) (hf : res = st_eachReachesOne objs goals so) : yy_Met l yX2_eachReachesOne wsX2_eachReachesOne { frames := 1, cells := 0, slots := 0, locals := 22 } D vwCl (yT cI cJ cZ cN) [.ref (sa 0), .long objs, .long goals] (stW cI cJ sa so) (some (.int (yB res))) (stW cI cJ sa so) := by
  intro sz
  refine Met.ofW (cc := cX2_eachReachesOne) (maxL := 6) (ret := (some .boolean)) (by decide) rfl ?_
  intro p e s m args below meth c s₁ B hml hv
  obtain ⟨rfl, hsz, hP, hK, hD0, hN⟩ := hv
  have hx := B.exec
  have hb := B.bytes
  have hr := B.returns
  have hts := atoms_spec (ws := wsX2_eachReachesOne) B.pre
  have hw : ∀ w ∈ yW, w.before _ s = true := fun w h => hts w (List.mem_cons_of_mem _ h)
  have hown : s.vm.findClass RX2 = some m.cls := findClass_of_methodNamed B.named
  have hlocks := B.notSynchronized
  subst hsz
  have hD := hD0.self (sz := s.heap.size)
  generalize hAe : va_A (stW cI cJ sa so) s.heap.size = A at hD ⊢
  have hA : ∀ q : Nat, s.heap.size ≤ q → A q := fun q h => by rw [← hAe]; exact Or.inr h
  have hS : va_S A s.heap s.heap [] := va_S.rf
  have hl := lv_entry ([.ref (sa 0), .long objs, .long goals]) (n := 6) (Nat.le_of_ble_eq_true rfl)
  rw [lg_entry_eq]
  generalize (lg_sl ([.ref (sa 0), .long objs, .long goals]) ++ List.replicate (6 - (lg_sl ([.ref (sa 0), .long objs, .long goals])).length) Slot.unset).toArray = ls at hl ⊢
  have hl : lv_has ls 6 [(0, .ref (sa 0)), (1, .long objs), (3, .long goals)] := hl
  have hL3 : ∀ (k : Nat) (i : Nat) (ls : Array Slot) (H : Heap) (locs : List Loc), i + k = so.2.2.2.2.2 → res = st_eachReachesOne_L3 objs goals so k i → lv_has ls 6 [(0, .ref (sa 0)), (1, .long objs), (3, .long goals), (5, .int (nI i))] → va_P D vwCl (stW cI cJ sa so) H → va_D A (stW cI cJ sa so) → va_S A s.heap H locs → W p l e (headSpec wsX2_eachReachesOne { frames := 1, cells := 0, slots := 0, locals := 22 }).room s m ([.ref (sa 0), .long objs, .long goals] : List Value).toArray below meth c H locs 0 0 (MQ below (yy_Q A D vwCl (yT cI cJ cZ cN) (stW cI cJ sa so) (some (.int (yB res)))) ([.ref (sa 0), .long objs, .long goals] : List Value).toArray s 0 0 A) (F0 m 3 ls []) := by
    intro k
    induction k with
    | zero =>
      intro i ls H locs hi hf hl hP hD hS
      rw [st_eachReachesOne_L3] at hf
      refine lv_iload hx hb dX2_eachReachesOne_3 (lv_at hl 3 rfl) ?_
      refine lv_aload_n hx hb dX2_eachReachesOne_5 rfl (lv_at hl 0 rfl) ?_
      refine va_get (D := D) (ci := 2) (v := .int (nI so.2.2.2.2.2)) (C := RX2) (T := TX2) (N := 6) hx hb hts (yy_tl inX2) hown hK hP 0 rfl rfl 5 (by decide) (hw _ wq_60) (fun _ h9 => h9) rfl dX2_eachReachesOne_6 ?_
      refine lv_icmp_ge (tgt := 43) hx hb dX2_eachReachesOne_9 (by decide) (fun _ => ?_) (fun h => absurd (nI_le (by omega) (by omega)) h)
      refine lv_iconst (v := 1) hx hb dX2_eachReachesOne_43 (by decide) ?_
      subst hf
      exact yy_zret (v := yB true) hx hb hr (yB_n _) hP hK hS hlocks dX2_eachReachesOne_44
    | succ k ih =>
      intro i ls H locs hi hf hl hP hD hS
      rw [st_eachReachesOne_L3] at hf
      refine lv_iload hx hb dX2_eachReachesOne_3 (lv_at hl 3 rfl) ?_
      refine lv_aload_n hx hb dX2_eachReachesOne_5 rfl (lv_at hl 0 rfl) ?_
      refine va_get (D := D) (ci := 2) (v := .int (nI so.2.2.2.2.2)) (C := RX2) (T := TX2) (N := 6) hx hb hts (yy_tl inX2) hown hK hP 0 rfl rfl 5 (by decide) (hw _ wq_60) (fun _ h9 => h9) rfl dX2_eachReachesOne_6 ?_
      refine lv_icmp_ge (tgt := 43) hx hb dX2_eachReachesOne_9 (by decide) (fun h => absurd h (nI_ge (by omega) (by omega))) (fun _ => ?_)
      refine lv_lload_n hx hb dX2_eachReachesOne_12 rfl (lv_at hl 1 rfl) ?_
      refine lv_iload hx hb dX2_eachReachesOne_13 (lv_at hl 3 rfl) ?_
      obtain ⟨r1, er1⟩ : ∃ r, r = px_isIn objs (nI i) := ⟨_, rfl⟩
      have hf := yb_e er1 hf
      refine yz_callSN (As := [.long objs, .int (nI i)]) (rest := []) ⟨hx, hb, hml, hown, hts⟩ (c_px_isIn l D cI cJ cZ cN objs (nI i)  r1 er1) ⟨va_cnB 2 hts (yy_good wq_194) rfl rfl rfl hN.2.2.1 (hw _ wq_34) (by decide +kernel) ⟨Nat.le_of_ble_eq_true rfl, Nat.le_of_ble_eq_true rfl⟩, hw _ wq_193, trivial⟩ hK hN hP hD hS hA [] rfl (by decide) rfl 0 rfl (w2 := (stW cI cJ sa so)) rfl rfl hl.1 rfl (Nat.le_of_ble_eq_true rfl) dX2_eachReachesOne_15 ⟨Nat.zero_le _, Nat.zero_le _⟩ (fun H locs hP hD hS => ?_)
      refine W.eq (g2 := F0 m 18 ls [.int (yB r1)]) rfl ?_
      refine lv_if_eq (tgt := 37) hx hb dX2_eachReachesOne_18 (by decide) (fun h2 => ?_) (fun h2 => ?_)
      · have h2 := yB_0.mp h2
        have hf := yBf h2 hf
        refine lv_iinc (k := 3) (v := (nI (i + 1))) (lv' := [(5, .int (nI (i + 1))), (0, .ref (sa 0)), (1, .long objs), (3, .long goals)]) hx hb dX2_eachReachesOne_37 hl rfl (yy_inc _) (by decide) rfl (fun ls hl => ?_)
        refine lv_goto (tgt := 3) hx hb dX2_eachReachesOne_40 (by decide) ?_
        exact ih (i + 1) _ _ _ (by omega) hf (lv_sub hl [1, 2, 3, 0] rfl) hP hD hS
      · have h2 := yB_1 h2
        have hf := yBt h2 hf
        refine lv_aload_n hx hb dX2_eachReachesOne_21 rfl (lv_at hl 0 rfl) ?_
        refine va_get (D := D) (ci := 2) (v := .ref (sa 5)) (C := RX2) (T := TX2) (N := 6) hx hb hts (yy_tl inX2) hown hK hP 0 rfl rfl 4 (by decide) (hw _ wq_59) (fun _ h9 => h9) rfl dX2_eachReachesOne_22 ?_
        refine lv_iload hx hb dX2_eachReachesOne_25 (lv_at hl 3 rfl) ?_
        refine yr_lald hx hb hK hP 5 1 (f := so.2.2.2.2.1) (j := i) rfl rfl rfl (by omega) (by decide) dX2_eachReachesOne_27 ?_
        refine lv_lload_n hx hb dX2_eachReachesOne_28 rfl (lv_at hl 2 rfl) ?_
        refine lv_land hx hb dX2_eachReachesOne_29 ?_
        refine lv_lconst (v := 0) hx hb dX2_eachReachesOne_30 (by decide) ?_
        refine W.lcmp hx hb dX2_eachReachesOne_31 ?_
        refine lv_if_ne (tgt := 37) hx hb dX2_eachReachesOne_32 (by decide) (fun h3 => ?_) (fun h3 => ?_)
        · have h3 := yy_cmp1 h3
          have hf := yf h3 hf
          refine lv_iinc (k := 3) (v := (nI (i + 1))) (lv' := [(5, .int (nI (i + 1))), (0, .ref (sa 0)), (1, .long objs), (3, .long goals)]) hx hb dX2_eachReachesOne_37 hl rfl (yy_inc _) (by decide) rfl (fun ls hl => ?_)
          refine lv_goto (tgt := 3) hx hb dX2_eachReachesOne_40 (by decide) ?_
          exact ih (i + 1) _ _ _ (by omega) hf (lv_sub hl [1, 2, 3, 0] rfl) hP hD hS
        · have h3 := yy_cmp0 h3
          have hf := yt h3 hf
          refine lv_iconst (v := 0) hx hb dX2_eachReachesOne_35 (by decide) ?_
          subst hf
          exact yy_zret (v := yB false) hx hb hr (yB_n _) hP hK hS hlocks dX2_eachReachesOne_36
  rw [st_eachReachesOne] at hf
  refine lv_iconst (v := (nI 0)) hx hb dX2_eachReachesOne_0 (by decide) ?_
  refine lv_istore (lv' := [(5, .int (nI 0)), (0, .ref (sa 0)), (1, .long objs), (3, .long goals)]) hx hb dX2_eachReachesOne_1 hl (by decide) rfl (fun ls hl => ?_)
  exact hL3 so.2.2.2.2.2 0 _ _ _ (by omega) hf (lv_sub hl [1, 2, 3, 0] rfl) hP hD hS

set_option maxHeartbeats 4000000 in
set_option maxRecDepth 100000 in
theorem c_st_allOfKind (l : Launch) (D : va_G) (cI cJ cZ cN : ClassId) (sa : Nat → Nat) (kd : Int32) (so : SS) (hs : so.2.2.2.2.2 ≤ 60) (res : Int64) (hf : res = st_allOfKind kd so) : yy_Met l yX2_allOfKind wsX2_allOfKind { frames := 0, cells := 0, slots := 0, locals := 0 } D vwCl (yT cI cJ cZ cN) [.ref (sa 0), .int kd] (stW cI cJ sa so) (some (.long res)) (stW cI cJ sa so) := by
  intro sz
  refine Met.ofW (cc := cX2_allOfKind) (maxL := 5) (ret := (some .long)) (by decide) rfl ?_
  intro p e s m args below meth c s₁ B hml hv
  obtain ⟨rfl, hsz, hP, hK, hD0, hN⟩ := hv
  have hx := B.exec
  have hb := B.bytes
  have hr := B.returns
  have hts := atoms_spec (ws := wsX2_allOfKind) B.pre
  have hw : ∀ w ∈ yW, w.before _ s = true := fun w h => hts w (List.mem_cons_of_mem _ h)
  have hown : s.vm.findClass RX2 = some m.cls := findClass_of_methodNamed B.named
  have hlocks := B.notSynchronized
  subst hsz
  have hD := hD0.self (sz := s.heap.size)
  generalize hAe : va_A (stW cI cJ sa so) s.heap.size = A at hD ⊢
  have hA : ∀ q : Nat, s.heap.size ≤ q → A q := fun q h => by rw [← hAe]; exact Or.inr h
  have hS : va_S A s.heap s.heap [] := va_S.rf
  have hl := lv_entry ([.ref (sa 0), .int kd]) (n := 5) (Nat.le_of_ble_eq_true rfl)
  rw [lg_entry_eq]
  generalize (lg_sl ([.ref (sa 0), .int kd]) ++ List.replicate (5 - (lg_sl ([.ref (sa 0), .int kd])).length) Slot.unset).toArray = ls at hl ⊢
  have hl : lv_has ls 5 [(0, .ref (sa 0)), (1, .int kd)] := hl
  have hL5 : ∀ (k : Nat) (i : Nat) (acc : Int64) (ls : Array Slot) (H : Heap) (locs : List Loc), i + k = so.2.2.2.2.2 → res = st_allOfKind_L5 kd so k i acc → lv_has ls 5 [(0, .ref (sa 0)), (1, .int kd), (2, .long acc), (4, .int (nI i))] → va_P D vwCl (stW cI cJ sa so) H → va_D A (stW cI cJ sa so) → va_S A s.heap H locs → W p l e (headSpec wsX2_allOfKind { frames := 0, cells := 0, slots := 0, locals := 0 }).room s m ([.ref (sa 0), .int kd] : List Value).toArray below meth c H locs 0 0 (MQ below (yy_Q A D vwCl (yT cI cJ cZ cN) (stW cI cJ sa so) (some (.long res))) ([.ref (sa 0), .int kd] : List Value).toArray s 0 0 A) (F0 m 5 ls []) := by
    intro k
    induction k with
    | zero =>
      intro i acc ls H locs hi hf hl hP hD hS
      rw [st_allOfKind_L5] at hf
      refine lv_iload hx hb dX2_allOfKind_5 (lv_at hl 3 rfl) ?_
      refine lv_aload_n hx hb dX2_allOfKind_7 rfl (lv_at hl 0 rfl) ?_
      refine va_get (D := D) (ci := 2) (v := .int (nI so.2.2.2.2.2)) (C := RX2) (T := TX2) (N := 6) hx hb hts (yy_tl inX2) hown hK hP 0 rfl rfl 5 (by decide) (hw _ wq_60) (fun _ h9 => h9) rfl dX2_allOfKind_8 ?_
      refine lv_icmp_ge (tgt := 38) hx hb dX2_allOfKind_11 (by decide) (fun _ => ?_) (fun h => absurd (nI_le (by omega) (by omega)) h)
      refine lv_lload_n hx hb dX2_allOfKind_38 rfl (lv_at hl 2 rfl) ?_
      subst hf
      exact yy_lret hx hb hr hP hK hS hlocks dX2_allOfKind_39
    | succ k ih =>
      intro i acc ls H locs hi hf hl hP hD hS
      rw [st_allOfKind_L5] at hf
      refine lv_iload hx hb dX2_allOfKind_5 (lv_at hl 3 rfl) ?_
      refine lv_aload_n hx hb dX2_allOfKind_7 rfl (lv_at hl 0 rfl) ?_
      refine va_get (D := D) (ci := 2) (v := .int (nI so.2.2.2.2.2)) (C := RX2) (T := TX2) (N := 6) hx hb hts (yy_tl inX2) hown hK hP 0 rfl rfl 5 (by decide) (hw _ wq_60) (fun _ h9 => h9) rfl dX2_allOfKind_8 ?_
      refine lv_icmp_ge (tgt := 38) hx hb dX2_allOfKind_11 (by decide) (fun h => absurd h (nI_ge (by omega) (by omega))) (fun _ => ?_)
      refine lv_aload_n hx hb dX2_allOfKind_14 rfl (lv_at hl 0 rfl) ?_
      refine va_get (D := D) (ci := 2) (v := .ref (sa 1)) (C := RX2) (T := TX2) (N := 6) hx hb hts (yy_tl inX2) hown hK hP 0 rfl rfl 0 (by decide) (hw _ wq_55) (fun _ h9 => h9) rfl dX2_allOfKind_15 ?_
      refine lv_iload hx hb dX2_allOfKind_18 (lv_at hl 3 rfl) ?_
      refine yr_iald hx hb hK hP 1 0 (f := so.1) (j := i) rfl rfl rfl (by omega) (by decide) dX2_allOfKind_20 ?_
      refine lv_iload_n hx hb dX2_allOfKind_21 rfl (lv_at hl 1 rfl) ?_
      refine lv_icmp_ne (tgt := 32) hx hb dX2_allOfKind_22 (by decide) (fun h1 => ?_) (fun h1 => ?_)
      · have hf := yf h1 hf
        refine lv_iinc (k := 3) (v := (nI (i + 1))) (lv' := [(4, .int (nI (i + 1))), (0, .ref (sa 0)), (1, .int kd), (2, .long acc)]) hx hb dX2_allOfKind_32 hl rfl (yy_inc _) (by decide) rfl (fun ls hl => ?_)
        refine lv_goto (tgt := 5) hx hb dX2_allOfKind_35 (by decide) ?_
        exact ih (i + 1) acc _ _ _ (by omega) hf (lv_sub hl [1, 2, 3, 0] rfl) hP hD hS
      · have hf := yt h1 hf
        refine lv_lload_n hx hb dX2_allOfKind_25 rfl (lv_at hl 2 rfl) ?_
        refine lv_lconst (v := 1) hx hb dX2_allOfKind_26 (by decide) ?_
        refine lv_iload hx hb dX2_allOfKind_27 (lv_at hl 3 rfl) ?_
        refine lv_lshl (v := ylshl 1 (nI i)) hx hb dX2_allOfKind_29 rfl ?_
        refine lv_lor hx hb dX2_allOfKind_30 ?_
        refine lv_lstore_n (lv' := [(2, .long (acc ||| (ylshl 1 (nI i)))), (0, .ref (sa 0)), (1, .int kd), (4, .int (nI i))]) hx hb dX2_allOfKind_31 rfl hl (by decide) rfl (fun ls hl => ?_)
        refine lv_iinc (k := 3) (v := (nI (i + 1))) (lv' := [(4, .int (nI (i + 1))), (2, .long (acc ||| (ylshl 1 (nI i)))), (0, .ref (sa 0)), (1, .int kd)]) hx hb dX2_allOfKind_32 hl rfl (yy_inc _) (by decide) rfl (fun ls hl => ?_)
        refine lv_goto (tgt := 5) hx hb dX2_allOfKind_35 (by decide) ?_
        exact ih (i + 1) (acc ||| (ylshl 1 (nI i))) _ _ _ (by omega) hf (lv_sub hl [2, 3, 1, 0] rfl) hP hD hS
  rw [st_allOfKind] at hf
  refine lv_lconst (v := 0) hx hb dX2_allOfKind_0 (by decide) ?_
  refine lv_lstore_n (lv' := [(2, .long 0), (0, .ref (sa 0)), (1, .int kd)]) hx hb dX2_allOfKind_1 rfl hl (by decide) rfl (fun ls hl => ?_)
  refine lv_iconst (v := (nI 0)) hx hb dX2_allOfKind_2 (by decide) ?_
  refine lv_istore (lv' := [(4, .int (nI 0)), (2, .long 0), (0, .ref (sa 0)), (1, .int kd)]) hx hb dX2_allOfKind_3 hl (by decide) rfl (fun ls hl => ?_)
  exact hL5 so.2.2.2.2.2 0 0 _ _ _ (by omega) hf (lv_sub hl [2, 3, 1, 0] rfl) hP hD hS
