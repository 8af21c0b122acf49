set_option maxHeartbeats 4000000 in
set_option maxRecDepth 100000 in
theorem c_px_isNode (l : Launch) (D : va_G) (cI cJ cZ cN : ClassId)  (x : Int32)  (res : Bool) (hf : res = px_isNode x) : yy_Met l yX4_isNode wsX4_isNode { frames := 0, cells := 0, slots := 0, locals := 0 } D vwCl (yT cI cJ cZ cN) [.int x] ([] : va_W) (some (.int (yB res))) ([] : va_W) := by
  intro sz
  refine Met.ofW (cc := cX4_isNode) (maxL := 1) (ret := (some .boolean)) (by decide) rfl ?_
  intro p e s m args below meth c s₁ B hml hv
  obtain ⟨rfl, hsz, hP, hK, hD0, hN⟩ := hv
  have hx := B.exec
  have hb := B.bytes
  have hr := B.returns
  have hts := atoms_spec (ws := wsX4_isNode) B.pre
  have hw : ∀ w ∈ yW, w.before _ s = true := fun w h => hts w (List.mem_cons_of_mem _ h)
  have hown : s.vm.findClass RX4 = some m.cls := findClass_of_methodNamed B.named
  have hlocks := B.notSynchronized
  subst hsz
  have hD := hD0.self (sz := s.heap.size)
  generalize hAe : va_A ([] : va_W) s.heap.size = A at hD ⊢
  have hA : ∀ q : Nat, s.heap.size ≤ q → A q := fun q h => by rw [← hAe]; exact Or.inr h
  have hS : va_S A s.heap s.heap [] := va_S.rf
  have hl := lv_entry ([.int x]) (n := 1) (Nat.le_of_ble_eq_true rfl)
  rw [lg_entry_eq]
  generalize (lg_sl ([.int x]) ++ List.replicate (1 - (lg_sl ([.int x])).length) Slot.unset).toArray = ls at hl ⊢
  have hl : lv_has ls 1 [(0, .int x)] := hl
  rw [px_isNode] at hf
  refine lv_iload_n hx hb dX4_isNode_0 rfl (lv_at hl 0 rfl) ?_
  refine lv_if_lt (tgt := 13) hx hb dX4_isNode_1 (by decide) (fun h1 => ?_) (fun h1 => ?_)
  · have hf := yt h1 hf
    refine lv_iconst (v := 0) hx hb dX4_isNode_13 (by decide) ?_
    subst hf
    exact yy_zret (v := yB false) hx hb hr (yB_n _) hP hK hS hlocks dX4_isNode_14
  · have hf := yf h1 hf
    refine lv_iload_n hx hb dX4_isNode_4 rfl (lv_at hl 0 rfl) ?_
    refine lv_iconst (v := 3) hx hb dX4_isNode_5 (by decide) ?_
    refine lv_icmp_ge (tgt := 13) hx hb dX4_isNode_6 (by decide) (fun h2 => ?_) (fun h2 => ?_)
    · have hf := yt h2 hf
      refine lv_iconst (v := 0) hx hb dX4_isNode_13 (by decide) ?_
      subst hf
      exact yy_zret (v := yB false) hx hb hr (yB_n _) hP hK hS hlocks dX4_isNode_14
    · have hf := yf h2 hf
      refine lv_iconst (v := 1) hx hb dX4_isNode_9 (by decide) ?_
      refine lv_goto (tgt := 14) hx hb dX4_isNode_10 (by decide) ?_
      subst hf
      exact yy_zret (v := yB true) hx hb hr (yB_n _) hP hK hS hlocks dX4_isNode_14

set_option maxHeartbeats 4000000 in
set_option maxRecDepth 100000 in
theorem c_px_isClient (l : Launch) (D : va_G) (cI cJ cZ cN : ClassId)  (x : Int32)  (res : Bool) (hf : res = px_isClient x) : yy_Met l yX4_isClient wsX4_isClient { frames := 1, cells := 0, slots := 0, locals := 20 } D vwCl (yT cI cJ cZ cN) [.int x] ([] : va_W) (some (.int (yB res))) ([] : va_W) := by
  intro sz
  refine Met.ofW (cc := cX4_isClient) (maxL := 1) (ret := (some .boolean)) (by decide) rfl ?_
  intro p e s m args below meth c s₁ B hml hv
  obtain ⟨rfl, hsz, hP, hK, hD0, hN⟩ := hv
  have hx := B.exec
  have hb := B.bytes
  have hr := B.returns
  have hts := atoms_spec (ws := wsX4_isClient) B.pre
  have hw : ∀ w ∈ yW, w.before _ s = true := fun w h => hts w (List.mem_cons_of_mem _ h)
  have hown : s.vm.findClass RX4 = some m.cls := findClass_of_methodNamed B.named
  have hlocks := B.notSynchronized
  subst hsz
  have hD := hD0.self (sz := s.heap.size)
  generalize hAe : va_A ([] : va_W) s.heap.size = A at hD ⊢
  have hA : ∀ q : Nat, s.heap.size ≤ q → A q := fun q h => by rw [← hAe]; exact Or.inr h
  have hS : va_S A s.heap s.heap [] := va_S.rf
  have hl := lv_entry ([.int x]) (n := 1) (Nat.le_of_ble_eq_true rfl)
  rw [lg_entry_eq]
  generalize (lg_sl ([.int x]) ++ List.replicate (1 - (lg_sl ([.int x])).length) Slot.unset).toArray = ls at hl ⊢
  have hl : lv_has ls 1 [(0, .int x)] := hl
  rw [px_isClient] at hf
  refine lv_iload_n hx hb dX4_isClient_0 rfl (lv_at hl 0 rfl) ?_
  obtain ⟨r1, er1⟩ : ∃ r, r = px_isNode x := ⟨_, rfl⟩
  have hf := yb_e er1 hf
  refine yz_callS (As := [.int x]) (rest := []) ⟨hx, hb, hml, hown, hts⟩ (c_px_isNode l D cI cJ cZ cN x  r1 er1) ⟨callB_of 1 hts (yy_good wq_171) rfl rfl rfl (hw _ wq_34) (hw _ wq_169) (by decide +kernel) ⟨Nat.le_of_ble_eq_true rfl, Nat.le_of_ble_eq_true rfl⟩, hw _ wq_170⟩ hK hN hP hD hS hA [] rfl (by decide) rfl 0 rfl (w2 := ([] : va_W)) rfl rfl hl.1 rfl (Nat.le_of_ble_eq_true rfl) dX4_isClient_1 ⟨Nat.zero_le _, Nat.zero_le _⟩ (fun H locs hP hD hS => ?_)
  refine W.eq (g2 := F0 m 4 ls [.int (yB r1)]) rfl ?_
  refine lv_if_eq (tgt := 15) hx hb dX4_isClient_4 (by decide) (fun h2 => ?_) (fun h2 => ?_)
  · have h2 := yB_0.mp h2
    have hf := yBf h2 hf
    refine lv_iconst (v := 0) hx hb dX4_isClient_15 (by decide) ?_
    subst hf
    exact yy_zret (v := yB false) hx hb hr (yB_n _) hP hK hS hlocks dX4_isClient_16
  · have h2 := yB_1 h2
    have hf := yBt h2 hf
    refine lv_iload_n hx hb dX4_isClient_7 rfl (lv_at hl 0 rfl) ?_
    refine lv_if_eq (tgt := 15) hx hb dX4_isClient_8 (by decide) (fun h3 => ?_) (fun h3 => ?_)
    · have hf := yt h3 hf
      refine lv_iconst (v := 0) hx hb dX4_isClient_15 (by decide) ?_
      subst hf
      exact yy_zret (v := yB false) hx hb hr (yB_n _) hP hK hS hlocks dX4_isClient_16
    · have hf := yf h3 hf
      refine lv_iconst (v := 1) hx hb dX4_isClient_11 (by decide) ?_
      refine lv_goto (tgt := 16) hx hb dX4_isClient_12 (by decide) ?_
      subst hf
      exact yy_zret (v := yB true) hx hb hr (yB_n _) hP hK hS hlocks dX4_isClient_16

set_option maxHeartbeats 4000000 in
set_option maxRecDepth 100000 in
theorem c_px_isOwnReference (l : Launch) (D : va_G) (cI cJ cZ cN : ClassId)  (x : Int32)  (res : Bool) (hf : res = px_isOwnReference x) : yy_Met l yX4_isOwnReference wsX4_isOwnReference { frames := 0, cells := 0, slots := 0, locals := 0 } D vwCl (yT cI cJ cZ cN) [.int x] ([] : va_W) (some (.int (yB res))) ([] : va_W) := by
  intro sz
  refine Met.ofW (cc := cX4_isOwnReference) (maxL := 1) (ret := (some .boolean)) (by decide) rfl ?_
  intro p e s m args below meth c s₁ B hml hv
  obtain ⟨rfl, hsz, hP, hK, hD0, hN⟩ := hv
  have hx := B.exec
  have hb := B.bytes
  have hr := B.returns
  have hts := atoms_spec (ws := wsX4_isOwnReference) B.pre
  have hw : ∀ w ∈ yW, w.before _ s = true := fun w h => hts w (List.mem_cons_of_mem _ h)
  have hown : s.vm.findClass RX4 = some m.cls := findClass_of_methodNamed B.named
  have hlocks := B.notSynchronized
  subst hsz
  have hD := hD0.self (sz := s.heap.size)
  generalize hAe : va_A ([] : va_W) s.heap.size = A at hD ⊢
  have hA : ∀ q : Nat, s.heap.size ≤ q → A q := fun q h => by rw [← hAe]; exact Or.inr h
  have hS : va_S A s.heap s.heap [] := va_S.rf
  have hl := lv_entry ([.int x]) (n := 1) (Nat.le_of_ble_eq_true rfl)
  rw [lg_entry_eq]
  generalize (lg_sl ([.int x]) ++ List.replicate (1 - (lg_sl ([.int x])).length) Slot.unset).toArray = ls at hl ⊢
  have hl : lv_has ls 1 [(0, .int x)] := hl
  rw [px_isOwnReference] at hf
  refine lv_iload_n hx hb dX4_isOwnReference_0 rfl (lv_at hl 0 rfl) ?_
  refine lv_if_lt (tgt := 13) hx hb dX4_isOwnReference_1 (by decide) (fun h1 => ?_) (fun h1 => ?_)
  · have hf := yt h1 hf
    refine lv_iconst (v := 0) hx hb dX4_isOwnReference_13 (by decide) ?_
    subst hf
    exact yy_zret (v := yB false) hx hb hr (yB_n _) hP hK hS hlocks dX4_isOwnReference_14
  · have hf := yf h1 hf
    refine lv_iload_n hx hb dX4_isOwnReference_4 rfl (lv_at hl 0 rfl) ?_
    refine lv_iconst (v := 4) hx hb dX4_isOwnReference_5 (by decide) ?_
    refine lv_icmp_ge (tgt := 13) hx hb dX4_isOwnReference_6 (by decide) (fun h2 => ?_) (fun h2 => ?_)
    · have hf := yt h2 hf
      refine lv_iconst (v := 0) hx hb dX4_isOwnReference_13 (by decide) ?_
      subst hf
      exact yy_zret (v := yB false) hx hb hr (yB_n _) hP hK hS hlocks dX4_isOwnReference_14
    · have hf := yf h2 hf
      refine lv_iconst (v := 1) hx hb dX4_isOwnReference_9 (by decide) ?_
      refine lv_goto (tgt := 14) hx hb dX4_isOwnReference_10 (by decide) ?_
      subst hf
      exact yy_zret (v := yB true) hx hb hr (yB_n _) hP hK hS hlocks dX4_isOwnReference_14

set_option maxHeartbeats 4000000 in
set_option maxRecDepth 100000 in
theorem c_px_isSet (l : Launch) (D : va_G) (cI cJ cZ cN : ClassId)  (x : Int32)  (res : Bool) (hf : res = px_isSet x) : yy_Met l yX4_isSet wsX4_isSet { frames := 0, cells := 0, slots := 0, locals := 0 } D vwCl (yT cI cJ cZ cN) [.int x] ([] : va_W) (some (.int (yB res))) ([] : va_W) := by
  intro sz
  refine Met.ofW (cc := cX4_isSet) (maxL := 1) (ret := (some .boolean)) (by decide) rfl ?_
  intro p e s m args below meth c s₁ B hml hv
  obtain ⟨rfl, hsz, hP, hK, hD0, hN⟩ := hv
  have hx := B.exec
  have hb := B.bytes
  have hr := B.returns
  have hts := atoms_spec (ws := wsX4_isSet) B.pre
  have hw : ∀ w ∈ yW, w.before _ s = true := fun w h => hts w (List.mem_cons_of_mem _ h)
  have hown : s.vm.findClass RX4 = some m.cls := findClass_of_methodNamed B.named
  have hlocks := B.notSynchronized
  subst hsz
  have hD := hD0.self (sz := s.heap.size)
  generalize hAe : va_A ([] : va_W) s.heap.size = A at hD ⊢
  have hA : ∀ q : Nat, s.heap.size ≤ q → A q := fun q h => by rw [← hAe]; exact Or.inr h
  have hS : va_S A s.heap s.heap [] := va_S.rf
  have hl := lv_entry ([.int x]) (n := 1) (Nat.le_of_ble_eq_true rfl)
  rw [lg_entry_eq]
  generalize (lg_sl ([.int x]) ++ List.replicate (1 - (lg_sl ([.int x])).length) Slot.unset).toArray = ls at hl ⊢
  have hl : lv_has ls 1 [(0, .int x)] := hl
  rw [px_isSet] at hf
  refine lv_iload_n hx hb dX4_isSet_0 rfl (lv_at hl 0 rfl) ?_
  refine lv_iconst (v := 1) hx hb dX4_isSet_1 (by decide) ?_
  refine lv_icmp_lt (tgt := 15) hx hb dX4_isSet_2 (by decide) (fun h1 => ?_) (fun h1 => ?_)
  · have hf := yt h1 hf
    refine lv_iconst (v := 0) hx hb dX4_isSet_15 (by decide) ?_
    subst hf
    exact yy_zret (v := yB false) hx hb hr (yB_n _) hP hK hS hlocks dX4_isSet_16
  · have hf := yf h1 hf
    refine lv_iload_n hx hb dX4_isSet_5 rfl (lv_at hl 0 rfl) ?_
    refine lv_bipush (v := 15) hx hb dX4_isSet_6 (by decide) ?_
    refine lv_icmp_gt (tgt := 15) hx hb dX4_isSet_8 (by decide) (fun h2 => ?_) (fun h2 => ?_)
    · have hf := yt h2 hf
      refine lv_iconst (v := 0) hx hb dX4_isSet_15 (by decide) ?_
      subst hf
      exact yy_zret (v := yB false) hx hb hr (yB_n _) hP hK hS hlocks dX4_isSet_16
    · have hf := yf h2 hf
      refine lv_iconst (v := 1) hx hb dX4_isSet_11 (by decide) ?_
      refine lv_goto (tgt := 16) hx hb dX4_isSet_12 (by decide) ?_
      subst hf
      exact yy_zret (v := yB true) hx hb hr (yB_n _) hP hK hS hlocks dX4_isSet_16

set_option maxHeartbeats 4000000 in
set_option maxRecDepth 100000 in
theorem c_px_isIn (l : Launch) (D : va_G) (cI cJ cZ cN : ClassId)  (objs : Int64) (num : Int32)  (res : Bool) (hf : res = px_isIn objs num) : yy_Met l yX4_isIn wsX4_isIn { frames := 0, cells := 0, slots := 0, locals := 0 } D vwCl (yT cI cJ cZ cN) [.long objs, .int num] ([] : va_W) (some (.int (yB res))) ([] : va_W) := by
  intro sz
  refine Met.ofW (cc := cX4_isIn) (maxL := 3) (ret := (some .boolean)) (by decide) rfl ?_
  intro p e s m args below meth c s₁ B hml hv
  obtain ⟨rfl, hsz, hP, hK, hD0, hN⟩ := hv
  have hx := B.exec
  have hb := B.bytes
  have hr := B.returns
  have hts := atoms_spec (ws := wsX4_isIn) B.pre
  have hw : ∀ w ∈ yW, w.before _ s = true := fun w h => hts w (List.mem_cons_of_mem _ h)
  have hown : s.vm.findClass RX4 = some m.cls := findClass_of_methodNamed B.named
  have hlocks := B.notSynchronized
  subst hsz
  have hD := hD0.self (sz := s.heap.size)
  generalize hAe : va_A ([] : va_W) s.heap.size = A at hD ⊢
  have hA : ∀ q : Nat, s.heap.size ≤ q → A q := fun q h => by rw [← hAe]; exact Or.inr h
  have hS : va_S A s.heap s.heap [] := va_S.rf
  have hl := lv_entry ([.long objs, .int num]) (n := 3) (Nat.le_of_ble_eq_true rfl)
  rw [lg_entry_eq]
  generalize (lg_sl ([.long objs, .int num]) ++ List.replicate (3 - (lg_sl ([.long objs, .int num])).length) Slot.unset).toArray = ls at hl ⊢
  have hl : lv_has ls 3 [(0, .long objs), (2, .int num)] := hl
  rw [px_isIn] at hf
  refine lv_iload_n hx hb dX4_isIn_0 rfl (lv_at hl 1 rfl) ?_
  refine lv_if_lt (tgt := 24) hx hb dX4_isIn_1 (by decide) (fun h1 => ?_) (fun h1 => ?_)
  · have hf := yt h1 hf
    refine lv_iconst (v := 0) hx hb dX4_isIn_24 (by decide) ?_
    subst hf
    exact yy_zret (v := yB false) hx hb hr (yB_n _) hP hK hS hlocks dX4_isIn_25
  · have hf := yf h1 hf
    refine lv_iload_n hx hb dX4_isIn_4 rfl (lv_at hl 1 rfl) ?_
    refine lv_bipush (v := 60) hx hb dX4_isIn_5 (by decide) ?_
    refine lv_icmp_ge (tgt := 24) hx hb dX4_isIn_7 (by decide) (fun h2 => ?_) (fun h2 => ?_)
    · have hf := yt h2 hf
      refine lv_iconst (v := 0) hx hb dX4_isIn_24 (by decide) ?_
      subst hf
      exact yy_zret (v := yB false) hx hb hr (yB_n _) hP hK hS hlocks dX4_isIn_25
    · have hf := yf h2 hf
      refine lv_lload_n hx hb dX4_isIn_10 rfl (lv_at hl 0 rfl) ?_
      refine lv_iload_n hx hb dX4_isIn_11 rfl (lv_at hl 1 rfl) ?_
      refine lv_lushr (v := ylushr objs num) hx hb dX4_isIn_12 rfl ?_
      refine lv_lconst (v := 1) hx hb dX4_isIn_13 (by decide) ?_
      refine lv_land hx hb dX4_isIn_14 ?_
      refine lv_lconst (v := 0) hx hb dX4_isIn_15 (by decide) ?_
      refine W.lcmp hx hb dX4_isIn_16 ?_
      refine lv_if_eq (tgt := 24) hx hb dX4_isIn_17 (by decide) (fun h3 => ?_) (fun h3 => ?_)
      · have h3 := yy_cmp0 h3
        have hf := yt h3 hf
        refine lv_iconst (v := 0) hx hb dX4_isIn_24 (by decide) ?_
        subst hf
        exact yy_zret (v := yB false) hx hb hr (yB_n _) hP hK hS hlocks dX4_isIn_25
      · have h3 := yy_cmp1 h3
        have hf := yf h3 hf
        refine lv_iconst (v := 1) hx hb dX4_isIn_20 (by decide) ?_
        refine lv_goto (tgt := 25) hx hb dX4_isIn_21 (by decide) ?_
        subst hf
        exact yy_zret (v := yB true) hx hb hr (yB_n _) hP hK hS hlocks dX4_isIn_25

set_option maxHeartbeats 4000000 in
set_option maxRecDepth 100000 in
theorem c_px_isChosen (l : Launch) (D : va_G) (cI cJ cZ cN : ClassId)  (set : Int32) (rf : Int32)  (res : Bool) (hf : res = px_isChosen set rf) : yy_Met l yX4_isChosen wsX4_isChosen { frames := 0, cells := 0, slots := 0, locals := 0 } D vwCl (yT cI cJ cZ cN) [.int set, .int rf] ([] : va_W) (some (.int (yB res))) ([] : va_W) := by
  intro sz
  refine Met.ofW (cc := cX4_isChosen) (maxL := 2) (ret := (some .boolean)) (by decide) rfl ?_
  intro p e s m args below meth c s₁ B hml hv
  obtain ⟨rfl, hsz, hP, hK, hD0, hN⟩ := hv
  have hx := B.exec
  have hb := B.bytes
  have hr := B.returns
  have hts := atoms_spec (ws := wsX4_isChosen) B.pre
  have hw : ∀ w ∈ yW, w.before _ s = true := fun w h => hts w (List.mem_cons_of_mem _ h)
  have hown : s.vm.findClass RX4 = some m.cls := findClass_of_methodNamed B.named
  have hlocks := B.notSynchronized
  subst hsz
  have hD := hD0.self (sz := s.heap.size)
  generalize hAe : va_A ([] : va_W) s.heap.size = A at hD ⊢
  have hA : ∀ q : Nat, s.heap.size ≤ q → A q := fun q h => by rw [← hAe]; exact Or.inr h
  have hS : va_S A s.heap s.heap [] := va_S.rf
  have hl := lv_entry ([.int set, .int rf]) (n := 2) (Nat.le_of_ble_eq_true rfl)
  rw [lg_entry_eq]
  generalize (lg_sl ([.int set, .int rf]) ++ List.replicate (2 - (lg_sl ([.int set, .int rf])).length) Slot.unset).toArray = ls at hl ⊢
  have hl : lv_has ls 2 [(0, .int set), (1, .int rf)] := hl
  rw [px_isChosen] at hf
  refine lv_iload_n hx hb dX4_isChosen_0 rfl (lv_at hl 0 rfl) ?_
  refine lv_iload_n hx hb dX4_isChosen_1 rfl (lv_at hl 1 rfl) ?_
  refine yr_iushr hx hb dX4_isChosen_2 ?_
  refine lv_iconst (v := 1) hx hb dX4_isChosen_3 (by decide) ?_
  refine lv_iand hx hb dX4_isChosen_4 ?_
  refine lv_if_eq (tgt := 12) hx hb dX4_isChosen_5 (by decide) (fun h1 => ?_) (fun h1 => ?_)
  · have hf := yt h1 hf
    refine lv_iconst (v := 0) hx hb dX4_isChosen_12 (by decide) ?_
    subst hf
    exact yy_zret (v := yB false) hx hb hr (yB_n _) hP hK hS hlocks dX4_isChosen_13
  · have hf := yf h1 hf
    refine lv_iconst (v := 1) hx hb dX4_isChosen_8 (by decide) ?_
    refine lv_goto (tgt := 13) hx hb dX4_isChosen_9 (by decide) ?_
    subst hf
    exact yy_zret (v := yB true) hx hb hr (yB_n _) hP hK hS hlocks dX4_isChosen_13

set_option maxHeartbeats 4000000 in
set_option maxRecDepth 100000 in
theorem c_jl_bitCount (l : Launch) (D : va_G) (cI cJ cZ cN : ClassId)  (x : Int64)  (res : Int32) (hf : res = jl_bitCount x) : yy_Met l yJL_bitCount wsJL_bitCount { frames := 0, cells := 0, slots := 0, locals := 0 } D vwCl (yT cI cJ cZ cN) [.long x] ([] : va_W) (some (.int res)) ([] : va_W) := by
  intro sz
  refine Met.ofW (cc := cJL_bitCount) (maxL := 2) (ret := (some .int)) (by decide) rfl ?_
  intro p e s m args below meth c s₁ B hml hv
  obtain ⟨rfl, hsz, hP, hK, hD0, hN⟩ := hv
  have hx := B.exec
  have hb := B.bytes
  have hr := B.returns
  have hts := atoms_spec (ws := wsJL_bitCount) B.pre
  have hw : ∀ w ∈ yW, w.before _ s = true := fun w h => hts w (List.mem_cons_of_mem _ h)
  have hown : s.vm.findClass RJL = some m.cls := findClass_of_methodNamed B.named
  have hlocks := B.notSynchronized
  subst hsz
  have hD := hD0.self (sz := s.heap.size)
  generalize hAe : va_A ([] : va_W) s.heap.size = A at hD ⊢
  have hA : ∀ q : Nat, s.heap.size ≤ q → A q := fun q h => by rw [← hAe]; exact Or.inr h
  have hS : va_S A s.heap s.heap [] := va_S.rf
  have hl := lv_entry ([.long x]) (n := 2) (Nat.le_of_ble_eq_true rfl)
  rw [lg_entry_eq]
  generalize (lg_sl ([.long x]) ++ List.replicate (2 - (lg_sl ([.long x])).length) Slot.unset).toArray = ls at hl ⊢
  have hl : lv_has ls 2 [(0, .long x)] := hl
  rw [jl_bitCount] at hf
  refine lv_lload_n hx hb dJL_bitCount_0 rfl (lv_at hl 0 rfl) ?_
  refine lv_lload_n hx hb dJL_bitCount_1 rfl (lv_at hl 0 rfl) ?_
  refine lv_iconst (v := 1) hx hb dJL_bitCount_2 (by decide) ?_
  refine lv_lushr (v := ylushr x 1) hx hb dJL_bitCount_3 rfl ?_
  refine lv_ldc2 (v := 6148914691236517205) hx hb hown (hw _ wq_314) dJL_bitCount_4 ?_
  refine lv_land hx hb dJL_bitCount_7 ?_
  refine lv_lsub hx hb dJL_bitCount_8 ?_
  refine lv_topl (fun v1 ev1 => ?_)
  have hf := yb_e ev1 hf
  refine lv_lstore_n (lv' := [(0, .long v1)]) hx hb dJL_bitCount_9 rfl hl (by decide) rfl (fun ls hl => ?_)
  refine lv_lload_n hx hb dJL_bitCount_10 rfl (lv_at hl 0 rfl) ?_
  refine lv_ldc2 (v := 3689348814741910323) hx hb hown (hw _ wq_315) dJL_bitCount_11 ?_
  refine lv_land hx hb dJL_bitCount_14 ?_
  refine lv_lload_n hx hb dJL_bitCount_15 rfl (lv_at hl 0 rfl) ?_
  refine lv_iconst (v := 2) hx hb dJL_bitCount_16 (by decide) ?_
  refine lv_lushr (v := ylushr v1 2) hx hb dJL_bitCount_17 rfl ?_
  refine lv_ldc2 (v := 3689348814741910323) hx hb hown (hw _ wq_315) dJL_bitCount_18 ?_
  refine lv_land hx hb dJL_bitCount_21 ?_
  refine lv_ladd hx hb dJL_bitCount_22 ?_
  refine lv_topl (fun v2 ev2 => ?_)
  have hf := yb_e ev2 hf
  refine lv_lstore_n (lv' := [(0, .long v2)]) hx hb dJL_bitCount_23 rfl hl (by decide) rfl (fun ls hl => ?_)
  refine lv_lload_n hx hb dJL_bitCount_24 rfl (lv_at hl 0 rfl) ?_
  refine lv_lload_n hx hb dJL_bitCount_25 rfl (lv_at hl 0 rfl) ?_
  refine lv_iconst (v := 4) hx hb dJL_bitCount_26 (by decide) ?_
  refine lv_lushr (v := ylushr v2 4) hx hb dJL_bitCount_27 rfl ?_
  refine lv_ladd hx hb dJL_bitCount_28 ?_
  refine lv_ldc2 (v := 1085102592571150095) hx hb hown (hw _ wq_316) dJL_bitCount_29 ?_
  refine lv_land hx hb dJL_bitCount_32 ?_
  refine lv_topl (fun v3 ev3 => ?_)
  have hf := yb_e ev3 hf
  refine lv_lstore_n (lv' := [(0, .long v3)]) hx hb dJL_bitCount_33 rfl hl (by decide) rfl (fun ls hl => ?_)
  refine lv_lload_n hx hb dJL_bitCount_34 rfl (lv_at hl 0 rfl) ?_
  refine lv_lload_n hx hb dJL_bitCount_35 rfl (lv_at hl 0 rfl) ?_
  refine lv_bipush (v := 8) hx hb dJL_bitCount_36 (by decide) ?_
  refine lv_lushr (v := ylushr v3 8) hx hb dJL_bitCount_38 rfl ?_
  refine lv_ladd hx hb dJL_bitCount_39 ?_
  refine lv_topl (fun v4 ev4 => ?_)
  have hf := yb_e ev4 hf
  refine lv_lstore_n (lv' := [(0, .long v4)]) hx hb dJL_bitCount_40 rfl hl (by decide) rfl (fun ls hl => ?_)
  refine lv_lload_n hx hb dJL_bitCount_41 rfl (lv_at hl 0 rfl) ?_
  refine lv_lload_n hx hb dJL_bitCount_42 rfl (lv_at hl 0 rfl) ?_
  refine lv_bipush (v := 16) hx hb dJL_bitCount_43 (by decide) ?_
  refine lv_lushr (v := ylushr v4 16) hx hb dJL_bitCount_45 rfl ?_
  refine lv_ladd hx hb dJL_bitCount_46 ?_
  refine lv_topl (fun v5 ev5 => ?_)
  have hf := yb_e ev5 hf
  refine lv_lstore_n (lv' := [(0, .long v5)]) hx hb dJL_bitCount_47 rfl hl (by decide) rfl (fun ls hl => ?_)
  refine lv_lload_n hx hb dJL_bitCount_48 rfl (lv_at hl 0 rfl) ?_
  refine lv_lload_n hx hb dJL_bitCount_49 rfl (lv_at hl 0 rfl) ?_
  refine lv_bipush (v := 32) hx hb dJL_bitCount_50 (by decide) ?_
  refine lv_lushr (v := ylushr v5 32) hx hb dJL_bitCount_52 rfl ?_
  refine lv_ladd hx hb dJL_bitCount_53 ?_
  refine lv_topl (fun v6 ev6 => ?_)
  have hf := yb_e ev6 hf
  refine lv_lstore_n (lv' := [(0, .long v6)]) hx hb dJL_bitCount_54 rfl hl (by decide) rfl (fun ls hl => ?_)
  refine lv_lload_n hx hb dJL_bitCount_55 rfl (lv_at hl 0 rfl) ?_
  refine lv_l2i (v := v6.toInt32) hx hb dJL_bitCount_56 rfl ?_
  refine lv_bipush (v := 127) hx hb dJL_bitCount_57 (by decide) ?_
  refine lv_iand hx hb dJL_bitCount_59 ?_
  subst hf
  exact yy_iret (v := (v6.toInt32 &&& 127)) hx hb hr hP hK hS hlocks dJL_bitCount_60

set_option maxHeartbeats 4000000 in
set_option maxRecDepth 100000 in
theorem c_tk_highest (l : Launch) (D : va_G) (cI cJ cZ cN : ClassId)  (objs : Int64)  (res : Int64) (hf : res = tk_highest objs) : yy_Met l yX3_highest wsX3_highest { frames := 1, cells := 0, slots := 0, locals := 22 } D vwCl (yT cI cJ cZ cN) [.long objs] ([] : va_W) (some (.long res)) ([] : va_W) := by
  intro sz
  refine Met.ofW (cc := cX3_highest) (maxL := 6) (ret := (some .long)) (by decide) rfl ?_
  intro p e s m args below meth c s₁ B hml hv
  obtain ⟨rfl, hsz, hP, hK, hD0, hN⟩ := hv
  have hx := B.exec
  have hb := B.bytes
  have hr := B.returns
  have hts := atoms_spec (ws := wsX3_highest) B.pre
  have hw : ∀ w ∈ yW, w.before _ s = true := fun w h => hts w (List.mem_cons_of_mem _ h)
  have hown : s.vm.findClass RX3 = some m.cls := findClass_of_methodNamed B.named
  have hlocks := B.notSynchronized
  subst hsz
  have hD := hD0.self (sz := s.heap.size)
  generalize hAe : va_A ([] : va_W) s.heap.size = A at hD ⊢
  have hA : ∀ q : Nat, s.heap.size ≤ q → A q := fun q h => by rw [← hAe]; exact Or.inr h
  have hS : va_S A s.heap s.heap [] := va_S.rf
  have hl := lv_entry ([.long objs]) (n := 6) (Nat.le_of_ble_eq_true rfl)
  rw [lg_entry_eq]
  generalize (lg_sl ([.long objs]) ++ List.replicate (6 - (lg_sl ([.long objs])).length) Slot.unset).toArray = ls at hl ⊢
  have hl : lv_has ls 6 [(0, .long objs)] := hl
  have hL9 : ∀ (k : Nat) (ch : Int64) (fo : Int32) (ls : Array Slot) (H : Heap) (locs : List Loc), k ≤ 60 → res = tk_highest_L9 objs k ch fo → lv_has ls 6 [(0, .long objs), (2, .long ch), (4, .int fo), (5, .int (nI k - 1))] → va_P D vwCl ([] : va_W) H → va_D A ([] : va_W) → va_S A s.heap H locs → W p l e (headSpec wsX3_highest { frames := 1, cells := 0, slots := 0, locals := 22 }).room s m ([.long objs] : List Value).toArray below meth c H locs 0 0 (MQ below (yy_Q A D vwCl (yT cI cJ cZ cN) ([] : va_W) (some (.long res))) ([.long objs] : List Value).toArray s 0 0 A) (F0 m 9 ls []) := by
    intro k
    induction k with
    | zero =>
      intro ch fo ls H locs hi hf hl hP hD hS
      rw [tk_highest_L9] at hf
      refine lv_iload hx hb dX3_highest_9 (lv_at hl 3 rfl) ?_
      refine lv_if_lt (tgt := 45) hx hb dX3_highest_11 (by decide) (fun _ => ?_) (fun h => absurd (by decide) h)
      refine lv_lload_n hx hb dX3_highest_45 rfl (lv_at hl 1 rfl) ?_
      subst hf
      exact yy_lret hx hb hr hP hK hS hlocks dX3_highest_46
    | succ x ih =>
      intro ch fo ls H locs hi hf hl hP hD hS
      rw [tk_highest_L9] at hf
      rw [nI_pred] at hl
      refine lv_iload hx hb dX3_highest_9 (lv_at hl 3 rfl) ?_
      refine lv_if_lt (tgt := 45) hx hb dX3_highest_11 (by decide) (fun h => absurd h (nI_pos (by omega))) (fun _ => ?_)
      refine lv_iload hx hb dX3_highest_14 (lv_at hl 2 rfl) ?_
      refine lv_iconst (v := 3) hx hb dX3_highest_16 (by decide) ?_
      refine lv_icmp_ge (tgt := 45) hx hb dX3_highest_17 (by decide) (fun h1 => ?_) (fun h1 => ?_)
      · have hf := yt h1 hf
        refine lv_lload_n hx hb dX3_highest_45 rfl (lv_at hl 1 rfl) ?_
        subst hf
        exact yy_lret hx hb hr hP hK hS hlocks dX3_highest_46
      · have hf := yf h1 hf
        refine lv_lload_n hx hb dX3_highest_20 rfl (lv_at hl 0 rfl) ?_
        refine lv_iload hx hb dX3_highest_21 (lv_at hl 3 rfl) ?_
        obtain ⟨r2, er2⟩ : ∃ r, r = px_isIn objs (nI x) := ⟨_, rfl⟩
        have hf := yb_e er2 hf
        refine yz_callSN (As := [.long objs, .int (nI x)]) (rest := []) ⟨hx, hb, hml, hown, hts⟩ (c_px_isIn l D cI cJ cZ cN objs (nI x)  r2 er2) ⟨va_cnB 2 hts (yy_good wq_194) rfl rfl rfl hN.2.2.2.1 (hw _ wq_34) (by decide +kernel) ⟨Nat.le_of_ble_eq_true rfl, Nat.le_of_ble_eq_true rfl⟩, hw _ wq_193, trivial⟩ hK hN hP hD hS hA [] rfl (by decide) rfl 0 rfl (w2 := ([] : va_W)) rfl rfl hl.1 rfl (Nat.le_of_ble_eq_true rfl) dX3_highest_23 ⟨Nat.zero_le _, Nat.zero_le _⟩ (fun H locs hP hD hS => ?_)
        refine W.eq (g2 := F0 m 26 ls [.int (yB r2)]) rfl ?_
        refine lv_if_eq (tgt := 39) hx hb dX3_highest_26 (by decide) (fun h3 => ?_) (fun h3 => ?_)
        · have h3 := yB_0.mp h3
          have hf := yBf h3 hf
          refine lv_iinc (k := 3) (v := (nI x - 1)) (lv' := [(5, .int (nI x - 1)), (0, .long objs), (2, .long ch), (4, .int fo)]) hx hb dX3_highest_39 hl rfl (yy_dec _) (by decide) rfl (fun ls hl => ?_)
          refine lv_goto (tgt := 9) hx hb dX3_highest_42 (by decide) ?_
          exact ih ch fo _ _ _ (by omega) hf (lv_sub hl [1, 2, 3, 0] rfl) hP hD hS
        · have h3 := yB_1 h3
          have hf := yBt h3 hf
          refine lv_lload_n hx hb dX3_highest_29 rfl (lv_at hl 1 rfl) ?_
          refine lv_lconst (v := 1) hx hb dX3_highest_30 (by decide) ?_
          refine lv_iload hx hb dX3_highest_31 (lv_at hl 3 rfl) ?_
          refine lv_lshl (v := ylshl 1 (nI x)) hx hb dX3_highest_33 rfl ?_
          refine lv_lor hx hb dX3_highest_34 ?_
          refine lv_lstore_n (lv' := [(2, .long (ch ||| (ylshl 1 (nI x)))), (0, .long objs), (4, .int fo), (5, .int (nI x))]) hx hb dX3_highest_35 rfl hl (by decide) rfl (fun ls hl => ?_)
          refine lv_iinc (k := 2) (v := (fo + 1)) (lv' := [(4, .int (fo + 1)), (2, .long (ch ||| (ylshl 1 (nI x)))), (0, .long objs), (5, .int (nI x))]) hx hb dX3_highest_36 hl rfl (yy_incI _) (by decide) rfl (fun ls hl => ?_)
          refine lv_iinc (k := 3) (v := (nI x - 1)) (lv' := [(5, .int (nI x - 1)), (4, .int (fo + 1)), (2, .long (ch ||| (ylshl 1 (nI x)))), (0, .long objs)]) hx hb dX3_highest_39 hl rfl (yy_dec _) (by decide) rfl (fun ls hl => ?_)
          refine lv_goto (tgt := 9) hx hb dX3_highest_42 (by decide) ?_
          exact ih (ch ||| (ylshl 1 (nI x))) (fo + 1) _ _ _ (by omega) hf (lv_sub hl [3, 2, 1, 0] rfl) hP hD hS
  rw [tk_highest] at hf
  refine lv_lconst (v := 0) hx hb dX3_highest_0 (by decide) ?_
  refine lv_lstore_n (lv' := [(2, .long 0), (0, .long objs)]) hx hb dX3_highest_1 rfl hl (by decide) rfl (fun ls hl => ?_)
  refine lv_iconst (v := 0) hx hb dX3_highest_2 (by decide) ?_
  refine lv_istore (lv' := [(4, .int 0), (2, .long 0), (0, .long objs)]) hx hb dX3_highest_3 hl (by decide) rfl (fun ls hl => ?_)
  refine lv_bipush (v := (nI 60 - 1)) hx hb dX3_highest_5 (by decide) ?_
  refine lv_istore (lv' := [(5, .int (nI 60 - 1)), (4, .int 0), (2, .long 0), (0, .long objs)]) hx hb dX3_highest_7 hl (by decide) rfl (fun ls hl => ?_)
  exact hL9 60 0 0 _ _ _ (by omega) hf (lv_sub hl [3, 2, 1, 0] rfl) hP hD hS

set_option maxHeartbeats 4000000 in
set_option maxRecDepth 100000 in
theorem c_pk_differingDigits (l : Launch) (D : va_G) (cI cJ cZ cN : ClassId)  (d1 : Int32) (d2 : Int32)  (res : Int32) (hf : res = pk_differingDigits d1 d2) : yy_Met l yX1_differingDigits wsX1_differingDigits { frames := 0, cells := 0, slots := 0, locals := 0 } D vwCl (yT cI cJ cZ cN) [.int d1, .int d2] ([] : va_W) (some (.int res)) ([] : va_W) := by
  intro sz
  refine Met.ofW (cc := cX1_differingDigits) (maxL := 5) (ret := (some .int)) (by decide) rfl ?_
  intro p e s m args below meth c s₁ B hml hv
  obtain ⟨rfl, hsz, hP, hK, hD0, hN⟩ := hv
  have hx := B.exec
  have hb := B.bytes
  have hr := B.returns
  have hts := atoms_spec (ws := wsX1_differingDigits) B.pre
  have hw : ∀ w ∈ yW, w.before _ s = true := fun w h => hts w (List.mem_cons_of_mem _ h)
  have hown : s.vm.findClass RX1 = some m.cls := findClass_of_methodNamed B.named
  have hlocks := B.notSynchronized
  subst hsz
  have hD := hD0.self (sz := s.heap.size)
  generalize hAe : va_A ([] : va_W) s.heap.size = A at hD ⊢
  have hA : ∀ q : Nat, s.heap.size ≤ q → A q := fun q h => by rw [← hAe]; exact Or.inr h
  have hS : va_S A s.heap s.heap [] := va_S.rf
  have hl := lv_entry ([.int d1, .int d2]) (n := 5) (Nat.le_of_ble_eq_true rfl)
  rw [lg_entry_eq]
  generalize (lg_sl ([.int d1, .int d2]) ++ List.replicate (5 - (lg_sl ([.int d1, .int d2])).length) Slot.unset).toArray = ls at hl ⊢
  have hl : lv_has ls 5 [(0, .int d1), (1, .int d2)] := hl
  have hL9 : ∀ (k : Nat) (i : Nat) (df : Int32) (dg : Int32) (ls : Array Slot) (H : Heap) (locs : List Loc), i + k = 8 → res = pk_differingDigits_L9  k i df dg → lv_has ls 5 [(0, .int d1), (1, .int d2), (2, .int df), (3, .int dg), (4, .int (nI i))] → va_P D vwCl ([] : va_W) H → va_D A ([] : va_W) → va_S A s.heap H locs → W p l e (headSpec wsX1_differingDigits { frames := 0, cells := 0, slots := 0, locals := 0 }).room s m ([.int d1, .int d2] : List Value).toArray below meth c H locs 0 0 (MQ below (yy_Q A D vwCl (yT cI cJ cZ cN) ([] : va_W) (some (.int res))) ([.int d1, .int d2] : List Value).toArray s 0 0 A) (F0 m 9 ls []) := by
    intro k
    induction k with
    | zero =>
      intro i df dg ls H locs hi hf hl hP hD hS
      rw [pk_differingDigits_L9] at hf
      refine lv_iload hx hb dX1_differingDigits_9 (lv_at hl 4 rfl) ?_
      refine lv_bipush (v := (nI 8)) hx hb dX1_differingDigits_11 (by decide) ?_
      refine lv_icmp_ge (tgt := 37) hx hb dX1_differingDigits_13 (by decide) (fun _ => ?_) (fun h => absurd (nI_le (by omega) (by omega)) h)
      refine lv_iload_n hx hb dX1_differingDigits_37 rfl (lv_at hl 3 rfl) ?_
      subst hf
      exact yy_iret hx hb hr hP hK hS hlocks dX1_differingDigits_38
    | succ k ih =>
      intro i df dg ls H locs hi hf hl hP hD hS
      rw [pk_differingDigits_L9] at hf
      refine lv_iload hx hb dX1_differingDigits_9 (lv_at hl 4 rfl) ?_
      refine lv_bipush (v := (nI 8)) hx hb dX1_differingDigits_11 (by decide) ?_
      refine lv_icmp_ge (tgt := 37) hx hb dX1_differingDigits_13 (by decide) (fun h => absurd h (nI_ge (by omega) (by omega))) (fun _ => ?_)
      refine lv_iload_n hx hb dX1_differingDigits_16 rfl (lv_at hl 2 rfl) ?_
      refine lv_iconst (v := (nI 4)) hx hb dX1_differingDigits_17 (by decide) ?_
      refine lv_iload hx hb dX1_differingDigits_18 (lv_at hl 4 rfl) ?_
      refine yr_imulN hx hb dX1_differingDigits_20 ?_
      refine yr_iushr hx hb dX1_differingDigits_21 ?_
      refine lv_bipush (v := 15) hx hb dX1_differingDigits_22 (by decide) ?_
      refine lv_iand hx hb dX1_differingDigits_24 ?_
      refine lv_if_eq (tgt := 31) hx hb dX1_differingDigits_25 (by decide) (fun h1 => ?_) (fun h1 => ?_)
      · have hf := yt h1 hf
        refine lv_iinc (k := 4) (v := (nI (i + 1))) (lv' := [(4, .int (nI (i + 1))), (0, .int d1), (1, .int d2), (2, .int df), (3, .int dg)]) hx hb dX1_differingDigits_31 hl rfl (yy_inc _) (by decide) rfl (fun ls hl => ?_)
        refine lv_goto (tgt := 9) hx hb dX1_differingDigits_34 (by decide) ?_
        exact ih (i + 1) df dg _ _ _ (by omega) hf (lv_sub hl [1, 2, 3, 4, 0] rfl) hP hD hS
      · have hf := yf h1 hf
        refine lv_iinc (k := 3) (v := (dg + 1)) (lv' := [(3, .int (dg + 1)), (0, .int d1), (1, .int d2), (2, .int df), (4, .int (nI i))]) hx hb dX1_differingDigits_28 hl rfl (yy_incI _) (by decide) rfl (fun ls hl => ?_)
        refine lv_iinc (k := 4) (v := (nI (i + 1))) (lv' := [(4, .int (nI (i + 1))), (3, .int (dg + 1)), (0, .int d1), (1, .int d2), (2, .int df)]) hx hb dX1_differingDigits_31 hl rfl (yy_inc _) (by decide) rfl (fun ls hl => ?_)
        refine lv_goto (tgt := 9) hx hb dX1_differingDigits_34 (by decide) ?_
        exact ih (i + 1) df (dg + 1) _ _ _ (by omega) hf (lv_sub hl [2, 3, 4, 1, 0] rfl) hP hD hS
  rw [pk_differingDigits] at hf
  refine lv_iload_n hx hb dX1_differingDigits_0 rfl (lv_at hl 0 rfl) ?_
  refine lv_iload_n hx hb dX1_differingDigits_1 rfl (lv_at hl 1 rfl) ?_
  refine lv_ixor hx hb dX1_differingDigits_2 ?_
  refine lv_istore_n (lv' := [(2, .int (d1 ^^^ d2)), (0, .int d1), (1, .int d2)]) hx hb dX1_differingDigits_3 rfl hl (by decide) rfl (fun ls hl => ?_)
  refine lv_iconst (v := 0) hx hb dX1_differingDigits_4 (by decide) ?_
  refine lv_istore_n (lv' := [(3, .int 0), (2, .int (d1 ^^^ d2)), (0, .int d1), (1, .int d2)]) hx hb dX1_differingDigits_5 rfl hl (by decide) rfl (fun ls hl => ?_)
  refine lv_iconst (v := (nI 0)) hx hb dX1_differingDigits_6 (by decide) ?_
  refine lv_istore (lv' := [(4, .int (nI 0)), (3, .int 0), (2, .int (d1 ^^^ d2)), (0, .int d1), (1, .int d2)]) hx hb dX1_differingDigits_7 hl (by decide) rfl (fun ls hl => ?_)
  exact hL9 8 0 (d1 ^^^ d2) 0 _ _ _ (by omega) hf (lv_sub hl [3, 4, 2, 1, 0] rfl) hP hD hS

set_option maxHeartbeats 4000000 in
set_option maxRecDepth 100000 in
theorem c_md_isNode (l : Launch) (D : va_G) (cI cJ cZ cN : ClassId)  (x : Int32)  (res : Bool) (hf : res = md_isNode x) : yy_Met l yX5_isNode wsX5_isNode { frames := 0, cells := 0, slots := 0, locals := 0 } D vwCl (yT cI cJ cZ cN) [.int x] ([] : va_W) (some (.int (yB res))) ([] : va_W) := by
  intro sz
  refine Met.ofW (cc := cX5_isNode) (maxL := 1) (ret := (some .boolean)) (by decide) rfl ?_
  intro p e s m args below meth c s₁ B hml hv
  obtain ⟨rfl, hsz, hP, hK, hD0, hN⟩ := hv
  have hx := B.exec
  have hb := B.bytes
  have hr := B.returns
  have hts := atoms_spec (ws := wsX5_isNode) B.pre
  have hw : ∀ w ∈ yW, w.before _ s = true := fun w h => hts w (List.mem_cons_of_mem _ h)
  have hown : s.vm.findClass RX5 = some m.cls := findClass_of_methodNamed B.named
  have hlocks := B.notSynchronized
  subst hsz
  have hD := hD0.self (sz := s.heap.size)
  generalize hAe : va_A ([] : va_W) s.heap.size = A at hD ⊢
  have hA : ∀ q : Nat, s.heap.size ≤ q → A q := fun q h => by rw [← hAe]; exact Or.inr h
  have hS : va_S A s.heap s.heap [] := va_S.rf
  have hl := lv_entry ([.int x]) (n := 1) (Nat.le_of_ble_eq_true rfl)
  rw [lg_entry_eq]
  generalize (lg_sl ([.int x]) ++ List.replicate (1 - (lg_sl ([.int x])).length) Slot.unset).toArray = ls at hl ⊢
  have hl : lv_has ls 1 [(0, .int x)] := hl
  rw [md_isNode] at hf
  refine lv_iload_n hx hb dX5_isNode_0 rfl (lv_at hl 0 rfl) ?_
  refine lv_if_lt (tgt := 13) hx hb dX5_isNode_1 (by decide) (fun h1 => ?_) (fun h1 => ?_)
  · have hf := yt h1 hf
    refine lv_iconst (v := 0) hx hb dX5_isNode_13 (by decide) ?_
    subst hf
    exact yy_zret (v := yB false) hx hb hr (yB_n _) hP hK hS hlocks dX5_isNode_14
  · have hf := yf h1 hf
    refine lv_iload_n hx hb dX5_isNode_4 rfl (lv_at hl 0 rfl) ?_
    refine lv_iconst (v := 2) hx hb dX5_isNode_5 (by decide) ?_
    refine lv_icmp_gt (tgt := 13) hx hb dX5_isNode_6 (by decide) (fun h2 => ?_) (fun h2 => ?_)
    · have hf := yt h2 hf
      refine lv_iconst (v := 0) hx hb dX5_isNode_13 (by decide) ?_
      subst hf
      exact yy_zret (v := yB false) hx hb hr (yB_n _) hP hK hS hlocks dX5_isNode_14
    · have hf := yf h2 hf
      refine lv_iconst (v := 1) hx hb dX5_isNode_9 (by decide) ?_
      refine lv_goto (tgt := 14) hx hb dX5_isNode_10 (by decide) ?_
      subst hf
      exact yy_zret (v := yB true) hx hb hr (yB_n _) hP hK hS hlocks dX5_isNode_14

set_option maxHeartbeats 4000000 in
set_option maxRecDepth 100000 in
theorem c_md_many (l : Launch) (D : va_G) (cI cJ cZ cN : ClassId)  (set : Int64)  (res : Int32) (hf : res = md_many set) : yy_Met l yX5_many wsX5_many { frames := 0, cells := 0, slots := 0, locals := 0 } D vwCl (yT cI cJ cZ cN) [.long set] ([] : va_W) (some (.int res)) ([] : va_W) := by
  intro sz
  refine Met.ofW (cc := cX5_many) (maxL := 4) (ret := (some .int)) (by decide) rfl ?_
  intro p e s m args below meth c s₁ B hml hv
  obtain ⟨rfl, hsz, hP, hK, hD0, hN⟩ := hv
  have hx := B.exec
  have hb := B.bytes
  have hr := B.returns
  have hts := atoms_spec (ws := wsX5_many) B.pre
  have hw : ∀ w ∈ yW, w.before _ s = true := fun w h => hts w (List.mem_cons_of_mem _ h)
  have hown : s.vm.findClass RX5 = some m.cls := findClass_of_methodNamed B.named
  have hlocks := B.notSynchronized
  subst hsz
  have hD := hD0.self (sz := s.heap.size)
  generalize hAe : va_A ([] : va_W) s.heap.size = A at hD ⊢
  have hA : ∀ q : Nat, s.heap.size ≤ q → A q := fun q h => by rw [← hAe]; exact Or.inr h
  have hS : va_S A s.heap s.heap [] := va_S.rf
  have hl := lv_entry ([.long set]) (n := 4) (Nat.le_of_ble_eq_true rfl)
  rw [lg_entry_eq]
  generalize (lg_sl ([.long set]) ++ List.replicate (4 - (lg_sl ([.long set])).length) Slot.unset).toArray = ls at hl ⊢
  have hl : lv_has ls 4 [(0, .long set)] := hl
  have hL4 : ∀ (k : Nat) (i : Nat) (n : Int32) (ls : Array Slot) (H : Heap) (locs : List Loc), i + k = 60 → res = md_many_L4 set k i n → lv_has ls 4 [(0, .long set), (2, .int n), (3, .int (nI i))] → va_P D vwCl ([] : va_W) H → va_D A ([] : va_W) → va_S A s.heap H locs → W p l e (headSpec wsX5_many { frames := 0, cells := 0, slots := 0, locals := 0 }).room s m ([.long set] : List Value).toArray below meth c H locs 0 0 (MQ below (yy_Q A D vwCl (yT cI cJ cZ cN) ([] : va_W) (some (.int res))) ([.long set] : List Value).toArray s 0 0 A) (F0 m 4 ls []) := by
    intro k
    induction k with
    | zero =>
      intro i n ls H locs hi hf hl hP hD hS
      rw [md_many_L4] at hf
      refine lv_iload_n hx hb dX5_many_4 rfl (lv_at hl 2 rfl) ?_
      refine lv_bipush (v := (nI 60)) hx hb dX5_many_5 (by decide) ?_
      refine lv_icmp_ge (tgt := 25) hx hb dX5_many_7 (by decide) (fun _ => ?_) (fun h => absurd (nI_le (by omega) (by omega)) h)
      refine lv_iload_n hx hb dX5_many_25 rfl (lv_at hl 1 rfl) ?_
      subst hf
      exact yy_iret hx hb hr hP hK hS hlocks dX5_many_26
    | succ k ih =>
      intro i n ls H locs hi hf hl hP hD hS
      rw [md_many_L4] at hf
      refine lv_iload_n hx hb dX5_many_4 rfl (lv_at hl 2 rfl) ?_
      refine lv_bipush (v := (nI 60)) hx hb dX5_many_5 (by decide) ?_
      refine lv_icmp_ge (tgt := 25) hx hb dX5_many_7 (by decide) (fun h => absurd h (nI_ge (by omega) (by omega))) (fun _ => ?_)
      refine lv_iload_n hx hb dX5_many_10 rfl (lv_at hl 1 rfl) ?_
      refine lv_lload_n hx hb dX5_many_11 rfl (lv_at hl 0 rfl) ?_
      refine lv_iload_n hx hb dX5_many_12 rfl (lv_at hl 2 rfl) ?_
      refine lv_lshr (v := ylshr set (nI i)) hx hb dX5_many_13 rfl ?_
      refine lv_lconst (v := 1) hx hb dX5_many_14 (by decide) ?_
      refine lv_land hx hb dX5_many_15 ?_
      refine lv_l2i (v := ((ylshr set (nI i)) &&& 1).toInt32) hx hb dX5_many_16 rfl ?_
      refine lv_iadd hx hb dX5_many_17 ?_
      refine lv_istore_n (lv' := [(2, .int (n + (((ylshr set (nI i)) &&& 1).toInt32))), (0, .long set), (3, .int (nI i))]) hx hb dX5_many_18 rfl hl (by decide) rfl (fun ls hl => ?_)
      refine lv_iinc (k := 2) (v := (nI (i + 1))) (lv' := [(3, .int (nI (i + 1))), (2, .int (n + (((ylshr set (nI i)) &&& 1).toInt32))), (0, .long set)]) hx hb dX5_many_19 hl rfl (yy_inc _) (by decide) rfl (fun ls hl => ?_)
      refine lv_goto (tgt := 4) hx hb dX5_many_22 (by decide) ?_
      exact ih (i + 1) (n + (((ylshr set (nI i)) &&& 1).toInt32)) _ _ _ (by omega) hf (lv_sub hl [2, 1, 0] rfl) hP hD hS
  rw [md_many] at hf
  refine lv_iconst (v := 0) hx hb dX5_many_0 (by decide) ?_
  refine lv_istore_n (lv' := [(2, .int 0), (0, .long set)]) hx hb dX5_many_1 rfl hl (by decide) rfl (fun ls hl => ?_)
  refine lv_iconst (v := (nI 0)) hx hb dX5_many_2 (by decide) ?_
  refine lv_istore_n (lv' := [(3, .int (nI 0)), (2, .int 0), (0, .long set)]) hx hb dX5_many_3 rfl hl (by decide) rfl (fun ls hl => ?_)
  exact hL4 60 0 0 _ _ _ (by omega) hf (lv_sub hl [2, 1, 0] rfl) hP hD hS
