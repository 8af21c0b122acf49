set_option maxHeartbeats 4000000 in
set_option maxRecDepth 100000 in
theorem c_x_arm (l : Launch) (D : va_G) (cI cJ cZ cN : ClassId) (xa : Nat → Nat) (sa : Nat → Nat) (ta : Nat → Nat) (pa : Nat → Nat) (nad : Nat → Nat → Nat) (node : Int32) (n : Int32) (so : SS) (tk : TS) (pk : PS) (vd : (Nat → Int32)) (tg : (Nat → Int32)) (ns : (Nat → NS)) (hs : so.2.2.2.2.2 ≤ 60) (hp : pk.2.2.2.2.1 ≤ 60) (res : Bool × (Nat → NS)) (hf : res = x_arm node n ns) : yy_Met l yX4_arm wsX4_arm { frames := 1, cells := 0, slots := 0, locals := 21 } D vwCl (yT cI cJ cZ cN) [.ref (xa 0), .int node, .int n] (xcW xa sa ta pa ++ stW cI cJ sa so ++ naW cN xa nad ++ tkW ta tk ++ pkW cI pa pk ++ vdW cI xa vd ++ tgW cI xa tg ++ n3W cI nad ns) (some (.int (yB res.1))) (xcW xa sa ta pa ++ stW cI cJ sa so ++ naW cN xa nad ++ tkW ta tk ++ pkW cI pa pk ++ vdW cI xa vd ++ tgW cI xa tg ++ n3W cI nad res.2) := by
  intro sz
  refine Met.ofW (cc := cX4_arm) (maxL := 3) (ret := (some .boolean)) (by decide) rfl ?_
  intro p e s m args below meth c s₁ B hml hv
  obtain ⟨rfl, hsz, hP, hK, hD0, hN⟩ := hv
  have hx := B.exec
  have hb := B.bytes
  have hr := B.returns
  have hts := atoms_spec (ws := wsX4_arm) B.pre
  have hw : ∀ w ∈ yW, w.before _ s = true := fun w h => hts w (List.mem_cons_of_mem _ h)
  have hown : s.vm.findClass RX4 = some m.cls := findClass_of_methodNamed B.named
  have hlocks := B.notSynchronized
  subst hsz
  have hD := hD0.self (sz := s.heap.size)
  generalize hAe : va_A (xcW xa sa ta pa ++ stW cI cJ sa so ++ naW cN xa nad ++ tkW ta tk ++ pkW cI pa pk ++ vdW cI xa vd ++ tgW cI xa tg ++ n3W cI nad ns) s.heap.size = A at hD ⊢
  have hA : ∀ q : Nat, s.heap.size ≤ q → A q := fun q h => by rw [← hAe]; exact Or.inr h
  have hS : va_S A s.heap s.heap [] := va_S.rf
  have hl := lv_entry ([.ref (xa 0), .int node, .int n]) (n := 3) (Nat.le_of_ble_eq_true rfl)
  rw [lg_entry_eq]
  generalize (lg_sl ([.ref (xa 0), .int node, .int n]) ++ List.replicate (3 - (lg_sl ([.ref (xa 0), .int node, .int n])).length) Slot.unset).toArray = ls at hl ⊢
  have hl : lv_has ls 3 [(0, .ref (xa 0)), (1, .int node), (2, .int n)] := hl
  rw [x_arm] at hf
  refine lv_iload_n hx hb dX4_arm_0 rfl (lv_at hl 1 rfl) ?_
  obtain ⟨r1, er1⟩ : ∃ r, r = px_isNode node := ⟨_, rfl⟩
  have hf := yb_e er1 hf
  refine yz_callS (As := [.int node]) (rest := []) ⟨hx, hb, hml, hown, hts⟩ (c_px_isNode l D cI cJ cZ cN node  r1 er1) ⟨callB_of 1 hts (yy_good wq_171) rfl rfl rfl (hw _ wq_34) (hw _ wq_169) (by decide +kernel) ⟨Nat.le_of_ble_eq_true rfl, Nat.le_of_ble_eq_true rfl⟩, hw _ wq_170⟩ hK hN hP hD hS hA [] rfl (by decide) rfl 0 rfl (w2 := (xcW xa sa ta pa ++ stW cI cJ sa so ++ naW cN xa nad ++ tkW ta tk ++ pkW cI pa pk ++ vdW cI xa vd ++ tgW cI xa tg ++ n3W cI nad ns)) rfl rfl hl.1 rfl (Nat.le_of_ble_eq_true rfl) dX4_arm_1 ⟨Nat.zero_le _, Nat.zero_le _⟩ (fun H locs hP hD hS => ?_)
  refine W.eq (g2 := F0 m 4 ls [.int (yB r1)]) rfl ?_
  refine lv_if_eq (tgt := 18) hx hb dX4_arm_4 (by decide) (fun h2 => ?_) (fun h2 => ?_)
  · have h2 := yB_0.mp h2
    have hf := yBf h2 hf
    refine lv_iconst (v := 0) hx hb dX4_arm_18 (by decide) ?_
    subst hf
    exact yy_zret (v := yB false) hx hb hr (yB_n _) hP hK hS hlocks dX4_arm_19
  · have h2 := yB_1 h2
    have hf := yBt h2 hf
    refine lv_iload_n hx hb dX4_arm_7 rfl (lv_at hl 2 rfl) ?_
    refine lv_iconst (v := (-1)) hx hb dX4_arm_8 (by decide) ?_
    refine lv_icmp_lt (tgt := 18) hx hb dX4_arm_9 (by decide) (fun h3 => ?_) (fun h3 => ?_)
    · have hf := yt h3 hf
      refine lv_iconst (v := 0) hx hb dX4_arm_18 (by decide) ?_
      subst hf
      exact yy_zret (v := yB false) hx hb hr (yB_n _) hP hK hS hlocks dX4_arm_19
    · have hf := yf h3 hf
      refine lv_iload_n hx hb dX4_arm_12 rfl (lv_at hl 2 rfl) ?_
      refine lv_bipush (v := 100) hx hb dX4_arm_13 (by decide) ?_
      refine lv_icmp_le (tgt := 20) hx hb dX4_arm_15 (by decide) (fun h4 => ?_) (fun h4 => ?_)
      · have hf := yt h4 hf
        obtain ⟨nk, hc_nk, h_nk, he_nk⟩ : ∃ k : Nat, node.toNatClampNeg = k ∧ k < 3 ∧ node = nI k := (px_isNode_nat ‹_ = px_isNode node› ‹_ = true›)
        have hf_nk := yn_e hc_nk hf
        subst he_nk
        have hf := hf_nk
        obtain ⟨hP, hD⟩ := xW_to1 h_nk hP hD
        have hP : va_P D vwCl (xcW xa sa ta pa ++ stW cI cJ sa so ++ naW cN xa nad ++ tkW ta tk ++ pkW cI pa pk ++ vdW cI xa vd ++ tgW cI xa tg ++ ndW cI (nad nk) (ns nk) ++ n2W cI nad nk ns) _ := hP
        have hD : va_D A (xcW xa sa ta pa ++ stW cI cJ sa so ++ naW cN xa nad ++ tkW ta tk ++ pkW cI pa pk ++ vdW cI xa vd ++ tgW cI xa tg ++ ndW cI (nad nk) (ns nk) ++ n2W cI nad nk ns) := hD
        refine lv_aload_n hx hb dX4_arm_20 rfl (lv_at hl 0 rfl) ?_
        refine va_get (D := D) (ci := 4) (v := .ref (xa 1)) (C := RX4) (T := TX4) (N := 6) hx hb hts (yy_tl inX4) hown hK hP 0 rfl rfl 1 (by decide) (hw _ wq_147) (fun _ h9 => h9) rfl dX4_arm_21 ?_
        refine lv_iload_n hx hb dX4_arm_24 rfl (lv_at hl 1 rfl) ?_
        refine yr_aldq hx hb hK hP 7 3 (j := nk) (b := nad nk 0) rfl rfl rfl (by omega) (by decide) (na_at (by omega)) dX4_arm_25 ?_
        refine lv_iload_n hx hb dX4_arm_26 rfl (lv_at hl 2 rfl) ?_
        obtain ⟨r5, er5⟩ : ∃ r, r = nd_armWith n (ns nk) := ⟨_, rfl⟩
        have hf := yb_e er5 hf
        refine yz_callV (As := [.int n]) (rest := []) ⟨hx, hb, hml, hown, hts⟩ (c_nd_armWith l D cI cJ cZ cN (nad nk) n (ns nk)  r5 er5) ⟨callB_of 1 hts (yy_good wq_392) rfl rfl rfl (hw _ wq_36) (hw _ wq_389) (by decide +kernel) ⟨Nat.le_of_ble_eq_true rfl, Nat.le_of_ble_eq_true rfl⟩, hw _ wq_390, hw _ wq_391⟩ hK hN hP hD hS hA [15, 16, 17] rfl (by decide) rfl 18 rfl (w2 := (xcW xa sa ta pa ++ stW cI cJ sa so ++ naW cN xa nad ++ tkW ta tk ++ pkW cI pa pk ++ vdW cI xa vd ++ tgW cI xa tg ++ ndW cI (nad nk) r5 ++ n2W cI nad nk ns)) rfl 15 rfl rfl rfl hl.1 rfl (Nat.le_of_ble_eq_true rfl) dX4_arm_27 ⟨Nat.zero_le _, Nat.zero_le _⟩ (fun H locs hP hD hS => ?_)
        refine W.eq (g2 := F0 m 30 ls []) rfl ?_
        refine lv_iconst (v := 1) hx hb dX4_arm_30 (by decide) ?_
        have hP := xW_of1_1 h_nk hP
        subst hf
        exact yy_zret (v := yB true) hx hb hr (yB_n _) hP hK hS hlocks dX4_arm_31
      · have hf := yf h4 hf
        refine lv_iconst (v := 0) hx hb dX4_arm_18 (by decide) ?_
        subst hf
        exact yy_zret (v := yB false) hx hb hr (yB_n _) hP hK hS hlocks dX4_arm_19

set_option maxHeartbeats 4000000 in
set_option maxRecDepth 100000 in
theorem c_x_recover (l : Launch) (D : va_G) (cI cJ cZ cN : ClassId) (xa : Nat → Nat) (sa : Nat → Nat) (ta : Nat → Nat) (pa : Nat → Nat) (nad : Nat → Nat → Nat) (node : Int32) (so : SS) (tk : TS) (pk : PS) (vd : (Nat → Int32)) (tg : (Nat → Int32)) (ns : (Nat → NS)) (hs : so.2.2.2.2.2 ≤ 60) (hp : pk.2.2.2.2.1 ≤ 60) (res : Int32 × (Nat → NS)) (hf : res = x_recover node ns) : yy_Met l yX4_recover wsX4_recover { frames := 4, cells := 0, slots := 0, locals := 84 } D vwCl (yT cI cJ cZ cN) [.ref (xa 0), .int node] (xcW xa sa ta pa ++ stW cI cJ sa so ++ naW cN xa nad ++ tkW ta tk ++ pkW cI pa pk ++ vdW cI xa vd ++ tgW cI xa tg ++ n3W cI nad ns) (some (.int res.1)) (xcW xa sa ta pa ++ stW cI cJ sa so ++ naW cN xa nad ++ tkW ta tk ++ pkW cI pa pk ++ vdW cI xa vd ++ tgW cI xa tg ++ n3W cI nad res.2) := by
  intro sz
  refine Met.ofW (cc := cX4_recover) (maxL := 2) (ret := (some .int)) (by decide) rfl ?_
  intro p e s m args below meth c s₁ B hml hv
  obtain ⟨rfl, hsz, hP, hK, hD0, hN⟩ := hv
  have hx := B.exec
  have hb := B.bytes
  have hr := B.returns
  have hts := atoms_spec (ws := wsX4_recover) B.pre
  have hw : ∀ w ∈ yW, w.before _ s = true := fun w h => hts w (List.mem_cons_of_mem _ h)
  have hown : s.vm.findClass RX4 = some m.cls := findClass_of_methodNamed B.named
  have hlocks := B.notSynchronized
  subst hsz
  have hD := hD0.self (sz := s.heap.size)
  generalize hAe : va_A (xcW xa sa ta pa ++ stW cI cJ sa so ++ naW cN xa nad ++ tkW ta tk ++ pkW cI pa pk ++ vdW cI xa vd ++ tgW cI xa tg ++ n3W cI nad ns) s.heap.size = A at hD ⊢
  have hA : ∀ q : Nat, s.heap.size ≤ q → A q := fun q h => by rw [← hAe]; exact Or.inr h
  have hS : va_S A s.heap s.heap [] := va_S.rf
  have hl := lv_entry ([.ref (xa 0), .int node]) (n := 2) (Nat.le_of_ble_eq_true rfl)
  rw [lg_entry_eq]
  generalize (lg_sl ([.ref (xa 0), .int node]) ++ List.replicate (2 - (lg_sl ([.ref (xa 0), .int node])).length) Slot.unset).toArray = ls at hl ⊢
  have hl : lv_has ls 2 [(0, .ref (xa 0)), (1, .int node)] := hl
  rw [x_recover] at hf
  refine lv_iload_n hx hb dX4_recover_0 rfl (lv_at hl 1 rfl) ?_
  obtain ⟨r1, er1⟩ : ∃ r, r = px_isNode node := ⟨_, rfl⟩
  have hf := yb_e er1 hf
  refine yz_callS (As := [.int node]) (rest := []) ⟨hx, hb, hml, hown, hts⟩ (c_px_isNode l D cI cJ cZ cN node  r1 er1) ⟨callB_of 1 hts (yy_good wq_171) rfl rfl rfl (hw _ wq_34) (hw _ wq_169) (by decide +kernel) ⟨Nat.le_of_ble_eq_true rfl, Nat.le_of_ble_eq_true rfl⟩, hw _ wq_170⟩ hK hN hP hD hS hA [] rfl (by decide) rfl 0 rfl (w2 := (xcW xa sa ta pa ++ stW cI cJ sa so ++ naW cN xa nad ++ tkW ta tk ++ pkW cI pa pk ++ vdW cI xa vd ++ tgW cI xa tg ++ n3W cI nad ns)) rfl rfl hl.1 rfl (Nat.le_of_ble_eq_true rfl) dX4_recover_1 ⟨Nat.zero_le _, Nat.zero_le _⟩ (fun H locs hP hD hS => ?_)
  refine W.eq (g2 := F0 m 4 ls [.int (yB r1)]) rfl ?_
  refine lv_if_eq (tgt := 19) hx hb dX4_recover_4 (by decide) (fun h2 => ?_) (fun h2 => ?_)
  · have h2 := yB_0.mp h2
    have hf := yBf h2 hf
    refine lv_iconst (v := (-1)) hx hb dX4_recover_19 (by decide) ?_
    subst hf
    exact yy_iret (v := (-1)) hx hb hr hP hK hS hlocks dX4_recover_20
  · have h2 := yB_1 h2
    have hf := yBt h2 hf
    obtain ⟨nk, hc_nk, h_nk, he_nk⟩ : ∃ k : Nat, node.toNatClampNeg = k ∧ k < 3 ∧ node = nI k := (px_isNode_nat ‹_ = px_isNode node› ‹_ = true›)
    have hf_nk := yn_e hc_nk hf
    subst he_nk
    have hf := hf_nk
    obtain ⟨hP, hD⟩ := xW_to1 h_nk hP hD
    have hP : va_P D vwCl (xcW xa sa ta pa ++ stW cI cJ sa so ++ naW cN xa nad ++ tkW ta tk ++ pkW cI pa pk ++ vdW cI xa vd ++ tgW cI xa tg ++ ndW cI (nad nk) (ns nk) ++ n2W cI nad nk ns) _ := hP
    have hD : va_D A (xcW xa sa ta pa ++ stW cI cJ sa so ++ naW cN xa nad ++ tkW ta tk ++ pkW cI pa pk ++ vdW cI xa vd ++ tgW cI xa tg ++ ndW cI (nad nk) (ns nk) ++ n2W cI nad nk ns) := hD
    refine lv_aload_n hx hb dX4_recover_7 rfl (lv_at hl 0 rfl) ?_
    refine va_get (D := D) (ci := 4) (v := .ref (xa 1)) (C := RX4) (T := TX4) (N := 6) hx hb hts (yy_tl inX4) hown hK hP 0 rfl rfl 1 (by decide) (hw _ wq_147) (fun _ h9 => h9) rfl dX4_recover_8 ?_
    refine lv_iload_n hx hb dX4_recover_11 rfl (lv_at hl 1 rfl) ?_
    refine yr_aldq hx hb hK hP 7 3 (j := nk) (b := nad nk 0) rfl rfl rfl (by omega) (by decide) (na_at (by omega)) dX4_recover_12 ?_
    obtain ⟨r3, er3⟩ : ∃ r, r = nd_isUp (ns nk) := ⟨_, rfl⟩
    have hf := yb_e er3 hf
    refine yz_callV (As := []) (rest := []) ⟨hx, hb, hml, hown, hts⟩ (c_nd_isUp l D cI cJ cZ cN (nad nk) (ns nk)  r3 er3) ⟨callB_of 0 hts (yy_good wq_175) rfl rfl rfl (hw _ wq_36) (hw _ wq_172) (by decide +kernel) ⟨Nat.le_of_ble_eq_true rfl, Nat.le_of_ble_eq_true rfl⟩, hw _ wq_173, hw _ wq_174⟩ hK hN hP hD hS hA [15, 16, 17] rfl (by decide) rfl 18 rfl (w2 := (xcW xa sa ta pa ++ stW cI cJ sa so ++ naW cN xa nad ++ tkW ta tk ++ pkW cI pa pk ++ vdW cI xa vd ++ tgW cI xa tg ++ ndW cI (nad nk) (ns nk) ++ n2W cI nad nk ns)) rfl 15 rfl rfl rfl hl.1 rfl (Nat.le_of_ble_eq_true rfl) dX4_recover_13 ⟨Nat.zero_le _, Nat.zero_le _⟩ (fun H locs hP hD hS => ?_)
    refine W.eq (g2 := F0 m 16 ls [.int (yB r3)]) rfl ?_
    refine lv_if_eq (tgt := 21) hx hb dX4_recover_16 (by decide) (fun h4 => ?_) (fun h4 => ?_)
    · have h4 := yB_0.mp h4
      have hf := yBf h4 hf
      refine lv_aload_n hx hb dX4_recover_21 rfl (lv_at hl 0 rfl) ?_
      refine va_get (D := D) (ci := 4) (v := .ref (xa 1)) (C := RX4) (T := TX4) (N := 6) hx hb hts (yy_tl inX4) hown hK hP 0 rfl rfl 1 (by decide) (hw _ wq_147) (fun _ h9 => h9) rfl dX4_recover_22 ?_
      refine lv_iload_n hx hb dX4_recover_25 rfl (lv_at hl 1 rfl) ?_
      refine yr_aldq hx hb hK hP 7 3 (j := nk) (b := nad nk 0) rfl rfl rfl (by omega) (by decide) (na_at (by omega)) dX4_recover_26 ?_
      obtain ⟨r5, er5⟩ : ∃ r, r = nd_restore (ns nk) := ⟨_, rfl⟩
      have hf := yb_e er5 hf
      refine yz_callV (As := []) (rest := []) ⟨hx, hb, hml, hown, hts⟩ (c_nd_restore l D cI cJ cZ cN (nad nk) (ns nk)  r5 er5) ⟨callB_of 0 hts (yy_good wq_400) rfl rfl rfl (hw _ wq_36) (hw _ wq_397) (by decide +kernel) ⟨Nat.le_of_ble_eq_true rfl, Nat.le_of_ble_eq_true rfl⟩, hw _ wq_398, hw _ wq_399⟩ hK hN hP hD hS hA [15, 16, 17] rfl (by decide) rfl 18 rfl (w2 := (xcW xa sa ta pa ++ stW cI cJ sa so ++ naW cN xa nad ++ tkW ta tk ++ pkW cI pa pk ++ vdW cI xa vd ++ tgW cI xa tg ++ ndW cI (nad nk) r5.2 ++ n2W cI nad nk ns)) rfl 15 rfl rfl rfl hl.1 rfl (Nat.le_of_ble_eq_true rfl) dX4_recover_27 ⟨Nat.zero_le _, Nat.zero_le _⟩ (fun H locs hP hD hS => ?_)
      refine W.eq (g2 := F0 m 30 ls [.int r5.1]) rfl ?_
      have hP := xW_of1_1 h_nk hP
      subst hf
      exact yy_iret (v := r5.1) hx hb hr hP hK hS hlocks dX4_recover_30
    · have h4 := yB_1 h4
      have hf := yBt h4 hf
      refine lv_iconst (v := (-1)) hx hb dX4_recover_19 (by decide) ?_
      have hP := xW_of1_0 h_nk hP
      subst hf
      exact yy_iret (v := (-1)) hx hb hr hP hK hS hlocks dX4_recover_20

set_option maxHeartbeats 4000000 in
set_option maxRecDepth 100000 in
theorem c_x_collect (l : Launch) (D : va_G) (cI cJ cZ cN : ClassId) (xa : Nat → Nat) (sa : Nat → Nat) (ta : Nat → Nat) (pa : Nat → Nat) (nad : Nat → Nat → Nat) (node : Int32) (so : SS) (tk : TS) (pk : PS) (vd : (Nat → Int32)) (tg : (Nat → Int32)) (ns : (Nat → NS)) (hs : so.2.2.2.2.2 ≤ 60) (hp : pk.2.2.2.2.1 ≤ 60) (res : Int32 × (Nat → NS)) (hf : res = x_collect node so ns) : yy_Met l yX4_collect wsX4_collect { frames := 2, cells := 0, slots := 0, locals := 47 } D vwCl (yT cI cJ cZ cN) [.ref (xa 0), .int node] (xcW xa sa ta pa ++ stW cI cJ sa so ++ naW cN xa nad ++ tkW ta tk ++ pkW cI pa pk ++ vdW cI xa vd ++ tgW cI xa tg ++ n3W cI nad ns) (some (.int res.1)) (xcW xa sa ta pa ++ stW cI cJ sa so ++ naW cN xa nad ++ tkW ta tk ++ pkW cI pa pk ++ vdW cI xa vd ++ tgW cI xa tg ++ n3W cI nad res.2) := by
  intro sz
  refine Met.ofW (cc := cX4_collect) (maxL := 3) (ret := (some .int)) (by decide) rfl ?_
  intro p e s m args below meth c s₁ B hml hv
  obtain ⟨rfl, hsz, hP, hK, hD0, hN⟩ := hv
  have hx := B.exec
  have hb := B.bytes
  have hr := B.returns
  have hts := atoms_spec (ws := wsX4_collect) B.pre
  have hw : ∀ w ∈ yW, w.before _ s = true := fun w h => hts w (List.mem_cons_of_mem _ h)
  have hown : s.vm.findClass RX4 = some m.cls := findClass_of_methodNamed B.named
  have hlocks := B.notSynchronized
  subst hsz
  have hD := hD0.self (sz := s.heap.size)
  generalize hAe : va_A (xcW xa sa ta pa ++ stW cI cJ sa so ++ naW cN xa nad ++ tkW ta tk ++ pkW cI pa pk ++ vdW cI xa vd ++ tgW cI xa tg ++ n3W cI nad ns) s.heap.size = A at hD ⊢
  have hA : ∀ q : Nat, s.heap.size ≤ q → A q := fun q h => by rw [← hAe]; exact Or.inr h
  have hS : va_S A s.heap s.heap [] := va_S.rf
  have hl := lv_entry ([.ref (xa 0), .int node]) (n := 3) (Nat.le_of_ble_eq_true rfl)
  rw [lg_entry_eq]
  generalize (lg_sl ([.ref (xa 0), .int node]) ++ List.replicate (3 - (lg_sl ([.ref (xa 0), .int node])).length) Slot.unset).toArray = ls at hl ⊢
  have hl : lv_has ls 3 [(0, .ref (xa 0)), (1, .int node)] := hl
  rw [x_collect] at hf
  refine lv_iload_n hx hb dX4_collect_0 rfl (lv_at hl 1 rfl) ?_
  obtain ⟨r1, er1⟩ : ∃ r, r = px_isNode node := ⟨_, rfl⟩
  have hf := yb_e er1 hf
  refine yz_callS (As := [.int node]) (rest := []) ⟨hx, hb, hml, hown, hts⟩ (c_px_isNode l D cI cJ cZ cN node  r1 er1) ⟨callB_of 1 hts (yy_good wq_171) rfl rfl rfl (hw _ wq_34) (hw _ wq_169) (by decide +kernel) ⟨Nat.le_of_ble_eq_true rfl, Nat.le_of_ble_eq_true rfl⟩, hw _ wq_170⟩ hK hN hP hD hS hA [] rfl (by decide) rfl 0 rfl (w2 := (xcW xa sa ta pa ++ stW cI cJ sa so ++ naW cN xa nad ++ tkW ta tk ++ pkW cI pa pk ++ vdW cI xa vd ++ tgW cI xa tg ++ n3W cI nad ns)) rfl rfl hl.1 rfl (Nat.le_of_ble_eq_true rfl) dX4_collect_1 ⟨Nat.zero_le _, Nat.zero_le _⟩ (fun H locs hP hD hS => ?_)
  refine W.eq (g2 := F0 m 4 ls [.int (yB r1)]) rfl ?_
  refine lv_if_ne (tgt := 9) hx hb dX4_collect_4 (by decide) (fun h2 => ?_) (fun h2 => ?_)
  · have h2 := yB_1 h2
    have hf := yBt h2 hf
    obtain ⟨nk, hc_nk, h_nk, he_nk⟩ : ∃ k : Nat, node.toNatClampNeg = k ∧ k < 3 ∧ node = nI k := (px_isNode_nat ‹_ = px_isNode node› ‹_ = true›)
    have hf_nk := yn_e hc_nk hf
    subst he_nk
    have hf := hf_nk
    obtain ⟨hP, hD⟩ := xW_to1 h_nk hP hD
    have hP : va_P D vwCl (xcW xa sa ta pa ++ stW cI cJ sa so ++ naW cN xa nad ++ tkW ta tk ++ pkW cI pa pk ++ vdW cI xa vd ++ tgW cI xa tg ++ ndW cI (nad nk) (ns nk) ++ n2W cI nad nk ns) _ := hP
    have hD : va_D A (xcW xa sa ta pa ++ stW cI cJ sa so ++ naW cN xa nad ++ tkW ta tk ++ pkW cI pa pk ++ vdW cI xa vd ++ tgW cI xa tg ++ ndW cI (nad nk) (ns nk) ++ n2W cI nad nk ns) := hD
    refine lv_aload_n hx hb dX4_collect_9 rfl (lv_at hl 0 rfl) ?_
    refine va_get (D := D) (ci := 4) (v := .ref (xa 1)) (C := RX4) (T := TX4) (N := 6) hx hb hts (yy_tl inX4) hown hK hP 0 rfl rfl 1 (by decide) (hw _ wq_147) (fun _ h9 => h9) rfl dX4_collect_10 ?_
    refine lv_iload_n hx hb dX4_collect_13 rfl (lv_at hl 1 rfl) ?_
    refine yr_aldq hx hb hK hP 7 3 (j := nk) (b := nad nk 0) rfl rfl rfl (by omega) (by decide) (na_at (by omega)) dX4_collect_14 ?_
    refine lv_astore_n (lv' := [(2, .ref (nad nk 0)), (0, .ref (xa 0)), (1, .int (nI nk))]) hx hb dX4_collect_15 rfl hl (by decide) rfl (fun ls hl => ?_)
    refine lv_aload_n hx hb dX4_collect_16 rfl (lv_at hl 0 rfl) ?_
    obtain ⟨r3, er3⟩ : ∃ r, r = nd_isUp (ns nk) := ⟨_, rfl⟩
    have hf := yb_e er3 hf
    refine yz_callV (As := []) (rest := []) ⟨hx, hb, hml, hown, hts⟩ (c_nd_isUp l D cI cJ cZ cN (nad nk) (ns nk)  r3 er3) ⟨callB_of 0 hts (yy_good wq_175) rfl rfl rfl (hw _ wq_36) (hw _ wq_172) (by decide +kernel) ⟨Nat.le_of_ble_eq_true rfl, Nat.le_of_ble_eq_true rfl⟩, hw _ wq_173, hw _ wq_174⟩ hK hN hP hD hS hA [15, 16, 17] rfl (by decide) rfl 18 rfl (w2 := (xcW xa sa ta pa ++ stW cI cJ sa so ++ naW cN xa nad ++ tkW ta tk ++ pkW cI pa pk ++ vdW cI xa vd ++ tgW cI xa tg ++ ndW cI (nad nk) (ns nk) ++ n2W cI nad nk ns)) rfl 15 rfl rfl rfl hl.1 rfl (Nat.le_of_ble_eq_true rfl) dX4_collect_17 ⟨Nat.zero_le _, Nat.zero_le _⟩ (fun H locs hP hD hS => ?_)
    refine W.eq (g2 := F0 m 20 ls [.int (yB r3)]) rfl ?_
    refine lv_if_ne (tgt := 26) hx hb dX4_collect_20 (by decide) (fun h4 => ?_) (fun h4 => ?_)
    · have h4 := yB_1 h4
      have hf := yBt h4 hf
      refine lv_aload_n hx hb dX4_collect_26 rfl (lv_at hl 0 rfl) ?_
      refine lv_aload_n hx hb dX4_collect_27 rfl (lv_at hl 1 rfl) ?_
      refine va_get (D := D) (ci := 4) (v := .ref (sa 0)) (C := RX4) (T := TX4) (N := 6) hx hb hts (yy_tl inX4) hown hK hP 0 rfl rfl 0 (by decide) (hw _ wq_146) (fun _ h9 => h9) rfl dX4_collect_28 ?_
      refine lv_aload_n hx hb dX4_collect_31 rfl (lv_at hl 0 rfl) ?_
      refine lv_sipush (v := 255) hx hb dX4_collect_32 (by decide) ?_
      obtain ⟨r5, er5⟩ : ∃ r, r = nd_commitsOf 255 (ns nk) := ⟨_, rfl⟩
      have hf := yb_e er5 hf
      refine yz_callV (As := [.int 255]) (rest := [.ref (sa 0), .ref (nad nk 0)]) ⟨hx, hb, hml, hown, hts⟩ (c_nd_commitsOf l D cI cJ cZ cN (nad nk) 255 (ns nk)  r5 er5) ⟨callB_of 1 hts (yy_good wq_285) rfl rfl rfl (hw _ wq_36) (hw _ wq_282) (by decide +kernel) ⟨Nat.le_of_ble_eq_true rfl, Nat.le_of_ble_eq_true rfl⟩, hw _ wq_283, hw _ wq_284⟩ hK hN hP hD hS hA [15, 16, 17] rfl (by decide) rfl 18 rfl (w2 := (xcW xa sa ta pa ++ stW cI cJ sa so ++ naW cN xa nad ++ tkW ta tk ++ pkW cI pa pk ++ vdW cI xa vd ++ tgW cI xa tg ++ ndW cI (nad nk) (ns nk) ++ n2W cI nad nk ns)) rfl 15 rfl rfl rfl hl.1 rfl (Nat.le_of_ble_eq_true rfl) dX4_collect_35 ⟨Nat.zero_le _, Nat.zero_le _⟩ (fun H locs hP hD hS => ?_)
      refine W.eq (g2 := F0 m 38 ls [.long r5, .ref (sa 0), .ref (nad nk 0)]) rfl ?_
      obtain ⟨r6, er6⟩ : ∃ r, r = st_reachOfAll r5 so := ⟨_, rfl⟩
      have hf := yb_e er6 hf
      refine yz_callV (As := [.long r5]) (rest := [.ref (nad nk 0)]) ⟨hx, hb, hml, hown, hts⟩ (c_st_reachOfAll l D cI cJ cZ cN sa r5 so (by (try dsimp only) <;> omega) r6 er6) ⟨callB_of 1 hts (yy_good wq_293) rfl rfl rfl (hw _ wq_35) (hw _ wq_290) (by decide +kernel) ⟨Nat.le_of_ble_eq_true rfl, Nat.le_of_ble_eq_true rfl⟩, hw _ wq_291, hw _ wq_292⟩ hK hN hP hD hS hA [1, 2, 3, 4, 5, 6] rfl (by decide) rfl 7 rfl (w2 := (xcW xa sa ta pa ++ stW cI cJ sa so ++ naW cN xa nad ++ tkW ta tk ++ pkW cI pa pk ++ vdW cI xa vd ++ tgW cI xa tg ++ ndW cI (nad nk) (ns nk) ++ n2W cI nad nk ns)) rfl 1 rfl rfl rfl hl.1 rfl (Nat.le_of_ble_eq_true rfl) dX4_collect_38 ⟨Nat.zero_le _, Nat.zero_le _⟩ (fun H locs hP hD hS => ?_)
      refine W.eq (g2 := F0 m 41 ls [.long r6, .ref (nad nk 0)]) rfl ?_
      obtain ⟨r7, er7⟩ : ∃ r, r = nd_keepOnly r6 (ns nk) := ⟨_, rfl⟩
      have hf := yb_e er7 hf
      refine yz_callV (As := [.long r6]) (rest := []) ⟨hx, hb, hml, hown, hts⟩ (c_nd_keepOnly l D cI cJ cZ cN (nad nk) r6 (ns nk)  r7 er7) ⟨callB_of 1 hts (yy_good wq_408) rfl rfl rfl (hw _ wq_36) (hw _ wq_405) (by decide +kernel) ⟨Nat.le_of_ble_eq_true rfl, Nat.le_of_ble_eq_true rfl⟩, hw _ wq_406, hw _ wq_407⟩ hK hN hP hD hS hA [15, 16, 17] rfl (by decide) rfl 18 rfl (w2 := (xcW xa sa ta pa ++ stW cI cJ sa so ++ naW cN xa nad ++ tkW ta tk ++ pkW cI pa pk ++ vdW cI xa vd ++ tgW cI xa tg ++ ndW cI (nad nk) r7.2 ++ n2W cI nad nk ns)) rfl 15 rfl rfl rfl hl.1 rfl (Nat.le_of_ble_eq_true rfl) dX4_collect_41 ⟨Nat.zero_le _, Nat.zero_le _⟩ (fun H locs hP hD hS => ?_)
      refine W.eq (g2 := F0 m 44 ls [.int r7.1]) rfl ?_
      have hP := xW_of1_1 h_nk hP
      subst hf
      exact yy_iret (v := r7.1) hx hb hr hP hK hS hlocks dX4_collect_44
    · have h4 := yB_0.mp h4
      have hf := yBf h4 hf
      refine lv_bipush (v := (-2)) hx hb dX4_collect_23 (by decide) ?_
      have hP := xW_of1_0 h_nk hP
      subst hf
      exact yy_iret (v := (-2)) hx hb hr hP hK hS hlocks dX4_collect_25
  · have h2 := yB_0.mp h2
    have hf := yBf h2 hf
    refine lv_iconst (v := (-1)) hx hb dX4_collect_7 (by decide) ?_
    subst hf
    exact yy_iret (v := (-1)) hx hb hr hP hK hS hlocks dX4_collect_8

set_option maxHeartbeats 4000000 in
set_option maxRecDepth 100000 in
theorem c_x_up (l : Launch) (D : va_G) (cI cJ cZ cN : ClassId) (xa : Nat → Nat) (sa : Nat → Nat) (ta : Nat → Nat) (pa : Nat → Nat) (nad : Nat → Nat → Nat) (node : Int32) (so : SS) (tk : TS) (pk : PS) (vd : (Nat → Int32)) (tg : (Nat → Int32)) (ns : (Nat → NS)) (hs : so.2.2.2.2.2 ≤ 60) (hp : pk.2.2.2.2.1 ≤ 60) (res : Bool) (hf : res = x_up node ns) : yy_Met l yX4_up wsX4_up { frames := 1, cells := 0, slots := 0, locals := 20 } D vwCl (yT cI cJ cZ cN) [.ref (xa 0), .int node] (xcW xa sa ta pa ++ stW cI cJ sa so ++ naW cN xa nad ++ tkW ta tk ++ pkW cI pa pk ++ vdW cI xa vd ++ tgW cI xa tg ++ n3W cI nad ns) (some (.int (yB res))) (xcW xa sa ta pa ++ stW cI cJ sa so ++ naW cN xa nad ++ tkW ta tk ++ pkW cI pa pk ++ vdW cI xa vd ++ tgW cI xa tg ++ n3W cI nad ns) := by
  intro sz
  refine Met.ofW (cc := cX4_up) (maxL := 2) (ret := (some .boolean)) (by decide) rfl ?_
  intro p e s m args below meth c s₁ B hml hv
  obtain ⟨rfl, hsz, hP, hK, hD0, hN⟩ := hv
  have hx := B.exec
  have hb := B.bytes
  have hr := B.returns
  have hts := atoms_spec (ws := wsX4_up) B.pre
  have hw : ∀ w ∈ yW, w.before _ s = true := fun w h => hts w (List.mem_cons_of_mem _ h)
  have hown : s.vm.findClass RX4 = some m.cls := findClass_of_methodNamed B.named
  have hlocks := B.notSynchronized
  subst hsz
  have hD := hD0.self (sz := s.heap.size)
  generalize hAe : va_A (xcW xa sa ta pa ++ stW cI cJ sa so ++ naW cN xa nad ++ tkW ta tk ++ pkW cI pa pk ++ vdW cI xa vd ++ tgW cI xa tg ++ n3W cI nad ns) s.heap.size = A at hD ⊢
  have hA : ∀ q : Nat, s.heap.size ≤ q → A q := fun q h => by rw [← hAe]; exact Or.inr h
  have hS : va_S A s.heap s.heap [] := va_S.rf
  have hl := lv_entry ([.ref (xa 0), .int node]) (n := 2) (Nat.le_of_ble_eq_true rfl)
  rw [lg_entry_eq]
  generalize (lg_sl ([.ref (xa 0), .int node]) ++ List.replicate (2 - (lg_sl ([.ref (xa 0), .int node])).length) Slot.unset).toArray = ls at hl ⊢
  have hl : lv_has ls 2 [(0, .ref (xa 0)), (1, .int node)] := hl
  rw [x_up] at hf
  refine lv_iload_n hx hb dX4_up_0 rfl (lv_at hl 1 rfl) ?_
  obtain ⟨r1, er1⟩ : ∃ r, r = px_isNode node := ⟨_, rfl⟩
  have hf := yb_e er1 hf
  refine yz_callS (As := [.int node]) (rest := []) ⟨hx, hb, hml, hown, hts⟩ (c_px_isNode l D cI cJ cZ cN node  r1 er1) ⟨callB_of 1 hts (yy_good wq_171) rfl rfl rfl (hw _ wq_34) (hw _ wq_169) (by decide +kernel) ⟨Nat.le_of_ble_eq_true rfl, Nat.le_of_ble_eq_true rfl⟩, hw _ wq_170⟩ hK hN hP hD hS hA [] rfl (by decide) rfl 0 rfl (w2 := (xcW xa sa ta pa ++ stW cI cJ sa so ++ naW cN xa nad ++ tkW ta tk ++ pkW cI pa pk ++ vdW cI xa vd ++ tgW cI xa tg ++ n3W cI nad ns)) rfl rfl hl.1 rfl (Nat.le_of_ble_eq_true rfl) dX4_up_1 ⟨Nat.zero_le _, Nat.zero_le _⟩ (fun H locs hP hD hS => ?_)
  refine W.eq (g2 := F0 m 4 ls [.int (yB r1)]) rfl ?_
  refine lv_if_eq (tgt := 23) hx hb dX4_up_4 (by decide) (fun h2 => ?_) (fun h2 => ?_)
  · have h2 := yB_0.mp h2
    have hf := yBf h2 hf
    refine lv_iconst (v := 0) hx hb dX4_up_23 (by decide) ?_
    subst hf
    exact yy_zret (v := yB false) hx hb hr (yB_n _) hP hK hS hlocks dX4_up_24
  · have h2 := yB_1 h2
    have hf := yBt h2 hf
    obtain ⟨nk, hc_nk, h_nk, he_nk⟩ : ∃ k : Nat, node.toNatClampNeg = k ∧ k < 3 ∧ node = nI k := (px_isNode_nat ‹_ = px_isNode node› ‹_ = true›)
    have hf_nk := yn_e hc_nk hf
    subst he_nk
    have hf := hf_nk
    obtain ⟨hP, hD⟩ := xW_to1 h_nk hP hD
    have hP : va_P D vwCl (xcW xa sa ta pa ++ stW cI cJ sa so ++ naW cN xa nad ++ tkW ta tk ++ pkW cI pa pk ++ vdW cI xa vd ++ tgW cI xa tg ++ ndW cI (nad nk) (ns nk) ++ n2W cI nad nk ns) _ := hP
    have hD : va_D A (xcW xa sa ta pa ++ stW cI cJ sa so ++ naW cN xa nad ++ tkW ta tk ++ pkW cI pa pk ++ vdW cI xa vd ++ tgW cI xa tg ++ ndW cI (nad nk) (ns nk) ++ n2W cI nad nk ns) := hD
    refine lv_aload_n hx hb dX4_up_7 rfl (lv_at hl 0 rfl) ?_
    refine va_get (D := D) (ci := 4) (v := .ref (xa 1)) (C := RX4) (T := TX4) (N := 6) hx hb hts (yy_tl inX4) hown hK hP 0 rfl rfl 1 (by decide) (hw _ wq_147) (fun _ h9 => h9) rfl dX4_up_8 ?_
    refine lv_iload_n hx hb dX4_up_11 rfl (lv_at hl 1 rfl) ?_
    refine yr_aldq hx hb hK hP 7 3 (j := nk) (b := nad nk 0) rfl rfl rfl (by omega) (by decide) (na_at (by omega)) dX4_up_12 ?_
    obtain ⟨r3, er3⟩ : ∃ r, r = nd_isUp (ns nk) := ⟨_, rfl⟩
    have hf := yb_e er3 hf
    refine yz_callV (As := []) (rest := []) ⟨hx, hb, hml, hown, hts⟩ (c_nd_isUp l D cI cJ cZ cN (nad nk) (ns nk)  r3 er3) ⟨callB_of 0 hts (yy_good wq_175) rfl rfl rfl (hw _ wq_36) (hw _ wq_172) (by decide +kernel) ⟨Nat.le_of_ble_eq_true rfl, Nat.le_of_ble_eq_true rfl⟩, hw _ wq_173, hw _ wq_174⟩ hK hN hP hD hS hA [15, 16, 17] rfl (by decide) rfl 18 rfl (w2 := (xcW xa sa ta pa ++ stW cI cJ sa so ++ naW cN xa nad ++ tkW ta tk ++ pkW cI pa pk ++ vdW cI xa vd ++ tgW cI xa tg ++ ndW cI (nad nk) (ns nk) ++ n2W cI nad nk ns)) rfl 15 rfl rfl rfl hl.1 rfl (Nat.le_of_ble_eq_true rfl) dX4_up_13 ⟨Nat.zero_le _, Nat.zero_le _⟩ (fun H locs hP hD hS => ?_)
    refine W.eq (g2 := F0 m 16 ls [.int (yB r3)]) rfl ?_
    refine lv_if_eq (tgt := 23) hx hb dX4_up_16 (by decide) (fun h4 => ?_) (fun h4 => ?_)
    · have h4 := yB_0.mp h4
      have hf := yBf h4 hf
      refine lv_iconst (v := 0) hx hb dX4_up_23 (by decide) ?_
      have hP := xW_of1_0 h_nk hP
      subst hf
      exact yy_zret (v := yB false) hx hb hr (yB_n _) hP hK hS hlocks dX4_up_24
    · have h4 := yB_1 h4
      have hf := yBt h4 hf
      refine lv_iconst (v := 1) hx hb dX4_up_19 (by decide) ?_
      refine lv_goto (tgt := 24) hx hb dX4_up_20 (by decide) ?_
      have hP := xW_of1_0 h_nk hP
      subst hf
      exact yy_zret (v := yB true) hx hb hr (yB_n _) hP hK hS hlocks dX4_up_24

set_option maxHeartbeats 4000000 in
set_option maxRecDepth 100000 in
theorem c_x_reference (l : Launch) (D : va_G) (cI cJ cZ cN : ClassId) (xa : Nat → Nat) (sa : Nat → Nat) (ta : Nat → Nat) (pa : Nat → Nat) (nad : Nat → Nat → Nat) (node : Int32) (rf : Int32) (so : SS) (tk : TS) (pk : PS) (vd : (Nat → Int32)) (tg : (Nat → Int32)) (ns : (Nat → NS)) (hs : so.2.2.2.2.2 ≤ 60) (hp : pk.2.2.2.2.1 ≤ 60) (res : Int32) (hf : res = x_reference node rf ns) : yy_Met l yX4_reference wsX4_reference { frames := 1, cells := 0, slots := 0, locals := 21 } D vwCl (yT cI cJ cZ cN) [.ref (xa 0), .int node, .int rf] (xcW xa sa ta pa ++ stW cI cJ sa so ++ naW cN xa nad ++ tkW ta tk ++ pkW cI pa pk ++ vdW cI xa vd ++ tgW cI xa tg ++ n3W cI nad ns) (some (.int res)) (xcW xa sa ta pa ++ stW cI cJ sa so ++ naW cN xa nad ++ tkW ta tk ++ pkW cI pa pk ++ vdW cI xa vd ++ tgW cI xa tg ++ n3W cI nad ns) := by
  intro sz
  refine Met.ofW (cc := cX4_reference) (maxL := 4) (ret := (some .int)) (by decide) rfl ?_
  intro p e s m args below meth c s₁ B hml hv
  obtain ⟨rfl, hsz, hP, hK, hD0, hN⟩ := hv
  have hx := B.exec
  have hb := B.bytes
  have hr := B.returns
  have hts := atoms_spec (ws := wsX4_reference) B.pre
  have hw : ∀ w ∈ yW, w.before _ s = true := fun w h => hts w (List.mem_cons_of_mem _ h)
  have hown : s.vm.findClass RX4 = some m.cls := findClass_of_methodNamed B.named
  have hlocks := B.notSynchronized
  subst hsz
  have hD := hD0.self (sz := s.heap.size)
  generalize hAe : va_A (xcW xa sa ta pa ++ stW cI cJ sa so ++ naW cN xa nad ++ tkW ta tk ++ pkW cI pa pk ++ vdW cI xa vd ++ tgW cI xa tg ++ n3W cI nad ns) s.heap.size = A at hD ⊢
  have hA : ∀ q : Nat, s.heap.size ≤ q → A q := fun q h => by rw [← hAe]; exact Or.inr h
  have hS : va_S A s.heap s.heap [] := va_S.rf
  have hl := lv_entry ([.ref (xa 0), .int node, .int rf]) (n := 4) (Nat.le_of_ble_eq_true rfl)
  rw [lg_entry_eq]
  generalize (lg_sl ([.ref (xa 0), .int node, .int rf]) ++ List.replicate (4 - (lg_sl ([.ref (xa 0), .int node, .int rf])).length) Slot.unset).toArray = ls at hl ⊢
  have hl : lv_has ls 4 [(0, .ref (xa 0)), (1, .int node), (2, .int rf)] := hl
  rw [x_reference] at hf
  refine lv_iload_n hx hb dX4_reference_0 rfl (lv_at hl 1 rfl) ?_
  obtain ⟨r1, er1⟩ : ∃ r, r = px_isNode node := ⟨_, rfl⟩
  have hf := yb_e er1 hf
  refine yz_callS (As := [.int node]) (rest := []) ⟨hx, hb, hml, hown, hts⟩ (c_px_isNode l D cI cJ cZ cN node  r1 er1) ⟨callB_of 1 hts (yy_good wq_171) rfl rfl rfl (hw _ wq_34) (hw _ wq_169) (by decide +kernel) ⟨Nat.le_of_ble_eq_true rfl, Nat.le_of_ble_eq_true rfl⟩, hw _ wq_170⟩ hK hN hP hD hS hA [] rfl (by decide) rfl 0 rfl (w2 := (xcW xa sa ta pa ++ stW cI cJ sa so ++ naW cN xa nad ++ tkW ta tk ++ pkW cI pa pk ++ vdW cI xa vd ++ tgW cI xa tg ++ n3W cI nad ns)) rfl rfl hl.1 rfl (Nat.le_of_ble_eq_true rfl) dX4_reference_1 ⟨Nat.zero_le _, Nat.zero_le _⟩ (fun H locs hP hD hS => ?_)
  refine W.eq (g2 := F0 m 4 ls [.int (yB r1)]) rfl ?_
  refine lv_if_eq (tgt := 17) hx hb dX4_reference_4 (by decide) (fun h2 => ?_) (fun h2 => ?_)
  · have h2 := yB_0.mp h2
    have hf := yBf h2 hf
    refine lv_iconst (v := (-1)) hx hb dX4_reference_17 (by decide) ?_
    subst hf
    exact yy_iret (v := (-1)) hx hb hr hP hK hS hlocks dX4_reference_18
  · have h2 := yB_1 h2
    have hf := yBt h2 hf
    refine lv_iload_n hx hb dX4_reference_7 rfl (lv_at hl 2 rfl) ?_
    refine lv_if_lt (tgt := 17) hx hb dX4_reference_8 (by decide) (fun h3 => ?_) (fun h3 => ?_)
    · have hf := yt h3 hf
      refine lv_iconst (v := (-1)) hx hb dX4_reference_17 (by decide) ?_
      subst hf
      exact yy_iret (v := (-1)) hx hb hr hP hK hS hlocks dX4_reference_18
    · have hf := yf h3 hf
      refine lv_iload_n hx hb dX4_reference_11 rfl (lv_at hl 2 rfl) ?_
      refine lv_bipush (v := 8) hx hb dX4_reference_12 (by decide) ?_
      refine lv_icmp_lt (tgt := 19) hx hb dX4_reference_14 (by decide) (fun h4 => ?_) (fun h4 => ?_)
      · have hf := yt h4 hf
        obtain ⟨nk, hc_nk, h_nk, he_nk⟩ : ∃ k : Nat, node.toNatClampNeg = k ∧ k < 3 ∧ node = nI k := (px_isNode_nat ‹_ = px_isNode node› ‹_ = true›)
        have hf_nk := yn_e hc_nk hf
        subst he_nk
        have hf := hf_nk
        obtain ⟨hP, hD⟩ := xW_to1 h_nk hP hD
        have hP : va_P D vwCl (xcW xa sa ta pa ++ stW cI cJ sa so ++ naW cN xa nad ++ tkW ta tk ++ pkW cI pa pk ++ vdW cI xa vd ++ tgW cI xa tg ++ ndW cI (nad nk) (ns nk) ++ n2W cI nad nk ns) _ := hP
        have hD : va_D A (xcW xa sa ta pa ++ stW cI cJ sa so ++ naW cN xa nad ++ tkW ta tk ++ pkW cI pa pk ++ vdW cI xa vd ++ tgW cI xa tg ++ ndW cI (nad nk) (ns nk) ++ n2W cI nad nk ns) := hD
        refine lv_aload_n hx hb dX4_reference_19 rfl (lv_at hl 0 rfl) ?_
        refine va_get (D := D) (ci := 4) (v := .ref (xa 1)) (C := RX4) (T := TX4) (N := 6) hx hb hts (yy_tl inX4) hown hK hP 0 rfl rfl 1 (by decide) (hw _ wq_147) (fun _ h9 => h9) rfl dX4_reference_20 ?_
        refine lv_iload_n hx hb dX4_reference_23 rfl (lv_at hl 1 rfl) ?_
        refine yr_aldq hx hb hK hP 7 3 (j := nk) (b := nad nk 0) rfl rfl rfl (by omega) (by decide) (na_at (by omega)) dX4_reference_24 ?_
        obtain ⟨r5, er5⟩ : ∃ r, r = nd_isUp (ns nk) := ⟨_, rfl⟩
        have hf := yb_e er5 hf
        refine yz_callV (As := []) (rest := []) ⟨hx, hb, hml, hown, hts⟩ (c_nd_isUp l D cI cJ cZ cN (nad nk) (ns nk)  r5 er5) ⟨callB_of 0 hts (yy_good wq_175) rfl rfl rfl (hw _ wq_36) (hw _ wq_172) (by decide +kernel) ⟨Nat.le_of_ble_eq_true rfl, Nat.le_of_ble_eq_true rfl⟩, hw _ wq_173, hw _ wq_174⟩ hK hN hP hD hS hA [15, 16, 17] rfl (by decide) rfl 18 rfl (w2 := (xcW xa sa ta pa ++ stW cI cJ sa so ++ naW cN xa nad ++ tkW ta tk ++ pkW cI pa pk ++ vdW cI xa vd ++ tgW cI xa tg ++ ndW cI (nad nk) (ns nk) ++ n2W cI nad nk ns)) rfl 15 rfl rfl rfl hl.1 rfl (Nat.le_of_ble_eq_true rfl) dX4_reference_25 ⟨Nat.zero_le _, Nat.zero_le _⟩ (fun H locs hP hD hS => ?_)
        refine W.eq (g2 := F0 m 28 ls [.int (yB r5)]) rfl ?_
        refine lv_if_ne (tgt := 34) hx hb dX4_reference_28 (by decide) (fun h6 => ?_) (fun h6 => ?_)
        · have h6 := yB_1 h6
          have hf := yBt h6 hf
          refine lv_aload_n hx hb dX4_reference_34 rfl (lv_at hl 0 rfl) ?_
          refine va_get (D := D) (ci := 4) (v := .ref (xa 1)) (C := RX4) (T := TX4) (N := 6) hx hb hts (yy_tl inX4) hown hK hP 0 rfl rfl 1 (by decide) (hw _ wq_147) (fun _ h9 => h9) rfl dX4_reference_35 ?_
          refine lv_iload_n hx hb dX4_reference_38 rfl (lv_at hl 1 rfl) ?_
          refine yr_aldq hx hb hK hP 7 3 (j := nk) (b := nad nk 0) rfl rfl rfl (by omega) (by decide) (na_at (by omega)) dX4_reference_39 ?_
          refine lv_iload_n hx hb dX4_reference_40 rfl (lv_at hl 2 rfl) ?_
          obtain ⟨r7, er7⟩ : ∃ r, r = nd_valueOf rf (ns nk) := ⟨_, rfl⟩
          have hf := yb_e er7 hf
          refine yz_callV (As := [.int rf]) (rest := []) ⟨hx, hb, hml, hown, hts⟩ (c_nd_valueOf l D cI cJ cZ cN (nad nk) rf (ns nk)  r7 er7) ⟨callB_of 1 hts (yy_good wq_242) rfl rfl rfl (hw _ wq_36) (hw _ wq_239) (by decide +kernel) ⟨Nat.le_of_ble_eq_true rfl, Nat.le_of_ble_eq_true rfl⟩, hw _ wq_240, hw _ wq_241⟩ hK hN hP hD hS hA [15, 16, 17] rfl (by decide) rfl 18 rfl (w2 := (xcW xa sa ta pa ++ stW cI cJ sa so ++ naW cN xa nad ++ tkW ta tk ++ pkW cI pa pk ++ vdW cI xa vd ++ tgW cI xa tg ++ ndW cI (nad nk) (ns nk) ++ n2W cI nad nk ns)) rfl 15 rfl rfl rfl hl.1 rfl (Nat.le_of_ble_eq_true rfl) dX4_reference_41 ⟨Nat.zero_le _, Nat.zero_le _⟩ (fun H locs hP hD hS => ?_)
          refine W.eq (g2 := F0 m 44 ls [.int r7]) rfl ?_
          refine lv_istore_n (lv' := [(3, .int r7), (0, .ref (xa 0)), (1, .int (nI nk)), (2, .int rf)]) hx hb dX4_reference_44 rfl hl (by decide) rfl (fun ls hl => ?_)
          refine lv_iload_n hx hb dX4_reference_45 rfl (lv_at hl 0 rfl) ?_
          refine lv_iconst (v := (-1)) hx hb dX4_reference_46 (by decide) ?_
          refine lv_icmp_ne (tgt := 55) hx hb dX4_reference_47 (by decide) (fun h8 => ?_) (fun h8 => ?_)
          · have hf := yf h8 hf
            refine lv_iload_n hx hb dX4_reference_55 rfl (lv_at hl 0 rfl) ?_
            have hP := xW_of1_0 h_nk hP
            subst hf
            exact yy_iret hx hb hr hP hK hS hlocks dX4_reference_56
          · have hf := yt h8 hf
            refine lv_bipush (v := (-4)) hx hb dX4_reference_50 (by decide) ?_
            refine lv_goto (tgt := 56) hx hb dX4_reference_52 (by decide) ?_
            have hP := xW_of1_0 h_nk hP
            subst hf
            exact yy_iret (v := (-4)) hx hb hr hP hK hS hlocks dX4_reference_56
        · have h6 := yB_0.mp h6
          have hf := yBf h6 hf
          refine lv_bipush (v := (-2)) hx hb dX4_reference_31 (by decide) ?_
          have hP := xW_of1_0 h_nk hP
          subst hf
          exact yy_iret (v := (-2)) hx hb hr hP hK hS hlocks dX4_reference_33
      · have hf := yf h4 hf
        refine lv_iconst (v := (-1)) hx hb dX4_reference_17 (by decide) ?_
        subst hf
        exact yy_iret (v := (-1)) hx hb hr hP hK hS hlocks dX4_reference_18

set_option maxHeartbeats 4000000 in
set_option maxRecDepth 100000 in
theorem c_x_holds (l : Launch) (D : va_G) (cI cJ cZ cN : ClassId) (xa : Nat → Nat) (sa : Nat → Nat) (ta : Nat → Nat) (pa : Nat → Nat) (nad : Nat → Nat → Nat) (node : Int32) (num : Int32) (so : SS) (tk : TS) (pk : PS) (vd : (Nat → Int32)) (tg : (Nat → Int32)) (ns : (Nat → NS)) (hs : so.2.2.2.2.2 ≤ 60) (hp : pk.2.2.2.2.1 ≤ 60) (res : Int32) (hf : res = x_holds node num ns) : yy_Met l yX4_holds wsX4_holds { frames := 1, cells := 0, slots := 0, locals := 22 } D vwCl (yT cI cJ cZ cN) [.ref (xa 0), .int node, .int num] (xcW xa sa ta pa ++ stW cI cJ sa so ++ naW cN xa nad ++ tkW ta tk ++ pkW cI pa pk ++ vdW cI xa vd ++ tgW cI xa tg ++ n3W cI nad ns) (some (.int res)) (xcW xa sa ta pa ++ stW cI cJ sa so ++ naW cN xa nad ++ tkW ta tk ++ pkW cI pa pk ++ vdW cI xa vd ++ tgW cI xa tg ++ n3W cI nad ns) := by
  intro sz
  refine Met.ofW (cc := cX4_holds) (maxL := 3) (ret := (some .int)) (by decide) rfl ?_
  intro p e s m args below meth c s₁ B hml hv
  obtain ⟨rfl, hsz, hP, hK, hD0, hN⟩ := hv
  have hx := B.exec
  have hb := B.bytes
  have hr := B.returns
  have hts := atoms_spec (ws := wsX4_holds) B.pre
  have hw : ∀ w ∈ yW, w.before _ s = true := fun w h => hts w (List.mem_cons_of_mem _ h)
  have hown : s.vm.findClass RX4 = some m.cls := findClass_of_methodNamed B.named
  have hlocks := B.notSynchronized
  subst hsz
  have hD := hD0.self (sz := s.heap.size)
  generalize hAe : va_A (xcW xa sa ta pa ++ stW cI cJ sa so ++ naW cN xa nad ++ tkW ta tk ++ pkW cI pa pk ++ vdW cI xa vd ++ tgW cI xa tg ++ n3W cI nad ns) s.heap.size = A at hD ⊢
  have hA : ∀ q : Nat, s.heap.size ≤ q → A q := fun q h => by rw [← hAe]; exact Or.inr h
  have hS : va_S A s.heap s.heap [] := va_S.rf
  have hl := lv_entry ([.ref (xa 0), .int node, .int num]) (n := 3) (Nat.le_of_ble_eq_true rfl)
  rw [lg_entry_eq]
  generalize (lg_sl ([.ref (xa 0), .int node, .int num]) ++ List.replicate (3 - (lg_sl ([.ref (xa 0), .int node, .int num])).length) Slot.unset).toArray = ls at hl ⊢
  have hl : lv_has ls 3 [(0, .ref (xa 0)), (1, .int node), (2, .int num)] := hl
  rw [x_holds] at hf
  refine lv_iload_n hx hb dX4_holds_0 rfl (lv_at hl 1 rfl) ?_
  obtain ⟨r1, er1⟩ : ∃ r, r = px_isNode node := ⟨_, rfl⟩
  have hf := yb_e er1 hf
  refine yz_callS (As := [.int node]) (rest := []) ⟨hx, hb, hml, hown, hts⟩ (c_px_isNode l D cI cJ cZ cN node  r1 er1) ⟨callB_of 1 hts (yy_good wq_171) rfl rfl rfl (hw _ wq_34) (hw _ wq_169) (by decide +kernel) ⟨Nat.le_of_ble_eq_true rfl, Nat.le_of_ble_eq_true rfl⟩, hw _ wq_170⟩ hK hN hP hD hS hA [] rfl (by decide) rfl 0 rfl (w2 := (xcW xa sa ta pa ++ stW cI cJ sa so ++ naW cN xa nad ++ tkW ta tk ++ pkW cI pa pk ++ vdW cI xa vd ++ tgW cI xa tg ++ n3W cI nad ns)) rfl rfl hl.1 rfl (Nat.le_of_ble_eq_true rfl) dX4_holds_1 ⟨Nat.zero_le _, Nat.zero_le _⟩ (fun H locs hP hD hS => ?_)
  refine W.eq (g2 := F0 m 4 ls [.int (yB r1)]) rfl ?_
  refine lv_if_ne (tgt := 9) hx hb dX4_holds_4 (by decide) (fun h2 => ?_) (fun h2 => ?_)
  · have h2 := yB_1 h2
    have hf := yBt h2 hf
    obtain ⟨nk, hc_nk, h_nk, he_nk⟩ : ∃ k : Nat, node.toNatClampNeg = k ∧ k < 3 ∧ node = nI k := (px_isNode_nat ‹_ = px_isNode node› ‹_ = true›)
    have hf_nk := yn_e hc_nk hf
    subst he_nk
    have hf := hf_nk
    obtain ⟨hP, hD⟩ := xW_to1 h_nk hP hD
    have hP : va_P D vwCl (xcW xa sa ta pa ++ stW cI cJ sa so ++ naW cN xa nad ++ tkW ta tk ++ pkW cI pa pk ++ vdW cI xa vd ++ tgW cI xa tg ++ ndW cI (nad nk) (ns nk) ++ n2W cI nad nk ns) _ := hP
    have hD : va_D A (xcW xa sa ta pa ++ stW cI cJ sa so ++ naW cN xa nad ++ tkW ta tk ++ pkW cI pa pk ++ vdW cI xa vd ++ tgW cI xa tg ++ ndW cI (nad nk) (ns nk) ++ n2W cI nad nk ns) := hD
    refine lv_aload_n hx hb dX4_holds_9 rfl (lv_at hl 0 rfl) ?_
    refine va_get (D := D) (ci := 4) (v := .ref (xa 1)) (C := RX4) (T := TX4) (N := 6) hx hb hts (yy_tl inX4) hown hK hP 0 rfl rfl 1 (by decide) (hw _ wq_147) (fun _ h9 => h9) rfl dX4_holds_10 ?_
    refine lv_iload_n hx hb dX4_holds_13 rfl (lv_at hl 1 rfl) ?_
    refine yr_aldq hx hb hK hP 7 3 (j := nk) (b := nad nk 0) rfl rfl rfl (by omega) (by decide) (na_at (by omega)) dX4_holds_14 ?_
    obtain ⟨r3, er3⟩ : ∃ r, r = nd_isUp (ns nk) := ⟨_, rfl⟩
    have hf := yb_e er3 hf
    refine yz_callV (As := []) (rest := []) ⟨hx, hb, hml, hown, hts⟩ (c_nd_isUp l D cI cJ cZ cN (nad nk) (ns nk)  r3 er3) ⟨callB_of 0 hts (yy_good wq_175) rfl rfl rfl (hw _ wq_36) (hw _ wq_172) (by decide +kernel) ⟨Nat.le_of_ble_eq_true rfl, Nat.le_of_ble_eq_true rfl⟩, hw _ wq_173, hw _ wq_174⟩ hK hN hP hD hS hA [15, 16, 17] rfl (by decide) rfl 18 rfl (w2 := (xcW xa sa ta pa ++ stW cI cJ sa so ++ naW cN xa nad ++ tkW ta tk ++ pkW cI pa pk ++ vdW cI xa vd ++ tgW cI xa tg ++ ndW cI (nad nk) (ns nk) ++ n2W cI nad nk ns)) rfl 15 rfl rfl rfl hl.1 rfl (Nat.le_of_ble_eq_true rfl) dX4_holds_15 ⟨Nat.zero_le _, Nat.zero_le _⟩ (fun H locs hP hD hS => ?_)
    refine W.eq (g2 := F0 m 18 ls [.int (yB r3)]) rfl ?_
    refine lv_if_ne (tgt := 24) hx hb dX4_holds_18 (by decide) (fun h4 => ?_) (fun h4 => ?_)
    · have h4 := yB_1 h4
      have hf := yBt h4 hf
      refine lv_aload_n hx hb dX4_holds_24 rfl (lv_at hl 0 rfl) ?_
      refine va_get (D := D) (ci := 4) (v := .ref (xa 1)) (C := RX4) (T := TX4) (N := 6) hx hb hts (yy_tl inX4) hown hK hP 0 rfl rfl 1 (by decide) (hw _ wq_147) (fun _ h9 => h9) rfl dX4_holds_25 ?_
      refine lv_iload_n hx hb dX4_holds_28 rfl (lv_at hl 1 rfl) ?_
      refine yr_aldq hx hb hK hP 7 3 (j := nk) (b := nad nk 0) rfl rfl rfl (by omega) (by decide) (na_at (by omega)) dX4_holds_29 ?_
      obtain ⟨r5, er5⟩ : ∃ r, r = nd_heldSet (ns nk) := ⟨_, rfl⟩
      have hf := yb_e er5 hf
      refine yz_callV (As := []) (rest := []) ⟨hx, hb, hml, hown, hts⟩ (c_nd_heldSet l D cI cJ cZ cN (nad nk) (ns nk)  r5 er5) ⟨callB_of 0 hts (yy_good wq_191) rfl rfl rfl (hw _ wq_36) (hw _ wq_188) (by decide +kernel) ⟨Nat.le_of_ble_eq_true rfl, Nat.le_of_ble_eq_true rfl⟩, hw _ wq_189, hw _ wq_190⟩ hK hN hP hD hS hA [15, 16, 17] rfl (by decide) rfl 18 rfl (w2 := (xcW xa sa ta pa ++ stW cI cJ sa so ++ naW cN xa nad ++ tkW ta tk ++ pkW cI pa pk ++ vdW cI xa vd ++ tgW cI xa tg ++ ndW cI (nad nk) (ns nk) ++ n2W cI nad nk ns)) rfl 15 rfl rfl rfl hl.1 rfl (Nat.le_of_ble_eq_true rfl) dX4_holds_30 ⟨Nat.zero_le _, Nat.zero_le _⟩ (fun H locs hP hD hS => ?_)
      refine W.eq (g2 := F0 m 33 ls [.long r5]) rfl ?_
      refine lv_iload_n hx hb dX4_holds_33 rfl (lv_at hl 2 rfl) ?_
      obtain ⟨r6, er6⟩ : ∃ r, r = px_isIn r5 num := ⟨_, rfl⟩
      have hf := yb_e er6 hf
      refine yz_callS (As := [.long r5, .int num]) (rest := []) ⟨hx, hb, hml, hown, hts⟩ (c_px_isIn l D cI cJ cZ cN r5 num  r6 er6) ⟨callB_of 2 hts (yy_good wq_194) rfl rfl rfl (hw _ wq_34) (hw _ wq_192) (by decide +kernel) ⟨Nat.le_of_ble_eq_true rfl, Nat.le_of_ble_eq_true rfl⟩, hw _ wq_193⟩ hK hN hP hD hS hA [] rfl (by decide) rfl 0 rfl (w2 := (xcW xa sa ta pa ++ stW cI cJ sa so ++ naW cN xa nad ++ tkW ta tk ++ pkW cI pa pk ++ vdW cI xa vd ++ tgW cI xa tg ++ ndW cI (nad nk) (ns nk) ++ n2W cI nad nk ns)) rfl rfl hl.1 rfl (Nat.le_of_ble_eq_true rfl) dX4_holds_34 ⟨Nat.zero_le _, Nat.zero_le _⟩ (fun H locs hP hD hS => ?_)
      refine W.eq (g2 := F0 m 37 ls [.int (yB r6)]) rfl ?_
      refine lv_if_eq (tgt := 44) hx hb dX4_holds_37 (by decide) (fun h7 => ?_) (fun h7 => ?_)
      · have h7 := yB_0.mp h7
        have hf := yBf h7 hf
        refine lv_iconst (v := 0) hx hb dX4_holds_44 (by decide) ?_
        have hP := xW_of1_0 h_nk hP
        subst hf
        exact yy_iret (v := 0) hx hb hr hP hK hS hlocks dX4_holds_45
      · have h7 := yB_1 h7
        have hf := yBt h7 hf
        refine lv_iconst (v := 1) hx hb dX4_holds_40 (by decide) ?_
        refine lv_goto (tgt := 45) hx hb dX4_holds_41 (by decide) ?_
        have hP := xW_of1_0 h_nk hP
        subst hf
        exact yy_iret (v := 1) hx hb hr hP hK hS hlocks dX4_holds_45
    · have h4 := yB_0.mp h4
      have hf := yBf h4 hf
      refine lv_bipush (v := (-2)) hx hb dX4_holds_21 (by decide) ?_
      have hP := xW_of1_0 h_nk hP
      subst hf
      exact yy_iret (v := (-2)) hx hb hr hP hK hS hlocks dX4_holds_23
  · have h2 := yB_0.mp h2
    have hf := yBf h2 hf
    refine lv_iconst (v := (-1)) hx hb dX4_holds_7 (by decide) ?_
    subst hf
    exact yy_iret (v := (-1)) hx hb hr hP hK hS hlocks dX4_holds_8

set_option maxHeartbeats 4000000 in
set_option maxRecDepth 100000 in
theorem c_x_count (l : Launch) (D : va_G) (cI cJ cZ cN : ClassId) (xa : Nat → Nat) (sa : Nat → Nat) (ta : Nat → Nat) (pa : Nat → Nat) (nad : Nat → Nat → Nat) (node : Int32) (so : SS) (tk : TS) (pk : PS) (vd : (Nat → Int32)) (tg : (Nat → Int32)) (ns : (Nat → NS)) (hs : so.2.2.2.2.2 ≤ 60) (hp : pk.2.2.2.2.1 ≤ 60) (res : Int32) (hf : res = x_count node ns) : yy_Met l yX4_count wsX4_count { frames := 1, cells := 0, slots := 0, locals := 21 } D vwCl (yT cI cJ cZ cN) [.ref (xa 0), .int node] (xcW xa sa ta pa ++ stW cI cJ sa so ++ naW cN xa nad ++ tkW ta tk ++ pkW cI pa pk ++ vdW cI xa vd ++ tgW cI xa tg ++ n3W cI nad ns) (some (.int res)) (xcW xa sa ta pa ++ stW cI cJ sa so ++ naW cN xa nad ++ tkW ta tk ++ pkW cI pa pk ++ vdW cI xa vd ++ tgW cI xa tg ++ n3W cI nad ns) := by
  intro sz
  refine Met.ofW (cc := cX4_count) (maxL := 2) (ret := (some .int)) (by decide) rfl ?_
  intro p e s m args below meth c s₁ B hml hv
  obtain ⟨rfl, hsz, hP, hK, hD0, hN⟩ := hv
  have hx := B.exec
  have hb := B.bytes
  have hr := B.returns
  have hts := atoms_spec (ws := wsX4_count) B.pre
  have hw : ∀ w ∈ yW, w.before _ s = true := fun w h => hts w (List.mem_cons_of_mem _ h)
  have hown : s.vm.findClass RX4 = some m.cls := findClass_of_methodNamed B.named
  have hlocks := B.notSynchronized
  subst hsz
  have hD := hD0.self (sz := s.heap.size)
  generalize hAe : va_A (xcW xa sa ta pa ++ stW cI cJ sa so ++ naW cN xa nad ++ tkW ta tk ++ pkW cI pa pk ++ vdW cI xa vd ++ tgW cI xa tg ++ n3W cI nad ns) s.heap.size = A at hD ⊢
  have hA : ∀ q : Nat, s.heap.size ≤ q → A q := fun q h => by rw [← hAe]; exact Or.inr h
  have hS : va_S A s.heap s.heap [] := va_S.rf
  have hl := lv_entry ([.ref (xa 0), .int node]) (n := 2) (Nat.le_of_ble_eq_true rfl)
  rw [lg_entry_eq]
  generalize (lg_sl ([.ref (xa 0), .int node]) ++ List.replicate (2 - (lg_sl ([.ref (xa 0), .int node])).length) Slot.unset).toArray = ls at hl ⊢
  have hl : lv_has ls 2 [(0, .ref (xa 0)), (1, .int node)] := hl
  rw [x_count] at hf
  refine lv_iload_n hx hb dX4_count_0 rfl (lv_at hl 1 rfl) ?_
  obtain ⟨r1, er1⟩ : ∃ r, r = px_isNode node := ⟨_, rfl⟩
  have hf := yb_e er1 hf
  refine yz_callS (As := [.int node]) (rest := []) ⟨hx, hb, hml, hown, hts⟩ (c_px_isNode l D cI cJ cZ cN node  r1 er1) ⟨callB_of 1 hts (yy_good wq_171) rfl rfl rfl (hw _ wq_34) (hw _ wq_169) (by decide +kernel) ⟨Nat.le_of_ble_eq_true rfl, Nat.le_of_ble_eq_true rfl⟩, hw _ wq_170⟩ hK hN hP hD hS hA [] rfl (by decide) rfl 0 rfl (w2 := (xcW xa sa ta pa ++ stW cI cJ sa so ++ naW cN xa nad ++ tkW ta tk ++ pkW cI pa pk ++ vdW cI xa vd ++ tgW cI xa tg ++ n3W cI nad ns)) rfl rfl hl.1 rfl (Nat.le_of_ble_eq_true rfl) dX4_count_1 ⟨Nat.zero_le _, Nat.zero_le _⟩ (fun H locs hP hD hS => ?_)
  refine W.eq (g2 := F0 m 4 ls [.int (yB r1)]) rfl ?_
  refine lv_if_ne (tgt := 9) hx hb dX4_count_4 (by decide) (fun h2 => ?_) (fun h2 => ?_)
  · have h2 := yB_1 h2
    have hf := yBt h2 hf
    obtain ⟨nk, hc_nk, h_nk, he_nk⟩ : ∃ k : Nat, node.toNatClampNeg = k ∧ k < 3 ∧ node = nI k := (px_isNode_nat ‹_ = px_isNode node› ‹_ = true›)
    have hf_nk := yn_e hc_nk hf
    subst he_nk
    have hf := hf_nk
    obtain ⟨hP, hD⟩ := xW_to1 h_nk hP hD
    have hP : va_P D vwCl (xcW xa sa ta pa ++ stW cI cJ sa so ++ naW cN xa nad ++ tkW ta tk ++ pkW cI pa pk ++ vdW cI xa vd ++ tgW cI xa tg ++ ndW cI (nad nk) (ns nk) ++ n2W cI nad nk ns) _ := hP
    have hD : va_D A (xcW xa sa ta pa ++ stW cI cJ sa so ++ naW cN xa nad ++ tkW ta tk ++ pkW cI pa pk ++ vdW cI xa vd ++ tgW cI xa tg ++ ndW cI (nad nk) (ns nk) ++ n2W cI nad nk ns) := hD
    refine lv_aload_n hx hb dX4_count_9 rfl (lv_at hl 0 rfl) ?_
    refine va_get (D := D) (ci := 4) (v := .ref (xa 1)) (C := RX4) (T := TX4) (N := 6) hx hb hts (yy_tl inX4) hown hK hP 0 rfl rfl 1 (by decide) (hw _ wq_147) (fun _ h9 => h9) rfl dX4_count_10 ?_
    refine lv_iload_n hx hb dX4_count_13 rfl (lv_at hl 1 rfl) ?_
    refine yr_aldq hx hb hK hP 7 3 (j := nk) (b := nad nk 0) rfl rfl rfl (by omega) (by decide) (na_at (by omega)) dX4_count_14 ?_
    obtain ⟨r3, er3⟩ : ∃ r, r = nd_isUp (ns nk) := ⟨_, rfl⟩
    have hf := yb_e er3 hf
    refine yz_callV (As := []) (rest := []) ⟨hx, hb, hml, hown, hts⟩ (c_nd_isUp l D cI cJ cZ cN (nad nk) (ns nk)  r3 er3) ⟨callB_of 0 hts (yy_good wq_175) rfl rfl rfl (hw _ wq_36) (hw _ wq_172) (by decide +kernel) ⟨Nat.le_of_ble_eq_true rfl, Nat.le_of_ble_eq_true rfl⟩, hw _ wq_173, hw _ wq_174⟩ hK hN hP hD hS hA [15, 16, 17] rfl (by decide) rfl 18 rfl (w2 := (xcW xa sa ta pa ++ stW cI cJ sa so ++ naW cN xa nad ++ tkW ta tk ++ pkW cI pa pk ++ vdW cI xa vd ++ tgW cI xa tg ++ ndW cI (nad nk) (ns nk) ++ n2W cI nad nk ns)) rfl 15 rfl rfl rfl hl.1 rfl (Nat.le_of_ble_eq_true rfl) dX4_count_15 ⟨Nat.zero_le _, Nat.zero_le _⟩ (fun H locs hP hD hS => ?_)
    refine W.eq (g2 := F0 m 18 ls [.int (yB r3)]) rfl ?_
    refine lv_if_ne (tgt := 24) hx hb dX4_count_18 (by decide) (fun h4 => ?_) (fun h4 => ?_)
    · have h4 := yB_1 h4
      have hf := yBt h4 hf
      refine lv_aload_n hx hb dX4_count_24 rfl (lv_at hl 0 rfl) ?_
      refine va_get (D := D) (ci := 4) (v := .ref (xa 1)) (C := RX4) (T := TX4) (N := 6) hx hb hts (yy_tl inX4) hown hK hP 0 rfl rfl 1 (by decide) (hw _ wq_147) (fun _ h9 => h9) rfl dX4_count_25 ?_
      refine lv_iload_n hx hb dX4_count_28 rfl (lv_at hl 1 rfl) ?_
      refine yr_aldq hx hb hK hP 7 3 (j := nk) (b := nad nk 0) rfl rfl rfl (by omega) (by decide) (na_at (by omega)) dX4_count_29 ?_
      obtain ⟨r5, er5⟩ : ∃ r, r = nd_heldSet (ns nk) := ⟨_, rfl⟩
      have hf := yb_e er5 hf
      refine yz_callV (As := []) (rest := []) ⟨hx, hb, hml, hown, hts⟩ (c_nd_heldSet l D cI cJ cZ cN (nad nk) (ns nk)  r5 er5) ⟨callB_of 0 hts (yy_good wq_191) rfl rfl rfl (hw _ wq_36) (hw _ wq_188) (by decide +kernel) ⟨Nat.le_of_ble_eq_true rfl, Nat.le_of_ble_eq_true rfl⟩, hw _ wq_189, hw _ wq_190⟩ hK hN hP hD hS hA [15, 16, 17] rfl (by decide) rfl 18 rfl (w2 := (xcW xa sa ta pa ++ stW cI cJ sa so ++ naW cN xa nad ++ tkW ta tk ++ pkW cI pa pk ++ vdW cI xa vd ++ tgW cI xa tg ++ ndW cI (nad nk) (ns nk) ++ n2W cI nad nk ns)) rfl 15 rfl rfl rfl hl.1 rfl (Nat.le_of_ble_eq_true rfl) dX4_count_30 ⟨Nat.zero_le _, Nat.zero_le _⟩ (fun H locs hP hD hS => ?_)
      refine W.eq (g2 := F0 m 33 ls [.long r5]) rfl ?_
      obtain ⟨r6, er6⟩ : ∃ r, r = jl_bitCount r5 := ⟨_, rfl⟩
      have hf := yb_e er6 hf
      refine yz_callS (As := [.long r5]) (rest := []) ⟨hx, hb, hml, hown, hts⟩ (c_jl_bitCount l D cI cJ cZ cN r5  r6 er6) ⟨callB_of 1 hts (yy_good wq_313) rfl rfl rfl (hw _ wq_40) (hw _ wq_426) (by decide +kernel) ⟨Nat.le_of_ble_eq_true rfl, Nat.le_of_ble_eq_true rfl⟩, hw _ wq_312⟩ hK hN hP hD hS hA [] rfl (by decide) rfl 0 rfl (w2 := (xcW xa sa ta pa ++ stW cI cJ sa so ++ naW cN xa nad ++ tkW ta tk ++ pkW cI pa pk ++ vdW cI xa vd ++ tgW cI xa tg ++ ndW cI (nad nk) (ns nk) ++ n2W cI nad nk ns)) rfl rfl hl.1 rfl (Nat.le_of_ble_eq_true rfl) dX4_count_33 ⟨Nat.zero_le _, Nat.zero_le _⟩ (fun H locs hP hD hS => ?_)
      refine W.eq (g2 := F0 m 36 ls [.int r6]) rfl ?_
      have hP := xW_of1_0 h_nk hP
      subst hf
      exact yy_iret hx hb hr hP hK hS hlocks dX4_count_36
    · have h4 := yB_0.mp h4
      have hf := yBf h4 hf
      refine lv_bipush (v := (-2)) hx hb dX4_count_21 (by decide) ?_
      have hP := xW_of1_0 h_nk hP
      subst hf
      exact yy_iret (v := (-2)) hx hb hr hP hK hS hlocks dX4_count_23
  · have h2 := yB_0.mp h2
    have hf := yBf h2 hf
    refine lv_iconst (v := (-1)) hx hb dX4_count_7 (by decide) ?_
    subst hf
    exact yy_iret (v := (-1)) hx hb hr hP hK hS hlocks dX4_count_8

set_option maxHeartbeats 4000000 in
set_option maxRecDepth 100000 in
theorem c_x_talk (l : Launch) (D : va_G) (cI cJ cZ cN : ClassId) (xa : Nat → Nat) (sa : Nat → Nat) (ta : Nat → Nat) (pa : Nat → Nat) (nad : Nat → Nat → Nat) (w : Int32) (so : SS) (tk : TS) (pk : PS) (vd : (Nat → Int32)) (tg : (Nat → Int32)) (ns : (Nat → NS)) (hs : so.2.2.2.2.2 ≤ 60) (hp : pk.2.2.2.2.1 ≤ 60) (res : Int32) (hf : res = x_talk w tk) : yy_Met l yX4_talk wsX4_talk { frames := 1, cells := 0, slots := 0, locals := 20 } D vwCl (yT cI cJ cZ cN) [.ref (xa 0), .int w] (xcW xa sa ta pa ++ stW cI cJ sa so ++ naW cN xa nad ++ tkW ta tk ++ pkW cI pa pk ++ vdW cI xa vd ++ tgW cI xa tg ++ n3W cI nad ns) (some (.int res)) (xcW xa sa ta pa ++ stW cI cJ sa so ++ naW cN xa nad ++ tkW ta tk ++ pkW cI pa pk ++ vdW cI xa vd ++ tgW cI xa tg ++ n3W cI nad ns) := by
  intro sz
  refine Met.ofW (cc := cX4_talk) (maxL := 2) (ret := (some .int)) (by decide) rfl ?_
  intro p e s m args below meth c s₁ B hml hv
  obtain ⟨rfl, hsz, hP, hK, hD0, hN⟩ := hv
  have hx := B.exec
  have hb := B.bytes
  have hr := B.returns
  have hts := atoms_spec (ws := wsX4_talk) B.pre
  have hw : ∀ w ∈ yW, w.before _ s = true := fun w h => hts w (List.mem_cons_of_mem _ h)
  have hown : s.vm.findClass RX4 = some m.cls := findClass_of_methodNamed B.named
  have hlocks := B.notSynchronized
  subst hsz
  have hD := hD0.self (sz := s.heap.size)
  generalize hAe : va_A (xcW xa sa ta pa ++ stW cI cJ sa so ++ naW cN xa nad ++ tkW ta tk ++ pkW cI pa pk ++ vdW cI xa vd ++ tgW cI xa tg ++ n3W cI nad ns) s.heap.size = A at hD ⊢
  have hA : ∀ q : Nat, s.heap.size ≤ q → A q := fun q h => by rw [← hAe]; exact Or.inr h
  have hS : va_S A s.heap s.heap [] := va_S.rf
  have hl := lv_entry ([.ref (xa 0), .int w]) (n := 2) (Nat.le_of_ble_eq_true rfl)
  rw [lg_entry_eq]
  generalize (lg_sl ([.ref (xa 0), .int w]) ++ List.replicate (2 - (lg_sl ([.ref (xa 0), .int w])).length) Slot.unset).toArray = ls at hl ⊢
  have hl : lv_has ls 2 [(0, .ref (xa 0)), (1, .int w)] := hl
  rw [x_talk] at hf
  refine lv_iload_n hx hb dX4_talk_0 rfl (lv_at hl 1 rfl) ?_
  by_cases h1 : w = 0
  · have hf := yt h1 hf
    refine lv_tableIn (off := 27) (tgt := 28) hx hb dX4_talk_1 (by rw [h1]; decide) (by rw [h1]; decide) (by rw [h1]; rfl) (by decide) ?_
    refine lv_aload_n hx hb dX4_talk_28 rfl (lv_at hl 0 rfl) ?_
    refine va_get (D := D) (ci := 4) (v := .ref (ta 0)) (C := RX4) (T := TX4) (N := 6) hx hb hts (yy_tl inX4) hown hK hP 0 rfl rfl 2 (by decide) (hw _ wq_148) (fun _ h9 => h9) rfl dX4_talk_29 ?_
    obtain ⟨r2, er2⟩ : ∃ r, r = tk_havesSent tk := ⟨_, rfl⟩
    have hf := yb_e er2 hf
    refine yz_callV (As := []) (rest := []) ⟨hx, hb, hml, hown, hts⟩ (c_tk_havesSent l D cI cJ cZ cN ta tk  r2 er2) ⟨callB_of 0 hts (yy_good wq_434) rfl rfl rfl (hw _ wq_37) (hw _ wq_431) (by decide +kernel) ⟨Nat.le_of_ble_eq_true rfl, Nat.le_of_ble_eq_true rfl⟩, hw _ wq_432, hw _ wq_433⟩ hK hN hP hD hS hA [8] rfl (by decide) rfl 9 rfl (w2 := (xcW xa sa ta pa ++ stW cI cJ sa so ++ naW cN xa nad ++ tkW ta tk ++ pkW cI pa pk ++ vdW cI xa vd ++ tgW cI xa tg ++ n3W cI nad ns)) rfl 8 rfl rfl rfl hl.1 rfl (Nat.le_of_ble_eq_true rfl) dX4_talk_32 ⟨Nat.zero_le _, Nat.zero_le _⟩ (fun H locs hP hD hS => ?_)
    refine W.eq (g2 := F0 m 35 ls [.int r2]) rfl ?_
    subst hf
    exact yy_iret hx hb hr hP hK hS hlocks dX4_talk_35
  have hf := yf h1 hf
  by_cases h3 : w = 1
  · have hf := yt h3 hf
    refine lv_tableIn (off := 35) (tgt := 36) hx hb dX4_talk_1 (by rw [h3]; decide) (by rw [h3]; decide) (by rw [h3]; rfl) (by decide) ?_
    refine lv_aload_n hx hb dX4_talk_36 rfl (lv_at hl 0 rfl) ?_
    refine va_get (D := D) (ci := 4) (v := .ref (ta 0)) (C := RX4) (T := TX4) (N := 6) hx hb hts (yy_tl inX4) hown hK hP 0 rfl rfl 2 (by decide) (hw _ wq_148) (fun _ h9 => h9) rfl dX4_talk_37 ?_
    obtain ⟨r4, er4⟩ : ∃ r, r = tk_havesAcknowledged tk := ⟨_, rfl⟩
    have hf := yb_e er4 hf
    refine yz_callV (As := []) (rest := []) ⟨hx, hb, hml, hown, hts⟩ (c_tk_havesAcknowledged l D cI cJ cZ cN ta tk  r4 er4) ⟨callB_of 0 hts (yy_good wq_438) rfl rfl rfl (hw _ wq_37) (hw _ wq_435) (by decide +kernel) ⟨Nat.le_of_ble_eq_true rfl, Nat.le_of_ble_eq_true rfl⟩, hw _ wq_436, hw _ wq_437⟩ hK hN hP hD hS hA [8] rfl (by decide) rfl 9 rfl (w2 := (xcW xa sa ta pa ++ stW cI cJ sa so ++ naW cN xa nad ++ tkW ta tk ++ pkW cI pa pk ++ vdW cI xa vd ++ tgW cI xa tg ++ n3W cI nad ns)) rfl 8 rfl rfl rfl hl.1 rfl (Nat.le_of_ble_eq_true rfl) dX4_talk_40 ⟨Nat.zero_le _, Nat.zero_le _⟩ (fun H locs hP hD hS => ?_)
    refine W.eq (g2 := F0 m 43 ls [.int r4]) rfl ?_
    subst hf
    exact yy_iret hx hb hr hP hK hS hlocks dX4_talk_43
  have hf := yf h3 hf
  by_cases h5 : w = 2
  · have hf := yt h5 hf
    refine lv_tableIn (off := 43) (tgt := 44) hx hb dX4_talk_1 (by rw [h5]; decide) (by rw [h5]; decide) (by rw [h5]; rfl) (by decide) ?_
    refine lv_aload_n hx hb dX4_talk_44 rfl (lv_at hl 0 rfl) ?_
    refine va_get (D := D) (ci := 4) (v := .ref (ta 0)) (C := RX4) (T := TX4) (N := 6) hx hb hts (yy_tl inX4) hown hK hP 0 rfl rfl 2 (by decide) (hw _ wq_148) (fun _ h9 => h9) rfl dX4_talk_45 ?_
    obtain ⟨r6, er6⟩ : ∃ r, r = tk_roundsHeld tk := ⟨_, rfl⟩
    have hf := yb_e er6 hf
    refine yz_callV (As := []) (rest := []) ⟨hx, hb, hml, hown, hts⟩ (c_tk_roundsHeld l D cI cJ cZ cN ta tk  r6 er6) ⟨callB_of 0 hts (yy_good wq_442) rfl rfl rfl (hw _ wq_37) (hw _ wq_439) (by decide +kernel) ⟨Nat.le_of_ble_eq_true rfl, Nat.le_of_ble_eq_true rfl⟩, hw _ wq_440, hw _ wq_441⟩ hK hN hP hD hS hA [8] rfl (by decide) rfl 9 rfl (w2 := (xcW xa sa ta pa ++ stW cI cJ sa so ++ naW cN xa nad ++ tkW ta tk ++ pkW cI pa pk ++ vdW cI xa vd ++ tgW cI xa tg ++ n3W cI nad ns)) rfl 8 rfl rfl rfl hl.1 rfl (Nat.le_of_ble_eq_true rfl) dX4_talk_48 ⟨Nat.zero_le _, Nat.zero_le _⟩ (fun H locs hP hD hS => ?_)
    refine W.eq (g2 := F0 m 51 ls [.int r6]) rfl ?_
    subst hf
    exact yy_iret hx hb hr hP hK hS hlocks dX4_talk_51
  have hf := yf h5 hf
  refine lv_tableOut (tgt := 52) hx hb dX4_talk_1 (yy_sw3 h1 h3 h5) (by decide) ?_
  refine lv_iconst (v := (-1)) hx hb dX4_talk_52 (by decide) ?_
  subst hf
  exact yy_iret (v := (-1)) hx hb hr hP hK hS hlocks dX4_talk_53

set_option maxHeartbeats 4000000 in
set_option maxRecDepth 100000 in
theorem c_x_packed (l : Launch) (D : va_G) (cI cJ cZ cN : ClassId) (xa : Nat → Nat) (sa : Nat → Nat) (ta : Nat → Nat) (pa : Nat → Nat) (nad : Nat → Nat → Nat) (so : SS) (tk : TS) (pk : PS) (vd : (Nat → Int32)) (tg : (Nat → Int32)) (ns : (Nat → NS)) (hs : so.2.2.2.2.2 ≤ 60) (hp : pk.2.2.2.2.1 ≤ 60) (res : Nat) (hf : res = x_packed pk) : yy_Met l yX4_packed wsX4_packed { frames := 1, cells := 0, slots := 0, locals := 20 } D vwCl (yT cI cJ cZ cN) [.ref (xa 0)] (xcW xa sa ta pa ++ stW cI cJ sa so ++ naW cN xa nad ++ tkW ta tk ++ pkW cI pa pk ++ vdW cI xa vd ++ tgW cI xa tg ++ n3W cI nad ns) (some (.int (nI res))) (xcW xa sa ta pa ++ stW cI cJ sa so ++ naW cN xa nad ++ tkW ta tk ++ pkW cI pa pk ++ vdW cI xa vd ++ tgW cI xa tg ++ n3W cI nad ns) := by
  intro sz
  refine Met.ofW (cc := cX4_packed) (maxL := 1) (ret := (some .int)) (by decide) rfl ?_
  intro p e s m args below meth c s₁ B hml hv
  obtain ⟨rfl, hsz, hP, hK, hD0, hN⟩ := hv
  have hx := B.exec
  have hb := B.bytes
  have hr := B.returns
  have hts := atoms_spec (ws := wsX4_packed) B.pre
  have hw : ∀ w ∈ yW, w.before _ s = true := fun w h => hts w (List.mem_cons_of_mem _ h)
  have hown : s.vm.findClass RX4 = some m.cls := findClass_of_methodNamed B.named
  have hlocks := B.notSynchronized
  subst hsz
  have hD := hD0.self (sz := s.heap.size)
  generalize hAe : va_A (xcW xa sa ta pa ++ stW cI cJ sa so ++ naW cN xa nad ++ tkW ta tk ++ pkW cI pa pk ++ vdW cI xa vd ++ tgW cI xa tg ++ n3W cI nad ns) s.heap.size = A at hD ⊢
  have hA : ∀ q : Nat, s.heap.size ≤ q → A q := fun q h => by rw [← hAe]; exact Or.inr h
  have hS : va_S A s.heap s.heap [] := va_S.rf
  have hl := lv_entry ([.ref (xa 0)]) (n := 1) (Nat.le_of_ble_eq_true rfl)
  rw [lg_entry_eq]
  generalize (lg_sl ([.ref (xa 0)]) ++ List.replicate (1 - (lg_sl ([.ref (xa 0)])).length) Slot.unset).toArray = ls at hl ⊢
  have hl : lv_has ls 1 [(0, .ref (xa 0))] := hl
  rw [x_packed] at hf
  refine lv_aload_n hx hb dX4_packed_0 rfl (lv_at hl 0 rfl) ?_
  refine va_get (D := D) (ci := 4) (v := .ref (pa 0)) (C := RX4) (T := TX4) (N := 6) hx hb hts (yy_tl inX4) hown hK hP 0 rfl rfl 3 (by decide) (hw _ wq_149) (fun _ h9 => h9) rfl dX4_packed_1 ?_
  obtain ⟨r1, er1⟩ : ∃ r, r = pk_length pk := ⟨_, rfl⟩
  have hf := yb_e er1 hf
  refine yz_callV (As := []) (rest := []) ⟨hx, hb, hml, hown, hts⟩ (c_pk_length l D cI cJ cZ cN pa pk  r1 er1) ⟨callB_of 0 hts (yy_good wq_363) rfl rfl rfl (hw _ wq_38) (hw _ wq_360) (by decide +kernel) ⟨Nat.le_of_ble_eq_true rfl, Nat.le_of_ble_eq_true rfl⟩, hw _ wq_361, hw _ wq_362⟩ hK hN hP hD hS hA [9, 10, 11, 12] rfl (by decide) rfl 13 rfl (w2 := (xcW xa sa ta pa ++ stW cI cJ sa so ++ naW cN xa nad ++ tkW ta tk ++ pkW cI pa pk ++ vdW cI xa vd ++ tgW cI xa tg ++ n3W cI nad ns)) rfl 9 rfl rfl rfl hl.1 rfl (Nat.le_of_ble_eq_true rfl) dX4_packed_4 ⟨Nat.zero_le _, Nat.zero_le _⟩ (fun H locs hP hD hS => ?_)
  refine W.eq (g2 := F0 m 7 ls [.int (nI r1)]) rfl ?_
  subst hf
  exact yy_iret hx hb hr hP hK hS hlocks dX4_packed_7

set_option maxHeartbeats 4000000 in
set_option maxRecDepth 100000 in
theorem c_x_packAt (l : Launch) (D : va_G) (cI cJ cZ cN : ClassId) (xa : Nat → Nat) (sa : Nat → Nat) (ta : Nat → Nat) (pa : Nat → Nat) (nad : Nat → Nat → Nat) (pl : Int32) (so : SS) (tk : TS) (pk : PS) (vd : (Nat → Int32)) (tg : (Nat → Int32)) (ns : (Nat → NS)) (hs : so.2.2.2.2.2 ≤ 60) (hp : pk.2.2.2.2.1 ≤ 60) (res : Int32) (hf : res = x_packAt pl pk) : yy_Met l yX4_packAt wsX4_packAt { frames := 2, cells := 0, slots := 0, locals := 42 } D vwCl (yT cI cJ cZ cN) [.ref (xa 0), .int pl] (xcW xa sa ta pa ++ stW cI cJ sa so ++ naW cN xa nad ++ tkW ta tk ++ pkW cI pa pk ++ vdW cI xa vd ++ tgW cI xa tg ++ n3W cI nad ns) (some (.int res)) (xcW xa sa ta pa ++ stW cI cJ sa so ++ naW cN xa nad ++ tkW ta tk ++ pkW cI pa pk ++ vdW cI xa vd ++ tgW cI xa tg ++ n3W cI nad ns) := by
  intro sz
  refine Met.ofW (cc := cX4_packAt) (maxL := 2) (ret := (some .int)) (by decide) rfl ?_
  intro p e s m args below meth c s₁ B hml hv
  obtain ⟨rfl, hsz, hP, hK, hD0, hN⟩ := hv
  have hx := B.exec
  have hb := B.bytes
  have hr := B.returns
  have hts := atoms_spec (ws := wsX4_packAt) B.pre
  have hw : ∀ w ∈ yW, w.before _ s = true := fun w h => hts w (List.mem_cons_of_mem _ h)
  have hown : s.vm.findClass RX4 = some m.cls := findClass_of_methodNamed B.named
  have hlocks := B.notSynchronized
  subst hsz
  have hD := hD0.self (sz := s.heap.size)
  generalize hAe : va_A (xcW xa sa ta pa ++ stW cI cJ sa so ++ naW cN xa nad ++ tkW ta tk ++ pkW cI pa pk ++ vdW cI xa vd ++ tgW cI xa tg ++ n3W cI nad ns) s.heap.size = A at hD ⊢
  have hA : ∀ q : Nat, s.heap.size ≤ q → A q := fun q h => by rw [← hAe]; exact Or.inr h
  have hS : va_S A s.heap s.heap [] := va_S.rf
  have hl := lv_entry ([.ref (xa 0), .int pl]) (n := 2) (Nat.le_of_ble_eq_true rfl)
  rw [lg_entry_eq]
  generalize (lg_sl ([.ref (xa 0), .int pl]) ++ List.replicate (2 - (lg_sl ([.ref (xa 0), .int pl])).length) Slot.unset).toArray = ls at hl ⊢
  have hl : lv_has ls 2 [(0, .ref (xa 0)), (1, .int pl)] := hl
  rw [x_packAt] at hf
  refine lv_aload_n hx hb dX4_packAt_0 rfl (lv_at hl 0 rfl) ?_
  refine va_get (D := D) (ci := 4) (v := .ref (pa 0)) (C := RX4) (T := TX4) (N := 6) hx hb hts (yy_tl inX4) hown hK hP 0 rfl rfl 3 (by decide) (hw _ wq_149) (fun _ h9 => h9) rfl dX4_packAt_1 ?_
  refine lv_iload_n hx hb dX4_packAt_4 rfl (lv_at hl 1 rfl) ?_
  obtain ⟨r1, er1⟩ : ∃ r, r = pk_objectAt pl pk := ⟨_, rfl⟩
  have hf := yb_e er1 hf
  refine yz_callV (As := [.int pl]) (rest := []) ⟨hx, hb, hml, hown, hts⟩ (c_pk_objectAt l D cI cJ cZ cN pa pl pk (by (try dsimp only) <;> omega) r1 er1) ⟨callB_of 1 hts (yy_good wq_454) rfl rfl rfl (hw _ wq_38) (hw _ wq_451) (by decide +kernel) ⟨Nat.le_of_ble_eq_true rfl, Nat.le_of_ble_eq_true rfl⟩, hw _ wq_452, hw _ wq_453⟩ hK hN hP hD hS hA [9, 10, 11, 12] rfl (by decide) rfl 13 rfl (w2 := (xcW xa sa ta pa ++ stW cI cJ sa so ++ naW cN xa nad ++ tkW ta tk ++ pkW cI pa pk ++ vdW cI xa vd ++ tgW cI xa tg ++ n3W cI nad ns)) rfl 9 rfl rfl rfl hl.1 rfl (Nat.le_of_ble_eq_true rfl) dX4_packAt_5 ⟨Nat.zero_le _, Nat.zero_le _⟩ (fun H locs hP hD hS => ?_)
  refine W.eq (g2 := F0 m 8 ls [.int r1]) rfl ?_
  subst hf
  exact yy_iret hx hb hr hP hK hS hlocks dX4_packAt_8

set_option maxHeartbeats 4000000 in
set_option maxRecDepth 100000 in
theorem c_x_base (l : Launch) (D : va_G) (cI cJ cZ cN : ClassId) (xa : Nat → Nat) (sa : Nat → Nat) (ta : Nat → Nat) (pa : Nat → Nat) (nad : Nat → Nat → Nat) (pl : Int32) (so : SS) (tk : TS) (pk : PS) (vd : (Nat → Int32)) (tg : (Nat → Int32)) (ns : (Nat → NS)) (hs : so.2.2.2.2.2 ≤ 60) (hp : pk.2.2.2.2.1 ≤ 60) (res : Int32) (hf : res = x_base pl pk) : yy_Met l yX4_base wsX4_base { frames := 2, cells := 0, slots := 0, locals := 42 } D vwCl (yT cI cJ cZ cN) [.ref (xa 0), .int pl] (xcW xa sa ta pa ++ stW cI cJ sa so ++ naW cN xa nad ++ tkW ta tk ++ pkW cI pa pk ++ vdW cI xa vd ++ tgW cI xa tg ++ n3W cI nad ns) (some (.int res)) (xcW xa sa ta pa ++ stW cI cJ sa so ++ naW cN xa nad ++ tkW ta tk ++ pkW cI pa pk ++ vdW cI xa vd ++ tgW cI xa tg ++ n3W cI nad ns) := by
  intro sz
  refine Met.ofW (cc := cX4_base) (maxL := 2) (ret := (some .int)) (by decide) rfl ?_
  intro p e s m args below meth c s₁ B hml hv
  obtain ⟨rfl, hsz, hP, hK, hD0, hN⟩ := hv
  have hx := B.exec
  have hb := B.bytes
  have hr := B.returns
  have hts := atoms_spec (ws := wsX4_base) B.pre
  have hw : ∀ w ∈ yW, w.before _ s = true := fun w h => hts w (List.mem_cons_of_mem _ h)
  have hown : s.vm.findClass RX4 = some m.cls := findClass_of_methodNamed B.named
  have hlocks := B.notSynchronized
  subst hsz
  have hD := hD0.self (sz := s.heap.size)
  generalize hAe : va_A (xcW xa sa ta pa ++ stW cI cJ sa so ++ naW cN xa nad ++ tkW ta tk ++ pkW cI pa pk ++ vdW cI xa vd ++ tgW cI xa tg ++ n3W cI nad ns) s.heap.size = A at hD ⊢
  have hA : ∀ q : Nat, s.heap.size ≤ q → A q := fun q h => by rw [← hAe]; exact Or.inr h
  have hS : va_S A s.heap s.heap [] := va_S.rf
  have hl := lv_entry ([.ref (xa 0), .int pl]) (n := 2) (Nat.le_of_ble_eq_true rfl)
  rw [lg_entry_eq]
  generalize (lg_sl ([.ref (xa 0), .int pl]) ++ List.replicate (2 - (lg_sl ([.ref (xa 0), .int pl])).length) Slot.unset).toArray = ls at hl ⊢
  have hl : lv_has ls 2 [(0, .ref (xa 0)), (1, .int pl)] := hl
  rw [x_base] at hf
  refine lv_aload_n hx hb dX4_base_0 rfl (lv_at hl 0 rfl) ?_
  refine va_get (D := D) (ci := 4) (v := .ref (pa 0)) (C := RX4) (T := TX4) (N := 6) hx hb hts (yy_tl inX4) hown hK hP 0 rfl rfl 3 (by decide) (hw _ wq_149) (fun _ h9 => h9) rfl dX4_base_1 ?_
  refine lv_iload_n hx hb dX4_base_4 rfl (lv_at hl 1 rfl) ?_
  obtain ⟨r1, er1⟩ : ∃ r, r = pk_baseAt pl pk := ⟨_, rfl⟩
  have hf := yb_e er1 hf
  refine yz_callV (As := [.int pl]) (rest := []) ⟨hx, hb, hml, hown, hts⟩ (c_pk_baseAt l D cI cJ cZ cN pa pl pk (by (try dsimp only) <;> omega) r1 er1) ⟨callB_of 1 hts (yy_good wq_466) rfl rfl rfl (hw _ wq_38) (hw _ wq_463) (by decide +kernel) ⟨Nat.le_of_ble_eq_true rfl, Nat.le_of_ble_eq_true rfl⟩, hw _ wq_464, hw _ wq_465⟩ hK hN hP hD hS hA [9, 10, 11, 12] rfl (by decide) rfl 13 rfl (w2 := (xcW xa sa ta pa ++ stW cI cJ sa so ++ naW cN xa nad ++ tkW ta tk ++ pkW cI pa pk ++ vdW cI xa vd ++ tgW cI xa tg ++ n3W cI nad ns)) rfl 9 rfl rfl rfl hl.1 rfl (Nat.le_of_ble_eq_true rfl) dX4_base_5 ⟨Nat.zero_le _, Nat.zero_le _⟩ (fun H locs hP hD hS => ?_)
  refine W.eq (g2 := F0 m 8 ls [.int r1]) rfl ?_
  subst hf
  exact yy_iret hx hb hr hP hK hS hlocks dX4_base_8

set_option maxHeartbeats 4000000 in
set_option maxRecDepth 100000 in
theorem c_x_weight (l : Launch) (D : va_G) (cI cJ cZ cN : ClassId) (xa : Nat → Nat) (sa : Nat → Nat) (ta : Nat → Nat) (pa : Nat → Nat) (nad : Nat → Nat → Nat) (so : SS) (tk : TS) (pk : PS) (vd : (Nat → Int32)) (tg : (Nat → Int32)) (ns : (Nat → NS)) (hs : so.2.2.2.2.2 ≤ 60) (hp : pk.2.2.2.2.1 ≤ 60) (res : Int32) (hf : res = x_weight pk) : yy_Met l yX4_weight wsX4_weight { frames := 1, cells := 0, slots := 0, locals := 20 } D vwCl (yT cI cJ cZ cN) [.ref (xa 0)] (xcW xa sa ta pa ++ stW cI cJ sa so ++ naW cN xa nad ++ tkW ta tk ++ pkW cI pa pk ++ vdW cI xa vd ++ tgW cI xa tg ++ n3W cI nad ns) (some (.int res)) (xcW xa sa ta pa ++ stW cI cJ sa so ++ naW cN xa nad ++ tkW ta tk ++ pkW cI pa pk ++ vdW cI xa vd ++ tgW cI xa tg ++ n3W cI nad ns) := by
  intro sz
  refine Met.ofW (cc := cX4_weight) (maxL := 1) (ret := (some .int)) (by decide) rfl ?_
  intro p e s m args below meth c s₁ B hml hv
  obtain ⟨rfl, hsz, hP, hK, hD0, hN⟩ := hv
  have hx := B.exec
  have hb := B.bytes
  have hr := B.returns
  have hts := atoms_spec (ws := wsX4_weight) B.pre
  have hw : ∀ w ∈ yW, w.before _ s = true := fun w h => hts w (List.mem_cons_of_mem _ h)
  have hown : s.vm.findClass RX4 = some m.cls := findClass_of_methodNamed B.named
  have hlocks := B.notSynchronized
  subst hsz
  have hD := hD0.self (sz := s.heap.size)
  generalize hAe : va_A (xcW xa sa ta pa ++ stW cI cJ sa so ++ naW cN xa nad ++ tkW ta tk ++ pkW cI pa pk ++ vdW cI xa vd ++ tgW cI xa tg ++ n3W cI nad ns) s.heap.size = A at hD ⊢
  have hA : ∀ q : Nat, s.heap.size ≤ q → A q := fun q h => by rw [← hAe]; exact Or.inr h
  have hS : va_S A s.heap s.heap [] := va_S.rf
  have hl := lv_entry ([.ref (xa 0)]) (n := 1) (Nat.le_of_ble_eq_true rfl)
  rw [lg_entry_eq]
  generalize (lg_sl ([.ref (xa 0)]) ++ List.replicate (1 - (lg_sl ([.ref (xa 0)])).length) Slot.unset).toArray = ls at hl ⊢
  have hl : lv_has ls 1 [(0, .ref (xa 0))] := hl
  rw [x_weight] at hf
  refine lv_aload_n hx hb dX4_weight_0 rfl (lv_at hl 0 rfl) ?_
  refine va_get (D := D) (ci := 4) (v := .ref (pa 0)) (C := RX4) (T := TX4) (N := 6) hx hb hts (yy_tl inX4) hown hK hP 0 rfl rfl 3 (by decide) (hw _ wq_149) (fun _ h9 => h9) rfl dX4_weight_1 ?_
  obtain ⟨r1, er1⟩ : ∃ r, r = pk_totalWeight pk := ⟨_, rfl⟩
  have hf := yb_e er1 hf
  refine yz_callV (As := []) (rest := []) ⟨hx, hb, hml, hown, hts⟩ (c_pk_totalWeight l D cI cJ cZ cN pa pk  r1 er1) ⟨callB_of 0 hts (yy_good wq_474) rfl rfl rfl (hw _ wq_38) (hw _ wq_471) (by decide +kernel) ⟨Nat.le_of_ble_eq_true rfl, Nat.le_of_ble_eq_true rfl⟩, hw _ wq_472, hw _ wq_473⟩ hK hN hP hD hS hA [9, 10, 11, 12] rfl (by decide) rfl 13 rfl (w2 := (xcW xa sa ta pa ++ stW cI cJ sa so ++ naW cN xa nad ++ tkW ta tk ++ pkW cI pa pk ++ vdW cI xa vd ++ tgW cI xa tg ++ n3W cI nad ns)) rfl 9 rfl rfl rfl hl.1 rfl (Nat.le_of_ble_eq_true rfl) dX4_weight_4 ⟨Nat.zero_le _, Nat.zero_le _⟩ (fun H locs hP hD hS => ?_)
  refine W.eq (g2 := F0 m 7 ls [.int r1]) rfl ?_
  subst hf
  exact yy_iret hx hb hr hP hK hS hlocks dX4_weight_7

set_option maxHeartbeats 4000000 in
set_option maxRecDepth 100000 in
theorem c_x_verdict (l : Launch) (D : va_G) (cI cJ cZ cN : ClassId) (xa : Nat → Nat) (sa : Nat → Nat) (ta : Nat → Nat) (pa : Nat → Nat) (nad : Nat → Nat → Nat) (rf : Int32) (so : SS) (tk : TS) (pk : PS) (vd : (Nat → Int32)) (tg : (Nat → Int32)) (ns : (Nat → NS)) (hs : so.2.2.2.2.2 ≤ 60) (hp : pk.2.2.2.2.1 ≤ 60) (res : Int32) (hf : res = x_verdict rf vd) : yy_Met l yX4_verdict wsX4_verdict { frames := 1, cells := 0, slots := 0, locals := 20 } D vwCl (yT cI cJ cZ cN) [.ref (xa 0), .int rf] (xcW xa sa ta pa ++ stW cI cJ sa so ++ naW cN xa nad ++ tkW ta tk ++ pkW cI pa pk ++ vdW cI xa vd ++ tgW cI xa tg ++ n3W cI nad ns) (some (.int res)) (xcW xa sa ta pa ++ stW cI cJ sa so ++ naW cN xa nad ++ tkW ta tk ++ pkW cI pa pk ++ vdW cI xa vd ++ tgW cI xa tg ++ n3W cI nad ns) := by
  intro sz
  refine Met.ofW (cc := cX4_verdict) (maxL := 2) (ret := (some .int)) (by decide) rfl ?_
  intro p e s m args below meth c s₁ B hml hv
  obtain ⟨rfl, hsz, hP, hK, hD0, hN⟩ := hv
  have hx := B.exec
  have hb := B.bytes
  have hr := B.returns
  have hts := atoms_spec (ws := wsX4_verdict) B.pre
  have hw : ∀ w ∈ yW, w.before _ s = true := fun w h => hts w (List.mem_cons_of_mem _ h)
  have hown : s.vm.findClass RX4 = some m.cls := findClass_of_methodNamed B.named
  have hlocks := B.notSynchronized
  subst hsz
  have hD := hD0.self (sz := s.heap.size)
  generalize hAe : va_A (xcW xa sa ta pa ++ stW cI cJ sa so ++ naW cN xa nad ++ tkW ta tk ++ pkW cI pa pk ++ vdW cI xa vd ++ tgW cI xa tg ++ n3W cI nad ns) s.heap.size = A at hD ⊢
  have hA : ∀ q : Nat, s.heap.size ≤ q → A q := fun q h => by rw [← hAe]; exact Or.inr h
  have hS : va_S A s.heap s.heap [] := va_S.rf
  have hl := lv_entry ([.ref (xa 0), .int rf]) (n := 2) (Nat.le_of_ble_eq_true rfl)
  rw [lg_entry_eq]
  generalize (lg_sl ([.ref (xa 0), .int rf]) ++ List.replicate (2 - (lg_sl ([.ref (xa 0), .int rf])).length) Slot.unset).toArray = ls at hl ⊢
  have hl : lv_has ls 2 [(0, .ref (xa 0)), (1, .int rf)] := hl
  rw [x_verdict] at hf
  refine lv_iload_n hx hb dX4_verdict_0 rfl (lv_at hl 1 rfl) ?_
  obtain ⟨r1, er1⟩ : ∃ r, r = px_isOwnReference rf := ⟨_, rfl⟩
  have hf := yb_e er1 hf
  refine yz_callS (As := [.int rf]) (rest := []) ⟨hx, hb, hml, hown, hts⟩ (c_px_isOwnReference l D cI cJ cZ cN rf  r1 er1) ⟨callB_of 1 hts (yy_good wq_238) rfl rfl rfl (hw _ wq_34) (hw _ wq_236) (by decide +kernel) ⟨Nat.le_of_ble_eq_true rfl, Nat.le_of_ble_eq_true rfl⟩, hw _ wq_237⟩ hK hN hP hD hS hA [] rfl (by decide) rfl 0 rfl (w2 := (xcW xa sa ta pa ++ stW cI cJ sa so ++ naW cN xa nad ++ tkW ta tk ++ pkW cI pa pk ++ vdW cI xa vd ++ tgW cI xa tg ++ n3W cI nad ns)) rfl rfl hl.1 rfl (Nat.le_of_ble_eq_true rfl) dX4_verdict_1 ⟨Nat.zero_le _, Nat.zero_le _⟩ (fun H locs hP hD hS => ?_)
  refine W.eq (g2 := F0 m 4 ls [.int (yB r1)]) rfl ?_
  refine lv_if_eq (tgt := 16) hx hb dX4_verdict_4 (by decide) (fun h2 => ?_) (fun h2 => ?_)
  · have h2 := yB_0.mp h2
    have hf := yBf h2 hf
    refine lv_iconst (v := 0) hx hb dX4_verdict_16 (by decide) ?_
    subst hf
    exact yy_iret (v := 0) hx hb hr hP hK hS hlocks dX4_verdict_17
  · have h2 := yB_1 h2
    have hf := yBt h2 hf
    refine lv_aload_n hx hb dX4_verdict_7 rfl (lv_at hl 0 rfl) ?_
    refine va_get (D := D) (ci := 4) (v := .ref (xa 2)) (C := RX4) (T := TX4) (N := 6) hx hb hts (yy_tl inX4) hown hK hP 0 rfl rfl 4 (by decide) (hw _ wq_150) (fun _ h9 => h9) rfl dX4_verdict_8 ?_
    refine lv_iload_n hx hb dX4_verdict_11 rfl (lv_at hl 1 rfl) ?_
    refine va_iald hx hb hK hP 13 0 (f := vd) rfl rfl (px_isOwn_in ‹_ = px_isOwnReference rf› ‹_ = true›) dX4_verdict_12 ?_
    refine lv_goto (tgt := 17) hx hb dX4_verdict_13 (by decide) ?_
    subst hf
    exact yy_iret (v := (vd rf.toNatClampNeg)) hx hb hr hP hK hS hlocks dX4_verdict_17
