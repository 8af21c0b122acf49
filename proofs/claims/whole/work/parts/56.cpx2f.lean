set_option maxHeartbeats 4000000 in
set_option maxRecDepth 100000 in
theorem c_x_fetch (l : Launch) (D : va_G) (cI cJ cZ cN : ClassId) (xa : Nat → Nat) (sa : Nat → Nat) (ta : Nat → Nat) (pa : Nat → Nat) (nad : Nat → Nat → Nat) (node : Int32) (set : Int32) (so : SS) (tk : TS) (pk : PS) (vd : (Nat → Int32)) (tg : (Nat → Int32)) (ns : (Nat → NS)) (hs : so.2.2.2.2.2 ≤ 60) (hp : pk.2.2.2.2.1 ≤ 60) (res : Int32 × TS × PS × (Nat → Int32) × (Nat → NS)) (hf : res = x_fetch node set so tk pk tg ns) : yy_Met l yX4_fetch wsX4_fetch { frames := 5, cells := 0, slots := 0, locals := 116 } D vwCl (yT cI cJ cZ cN) [.ref (xa 0), .int node, .int set] (xcW xa sa ta pa ++ stW cI cJ sa so ++ naW cN xa nad ++ tkW ta tk ++ pkW cI pa pk ++ vdW cI xa vd ++ tgW cI xa tg ++ n3W cI nad ns) (some (.int res.1)) (xcW xa sa ta pa ++ stW cI cJ sa so ++ naW cN xa nad ++ tkW ta res.2.1 ++ pkW cI pa res.2.2.1 ++ vdW cI xa vd ++ tgW cI xa res.2.2.2.1 ++ n3W cI nad res.2.2.2.2) := by
  intro sz
  refine Met.ofW (cc := cX4_fetch) (maxL := 11) (ret := (some .int)) (by decide) rfl ?_
  intro p e s m args below meth c s₁ B hml hv
  obtain ⟨rfl, hsz, hP, hK, hD0, hN⟩ := hv
  have hx := B.exec
  have hb := B.bytes
  have hr := B.returns
  have hts := atoms_spec (ws := wsX4_fetch) B.pre
  have hw : ∀ w ∈ yW, w.before _ s = true := fun w h => hts w (List.mem_cons_of_mem _ h)
  have hown : s.vm.findClass RX4 = some m.cls := findClass_of_methodNamed B.named
  have hlocks := B.notSynchronized
  subst hsz
  have hD := hD0.self (sz := s.heap.size)
  generalize hAe : va_A (xcW xa sa ta pa ++ stW cI cJ sa so ++ naW cN xa nad ++ tkW ta tk ++ pkW cI pa pk ++ vdW cI xa vd ++ tgW cI xa tg ++ n3W cI nad ns) s.heap.size = A at hD ⊢
  have hA : ∀ q : Nat, s.heap.size ≤ q → A q := fun q h => by rw [← hAe]; exact Or.inr h
  have hS : va_S A s.heap s.heap [] := va_S.rf
  have hl := lv_entry ([.ref (xa 0), .int node, .int set]) (n := 11) (Nat.le_of_ble_eq_true rfl)
  rw [lg_entry_eq]
  generalize (lg_sl ([.ref (xa 0), .int node, .int set]) ++ List.replicate (11 - (lg_sl ([.ref (xa 0), .int node, .int set])).length) Slot.unset).toArray = ls at hl ⊢
  have hl : lv_has ls 11 [(0, .ref (xa 0)), (1, .int node), (2, .int set)] := hl
  rw [x_fetch] at hf
  refine lv_iload_n hx hb dX4_fetch_0 rfl (lv_at hl 1 rfl) ?_
  obtain ⟨r1, er1⟩ : ∃ r, r = px_isClient node := ⟨_, rfl⟩
  have hf := yb_e er1 hf
  refine yz_callS (As := [.int node]) (rest := []) ⟨hx, hb, hml, hown, hts⟩ (c_px_isClient l D cI cJ cZ cN node  r1 er1) ⟨callB_of 1 hts (yy_good wq_278) rfl rfl rfl (hw _ wq_34) (hw _ wq_276) (by decide +kernel) ⟨Nat.le_of_ble_eq_true rfl, Nat.le_of_ble_eq_true rfl⟩, hw _ wq_277⟩ hK hN hP hD hS hA [] rfl (by decide) rfl 0 rfl (w2 := (xcW xa sa ta pa ++ stW cI cJ sa so ++ naW cN xa nad ++ tkW ta tk ++ pkW cI pa pk ++ vdW cI xa vd ++ tgW cI xa tg ++ n3W cI nad ns)) rfl rfl hl.1 rfl (Nat.le_of_ble_eq_true rfl) dX4_fetch_1 ⟨Nat.zero_le _, Nat.zero_le _⟩ (fun H locs hP hD hS => ?_)
  refine W.eq (g2 := F0 m 4 ls [.int (yB r1)]) rfl ?_
  refine lv_if_eq (tgt := 14) hx hb dX4_fetch_4 (by decide) (fun h2 => ?_) (fun h2 => ?_)
  · have h2 := yB_0.mp h2
    have hf := yBf h2 hf
    refine lv_iconst (v := (-1)) hx hb dX4_fetch_14 (by decide) ?_
    subst hf
    exact yy_iret (v := (-1)) hx hb hr hP hK hS hlocks dX4_fetch_15
  · have h2 := yB_1 h2
    have hf := yBt h2 hf
    refine lv_iload_n hx hb dX4_fetch_7 rfl (lv_at hl 2 rfl) ?_
    obtain ⟨r3, er3⟩ : ∃ r, r = px_isSet set := ⟨_, rfl⟩
    have hf := yb_e er3 hf
    refine yz_callS (As := [.int set]) (rest := []) ⟨hx, hb, hml, hown, hts⟩ (c_px_isSet l D cI cJ cZ cN set  r3 er3) ⟨callB_of 1 hts (yy_good wq_281) rfl rfl rfl (hw _ wq_34) (hw _ wq_279) (by decide +kernel) ⟨Nat.le_of_ble_eq_true rfl, Nat.le_of_ble_eq_true rfl⟩, hw _ wq_280⟩ hK hN hP hD hS hA [] rfl (by decide) rfl 0 rfl (w2 := (xcW xa sa ta pa ++ stW cI cJ sa so ++ naW cN xa nad ++ tkW ta tk ++ pkW cI pa pk ++ vdW cI xa vd ++ tgW cI xa tg ++ n3W cI nad ns)) rfl rfl hl.1 rfl (Nat.le_of_ble_eq_true rfl) dX4_fetch_8 ⟨Nat.zero_le _, Nat.zero_le _⟩ (fun H locs hP hD hS => ?_)
    refine W.eq (g2 := F0 m 11 ls [.int (yB r3)]) rfl ?_
    refine lv_if_ne (tgt := 16) hx hb dX4_fetch_11 (by decide) (fun h4 => ?_) (fun h4 => ?_)
    · have h4 := yB_1 h4
      have hf := yBt h4 hf
      obtain ⟨nk, hc_nk, h_nk, he_nk⟩ : ∃ k : Nat, node.toNatClampNeg = k ∧ k < 3 ∧ node = nI k := (px_isClient_nat ‹_ = px_isClient node› ‹_ = true›)
      have hf_nk := yn_e hc_nk hf
      subst he_nk
      have hf := hf_nk
      have h0_nk : nk ≠ 0 := px_isClient_ne ‹_ = px_isClient _› ‹_ = true›
      obtain ⟨hP, hD⟩ := xW_to2 h_nk h0_nk hP hD
      have hP : va_P D vwCl (xcW xa sa ta pa ++ stW cI cJ sa so ++ naW cN xa nad ++ tkW ta tk ++ pkW cI pa pk ++ vdW cI xa vd ++ tgW cI xa tg ++ ndW cI (nad 0) (ns 0) ++ ndW cI (nad nk) (ns nk) ++ n1W cI nad nk ns) _ := hP
      have hD : va_D A (xcW xa sa ta pa ++ stW cI cJ sa so ++ naW cN xa nad ++ tkW ta tk ++ pkW cI pa pk ++ vdW cI xa vd ++ tgW cI xa tg ++ ndW cI (nad 0) (ns 0) ++ ndW cI (nad nk) (ns nk) ++ n1W cI nad nk ns) := hD
      refine lv_aload_n hx hb dX4_fetch_16 rfl (lv_at hl 0 rfl) ?_
      refine va_get (D := D) (ci := 4) (v := .ref (xa 1)) (C := RX4) (T := TX4) (N := 6) hx hb hts (yy_tl inX4) hown hK hP 0 rfl rfl 1 (by decide) (hw _ wq_147) (fun _ h9 => h9) rfl dX4_fetch_17 ?_
      refine lv_iconst (v := (nI 0)) hx hb dX4_fetch_20 (by decide) ?_
      refine yr_aldq hx hb hK hP 7 3 (j := 0) (b := nad 0 0) rfl rfl rfl (by omega) (by decide) (na_at (by omega)) dX4_fetch_21 ?_
      refine lv_astore_n (lv' := [(3, .ref (nad 0 0)), (0, .ref (xa 0)), (1, .int (nI nk)), (2, .int set)]) hx hb dX4_fetch_22 rfl hl (by decide) rfl (fun ls hl => ?_)
      refine lv_aload_n hx hb dX4_fetch_23 rfl (lv_at hl 1 rfl) ?_
      refine va_get (D := D) (ci := 4) (v := .ref (xa 1)) (C := RX4) (T := TX4) (N := 6) hx hb hts (yy_tl inX4) hown hK hP 0 rfl rfl 1 (by decide) (hw _ wq_147) (fun _ h9 => h9) rfl dX4_fetch_24 ?_
      refine lv_iload_n hx hb dX4_fetch_27 rfl (lv_at hl 2 rfl) ?_
      refine yr_aldq hx hb hK hP 7 3 (j := nk) (b := nad nk 0) rfl rfl rfl (by omega) (by decide) (na_at (by omega)) dX4_fetch_28 ?_
      refine lv_astore (lv' := [(4, .ref (nad nk 0)), (3, .ref (nad 0 0)), (0, .ref (xa 0)), (1, .int (nI nk)), (2, .int set)]) hx hb dX4_fetch_29 hl (by decide) rfl (fun ls hl => ?_)
      refine lv_aload hx hb dX4_fetch_31 (lv_at hl 0 rfl) ?_
      obtain ⟨r5, er5⟩ : ∃ r, r = nd_isUp (ns nk) := ⟨_, rfl⟩
      have hf := yb_e er5 hf
      refine yz_callV (As := []) (rest := []) ⟨hx, hb, hml, hown, hts⟩ (c_nd_isUp l D cI cJ cZ cN (nad nk) (ns nk)  r5 er5) ⟨callB_of 0 hts (yy_good wq_175) rfl rfl rfl (hw _ wq_36) (hw _ wq_172) (by decide +kernel) ⟨Nat.le_of_ble_eq_true rfl, Nat.le_of_ble_eq_true rfl⟩, hw _ wq_173, hw _ wq_174⟩ hK hN hP hD hS hA [18, 19, 20] rfl (by decide) rfl 21 rfl (w2 := (xcW xa sa ta pa ++ stW cI cJ sa so ++ naW cN xa nad ++ tkW ta tk ++ pkW cI pa pk ++ vdW cI xa vd ++ tgW cI xa tg ++ ndW cI (nad 0) (ns 0) ++ ndW cI (nad nk) (ns nk) ++ n1W cI nad nk ns)) rfl 18 rfl rfl rfl hl.1 rfl (Nat.le_of_ble_eq_true rfl) dX4_fetch_33 ⟨Nat.zero_le _, Nat.zero_le _⟩ (fun H locs hP hD hS => ?_)
      refine W.eq (g2 := F0 m 36 ls [.int (yB r5)]) rfl ?_
      refine lv_if_eq (tgt := 46) hx hb dX4_fetch_36 (by decide) (fun h6 => ?_) (fun h6 => ?_)
      · have h6 := yB_0.mp h6
        have hf := yBf h6 hf
        refine lv_bipush (v := (-2)) hx hb dX4_fetch_46 (by decide) ?_
        have hP := xW_of2_00 h_nk h0_nk hP
        subst hf
        exact yy_iret (v := (-2)) hx hb hr hP hK hS hlocks dX4_fetch_48
      · have h6 := yB_1 h6
        have hf := yBt h6 hf
        refine lv_aload_n hx hb dX4_fetch_39 rfl (lv_at hl 1 rfl) ?_
        obtain ⟨r7, er7⟩ : ∃ r, r = nd_isUp (ns 0) := ⟨_, rfl⟩
        have hf := yb_e er7 hf
        refine yz_callV (As := []) (rest := []) ⟨hx, hb, hml, hown, hts⟩ (c_nd_isUp l D cI cJ cZ cN (nad 0) (ns 0)  r7 er7) ⟨callB_of 0 hts (yy_good wq_175) rfl rfl rfl (hw _ wq_36) (hw _ wq_172) (by decide +kernel) ⟨Nat.le_of_ble_eq_true rfl, Nat.le_of_ble_eq_true rfl⟩, hw _ wq_173, hw _ wq_174⟩ hK hN hP hD hS hA [15, 16, 17] rfl (by decide) rfl 18 rfl (w2 := (xcW xa sa ta pa ++ stW cI cJ sa so ++ naW cN xa nad ++ tkW ta tk ++ pkW cI pa pk ++ vdW cI xa vd ++ tgW cI xa tg ++ ndW cI (nad 0) (ns 0) ++ ndW cI (nad nk) (ns nk) ++ n1W cI nad nk ns)) rfl 15 rfl rfl rfl hl.1 rfl (Nat.le_of_ble_eq_true rfl) dX4_fetch_40 ⟨Nat.zero_le _, Nat.zero_le _⟩ (fun H locs hP hD hS => ?_)
        refine W.eq (g2 := F0 m 43 ls [.int (yB r7)]) rfl ?_
        refine lv_if_ne (tgt := 49) hx hb dX4_fetch_43 (by decide) (fun h8 => ?_) (fun h8 => ?_)
        · have h8 := yB_1 h8
          have hf := yBt h8 hf
          refine lv_aload_n hx hb dX4_fetch_49 rfl (lv_at hl 1 rfl) ?_
          refine lv_iload_n hx hb dX4_fetch_50 rfl (lv_at hl 4 rfl) ?_
          obtain ⟨r9, er9⟩ : ∃ r, r = nd_commitsOf set (ns 0) := ⟨_, rfl⟩
          have hf := yb_e er9 hf
          refine yz_callV (As := [.int set]) (rest := []) ⟨hx, hb, hml, hown, hts⟩ (c_nd_commitsOf l D cI cJ cZ cN (nad 0) set (ns 0)  r9 er9) ⟨callB_of 1 hts (yy_good wq_285) rfl rfl rfl (hw _ wq_36) (hw _ wq_282) (by decide +kernel) ⟨Nat.le_of_ble_eq_true rfl, Nat.le_of_ble_eq_true rfl⟩, hw _ wq_283, hw _ wq_284⟩ hK hN hP hD hS hA [15, 16, 17] rfl (by decide) rfl 18 rfl (w2 := (xcW xa sa ta pa ++ stW cI cJ sa so ++ naW cN xa nad ++ tkW ta tk ++ pkW cI pa pk ++ vdW cI xa vd ++ tgW cI xa tg ++ ndW cI (nad 0) (ns 0) ++ ndW cI (nad nk) (ns nk) ++ n1W cI nad nk ns)) rfl 15 rfl rfl rfl hl.1 rfl (Nat.le_of_ble_eq_true rfl) dX4_fetch_51 ⟨Nat.zero_le _, Nat.zero_le _⟩ (fun H locs hP hD hS => ?_)
          refine W.eq (g2 := F0 m 54 ls [.long r9]) rfl ?_
          refine lv_aload hx hb dX4_fetch_54 (lv_at hl 0 rfl) ?_
          obtain ⟨r10, er10⟩ : ∃ r, r = nd_heldSet (ns nk) := ⟨_, rfl⟩
          have hf := yb_e er10 hf
          refine yz_callV (As := []) (rest := [.long r9]) ⟨hx, hb, hml, hown, hts⟩ (c_nd_heldSet l D cI cJ cZ cN (nad nk) (ns nk)  r10 er10) ⟨callB_of 0 hts (yy_good wq_191) rfl rfl rfl (hw _ wq_36) (hw _ wq_188) (by decide +kernel) ⟨Nat.le_of_ble_eq_true rfl, Nat.le_of_ble_eq_true rfl⟩, hw _ wq_189, hw _ wq_190⟩ hK hN hP hD hS hA [18, 19, 20] rfl (by decide) rfl 21 rfl (w2 := (xcW xa sa ta pa ++ stW cI cJ sa so ++ naW cN xa nad ++ tkW ta tk ++ pkW cI pa pk ++ vdW cI xa vd ++ tgW cI xa tg ++ ndW cI (nad 0) (ns 0) ++ ndW cI (nad nk) (ns nk) ++ n1W cI nad nk ns)) rfl 18 rfl rfl rfl hl.1 rfl (Nat.le_of_ble_eq_true rfl) dX4_fetch_56 ⟨Nat.zero_le _, Nat.zero_le _⟩ (fun H locs hP hD hS => ?_)
          refine W.eq (g2 := F0 m 59 ls [.long r10, .long r9]) rfl ?_
          refine lv_ldc2 (v := (-1)) hx hb hown (hw _ wq_289) dX4_fetch_59 ?_
          refine lv_lxor hx hb dX4_fetch_62 ?_
          refine lv_land hx hb dX4_fetch_63 ?_
          refine lv_lstore (lv' := [(5, .long (r9 &&& (r10 ^^^ (-1)))), (4, .ref (nad nk 0)), (3, .ref (nad 0 0)), (0, .ref (xa 0)), (1, .int (nI nk)), (2, .int set)]) hx hb dX4_fetch_64 hl (by decide) rfl (fun ls hl => ?_)
          refine lv_aload_n hx hb dX4_fetch_66 rfl (lv_at hl 3 rfl) ?_
          refine va_get (D := D) (ci := 4) (v := .ref (sa 0)) (C := RX4) (T := TX4) (N := 6) hx hb hts (yy_tl inX4) hown hK hP 0 rfl rfl 0 (by decide) (hw _ wq_146) (fun _ h9 => h9) rfl dX4_fetch_67 ?_
          refine lv_aload hx hb dX4_fetch_70 (lv_at hl 1 rfl) ?_
          refine lv_sipush (v := 255) hx hb dX4_fetch_72 (by decide) ?_
          obtain ⟨r11, er11⟩ : ∃ r, r = nd_commitsOf 255 (ns nk) := ⟨_, rfl⟩
          have hf := yb_e er11 hf
          refine yz_callV (As := [.int 255]) (rest := [.ref (sa 0)]) ⟨hx, hb, hml, hown, hts⟩ (c_nd_commitsOf l D cI cJ cZ cN (nad nk) 255 (ns nk)  r11 er11) ⟨callB_of 1 hts (yy_good wq_285) rfl rfl rfl (hw _ wq_36) (hw _ wq_282) (by decide +kernel) ⟨Nat.le_of_ble_eq_true rfl, Nat.le_of_ble_eq_true rfl⟩, hw _ wq_283, hw _ wq_284⟩ hK hN hP hD hS hA [18, 19, 20] rfl (by decide) rfl 21 rfl (w2 := (xcW xa sa ta pa ++ stW cI cJ sa so ++ naW cN xa nad ++ tkW ta tk ++ pkW cI pa pk ++ vdW cI xa vd ++ tgW cI xa tg ++ ndW cI (nad 0) (ns 0) ++ ndW cI (nad nk) (ns nk) ++ n1W cI nad nk ns)) rfl 18 rfl rfl rfl hl.1 rfl (Nat.le_of_ble_eq_true rfl) dX4_fetch_75 ⟨Nat.zero_le _, Nat.zero_le _⟩ (fun H locs hP hD hS => ?_)
          refine W.eq (g2 := F0 m 78 ls [.long r11, .ref (sa 0)]) rfl ?_
          obtain ⟨r12, er12⟩ : ∃ r, r = st_reachOfAll r11 so := ⟨_, rfl⟩
          have hf := yb_e er12 hf
          refine yz_callV (As := [.long r11]) (rest := []) ⟨hx, hb, hml, hown, hts⟩ (c_st_reachOfAll l D cI cJ cZ cN sa r11 so (by (try dsimp only) <;> omega) r12 er12) ⟨callB_of 1 hts (yy_good wq_293) rfl rfl rfl (hw _ wq_35) (hw _ wq_290) (by decide +kernel) ⟨Nat.le_of_ble_eq_true rfl, Nat.le_of_ble_eq_true rfl⟩, hw _ wq_291, hw _ wq_292⟩ hK hN hP hD hS hA [1, 2, 3, 4, 5, 6] rfl (by decide) rfl 7 rfl (w2 := (xcW xa sa ta pa ++ stW cI cJ sa so ++ naW cN xa nad ++ tkW ta tk ++ pkW cI pa pk ++ vdW cI xa vd ++ tgW cI xa tg ++ ndW cI (nad 0) (ns 0) ++ ndW cI (nad nk) (ns nk) ++ n1W cI nad nk ns)) rfl 1 rfl rfl rfl hl.1 rfl (Nat.le_of_ble_eq_true rfl) dX4_fetch_78 ⟨Nat.zero_le _, Nat.zero_le _⟩ (fun H locs hP hD hS => ?_)
          refine W.eq (g2 := F0 m 81 ls [.long r12]) rfl ?_
          refine lv_aload_n hx hb dX4_fetch_81 rfl (lv_at hl 3 rfl) ?_
          refine va_get (D := D) (ci := 4) (v := .ref (sa 0)) (C := RX4) (T := TX4) (N := 6) hx hb hts (yy_tl inX4) hown hK hP 0 rfl rfl 0 (by decide) (hw _ wq_146) (fun _ h9 => h9) rfl dX4_fetch_82 ?_
          refine lv_iconst (v := 2) hx hb dX4_fetch_85 (by decide) ?_
          obtain ⟨r13, er13⟩ : ∃ r, r = st_allOfKind 2 so := ⟨_, rfl⟩
          have hf := yb_e er13 hf
          refine yz_callV (As := [.int 2]) (rest := [.long r12]) ⟨hx, hb, hml, hown, hts⟩ (c_st_allOfKind l D cI cJ cZ cN sa 2 so (by (try dsimp only) <;> omega) r13 er13) ⟨callB_of 1 hts (yy_good wq_298) rfl rfl rfl (hw _ wq_35) (hw _ wq_295) (by decide +kernel) ⟨Nat.le_of_ble_eq_true rfl, Nat.le_of_ble_eq_true rfl⟩, hw _ wq_296, hw _ wq_297⟩ hK hN hP hD hS hA [1, 2, 3, 4, 5, 6] rfl (by decide) rfl 7 rfl (w2 := (xcW xa sa ta pa ++ stW cI cJ sa so ++ naW cN xa nad ++ tkW ta tk ++ pkW cI pa pk ++ vdW cI xa vd ++ tgW cI xa tg ++ ndW cI (nad 0) (ns 0) ++ ndW cI (nad nk) (ns nk) ++ n1W cI nad nk ns)) rfl 1 rfl rfl rfl hl.1 rfl (Nat.le_of_ble_eq_true rfl) dX4_fetch_86 ⟨Nat.zero_le _, Nat.zero_le _⟩ (fun H locs hP hD hS => ?_)
          refine W.eq (g2 := F0 m 89 ls [.long r13, .long r12]) rfl ?_
          refine lv_land hx hb dX4_fetch_89 ?_
          refine lv_lstore (lv' := [(7, .long (r12 &&& r13)), (5, .long (r9 &&& (r10 ^^^ (-1)))), (4, .ref (nad nk 0)), (3, .ref (nad 0 0)), (0, .ref (xa 0)), (1, .int (nI nk)), (2, .int set)]) hx hb dX4_fetch_90 hl (by decide) rfl (fun ls hl => ?_)
          refine lv_aload_n hx hb dX4_fetch_92 rfl (lv_at hl 4 rfl) ?_
          refine va_get (D := D) (ci := 4) (v := .ref (ta 0)) (C := RX4) (T := TX4) (N := 6) hx hb hts (yy_tl inX4) hown hK hP 0 rfl rfl 2 (by decide) (hw _ wq_148) (fun _ h9 => h9) rfl dX4_fetch_93 ?_
          refine lv_aload_n hx hb dX4_fetch_96 rfl (lv_at hl 4 rfl) ?_
          refine va_get (D := D) (ci := 4) (v := .ref (sa 0)) (C := RX4) (T := TX4) (N := 6) hx hb hts (yy_tl inX4) hown hK hP 0 rfl rfl 0 (by decide) (hw _ wq_146) (fun _ h9 => h9) rfl dX4_fetch_97 ?_
          refine lv_lload hx hb dX4_fetch_100 (lv_at hl 1 rfl) ?_
          refine lv_lload hx hb dX4_fetch_102 (lv_at hl 0 rfl) ?_
          refine lv_aload_n hx hb dX4_fetch_104 rfl (lv_at hl 3 rfl) ?_
          obtain ⟨r14, er14⟩ : ∃ r, r = nd_heldSet (ns 0) := ⟨_, rfl⟩
          have hf := yb_e er14 hf
          refine yz_callV (As := []) (rest := [.long (r12 &&& r13), .long (r9 &&& (r10 ^^^ (-1))), .ref (sa 0), .ref (ta 0)]) ⟨hx, hb, hml, hown, hts⟩ (c_nd_heldSet l D cI cJ cZ cN (nad 0) (ns 0)  r14 er14) ⟨callB_of 0 hts (yy_good wq_191) rfl rfl rfl (hw _ wq_36) (hw _ wq_188) (by decide +kernel) ⟨Nat.le_of_ble_eq_true rfl, Nat.le_of_ble_eq_true rfl⟩, hw _ wq_189, hw _ wq_190⟩ hK hN hP hD hS hA [15, 16, 17] rfl (by decide) rfl 18 rfl (w2 := (xcW xa sa ta pa ++ stW cI cJ sa so ++ naW cN xa nad ++ tkW ta tk ++ pkW cI pa pk ++ vdW cI xa vd ++ tgW cI xa tg ++ ndW cI (nad 0) (ns 0) ++ ndW cI (nad nk) (ns nk) ++ n1W cI nad nk ns)) rfl 15 rfl rfl rfl hl.1 rfl (Nat.le_of_ble_eq_true rfl) dX4_fetch_105 ⟨Nat.zero_le _, Nat.zero_le _⟩ (fun H locs hP hD hS => ?_)
          refine W.eq (g2 := F0 m 108 ls [.long r14, .long (r12 &&& r13), .long (r9 &&& (r10 ^^^ (-1))), .ref (sa 0), .ref (ta 0)]) rfl ?_
          obtain ⟨r15, er15⟩ : ∃ r, r = tk_run (r9 &&& (r10 ^^^ (-1))) (r12 &&& r13) r14 tk so := ⟨_, rfl⟩
          have hf := yb_e er15 hf
          refine yz_callV (As := [.ref (sa 0), .long (r9 &&& (r10 ^^^ (-1))), .long (r12 &&& r13), .long r14]) (rest := []) ⟨hx, hb, hml, hown, hts⟩ (c_tk_run l D cI cJ cZ cN ta sa (r9 &&& (r10 ^^^ (-1))) (r12 &&& r13) r14 tk so (by (try dsimp only) <;> omega) r15 er15) ⟨callB_of 4 hts (yy_good wq_302) rfl rfl rfl (hw _ wq_37) (hw _ wq_299) (by decide +kernel) ⟨Nat.le_of_ble_eq_true rfl, Nat.le_of_ble_eq_true rfl⟩, hw _ wq_300, hw _ wq_301⟩ hK hN hP hD hS hA [8, 1, 2, 3, 4, 5, 6] rfl (by decide) rfl 9 rfl (w2 := (xcW xa sa ta pa ++ stW cI cJ sa so ++ naW cN xa nad ++ tkW ta r15.2 ++ pkW cI pa pk ++ vdW cI xa vd ++ tgW cI xa tg ++ ndW cI (nad 0) (ns 0) ++ ndW cI (nad nk) (ns nk) ++ n1W cI nad nk ns)) rfl 8 rfl rfl rfl hl.1 rfl (Nat.le_of_ble_eq_true rfl) dX4_fetch_108 ⟨Nat.zero_le _, Nat.zero_le _⟩ (fun H locs hP hD hS => ?_)
          refine W.eq (g2 := F0 m 111 ls [.long r15.1]) rfl ?_
          refine lv_lstore (lv' := [(9, .long r15.1), (7, .long (r12 &&& r13)), (5, .long (r9 &&& (r10 ^^^ (-1)))), (4, .ref (nad nk 0)), (3, .ref (nad 0 0)), (0, .ref (xa 0)), (1, .int (nI nk)), (2, .int set)]) hx hb dX4_fetch_111 hl (by decide) rfl (fun ls hl => ?_)
          refine lv_aload_n hx hb dX4_fetch_113 rfl (lv_at hl 5 rfl) ?_
          refine va_get (D := D) (ci := 4) (v := .ref (pa 0)) (C := RX4) (T := TX4) (N := 6) hx hb hts (yy_tl inX4) hown hK hP 0 rfl rfl 3 (by decide) (hw _ wq_149) (fun _ h9 => h9) rfl dX4_fetch_114 ?_
          refine lv_aload_n hx hb dX4_fetch_117 rfl (lv_at hl 5 rfl) ?_
          refine va_get (D := D) (ci := 4) (v := .ref (sa 0)) (C := RX4) (T := TX4) (N := 6) hx hb hts (yy_tl inX4) hown hK hP 0 rfl rfl 0 (by decide) (hw _ wq_146) (fun _ h9 => h9) rfl dX4_fetch_118 ?_
          refine lv_aload_n hx hb dX4_fetch_121 rfl (lv_at hl 5 rfl) ?_
          refine va_get (D := D) (ci := 4) (v := .ref (sa 0)) (C := RX4) (T := TX4) (N := 6) hx hb hts (yy_tl inX4) hown hK hP 0 rfl rfl 0 (by decide) (hw _ wq_146) (fun _ h9 => h9) rfl dX4_fetch_122 ?_
          refine lv_lload hx hb dX4_fetch_125 (lv_at hl 2 rfl) ?_
          obtain ⟨r16, er16⟩ : ∃ r, r = st_reachOfAll (r9 &&& (r10 ^^^ (-1))) so := ⟨_, rfl⟩
          have hf := yb_e er16 hf
          refine yz_callV (As := [.long (r9 &&& (r10 ^^^ (-1)))]) (rest := [.ref (sa 0), .ref (pa 0)]) ⟨hx, hb, hml, hown, hts⟩ (c_st_reachOfAll l D cI cJ cZ cN sa (r9 &&& (r10 ^^^ (-1))) so (by (try dsimp only) <;> omega) r16 er16) ⟨callB_of 1 hts (yy_good wq_293) rfl rfl rfl (hw _ wq_35) (hw _ wq_290) (by decide +kernel) ⟨Nat.le_of_ble_eq_true rfl, Nat.le_of_ble_eq_true rfl⟩, hw _ wq_291, hw _ wq_292⟩ hK hN hP hD hS hA [1, 2, 3, 4, 5, 6] rfl (by decide) rfl 7 rfl (w2 := (xcW xa sa ta pa ++ stW cI cJ sa so ++ naW cN xa nad ++ tkW ta r15.2 ++ pkW cI pa pk ++ vdW cI xa vd ++ tgW cI xa tg ++ ndW cI (nad 0) (ns 0) ++ ndW cI (nad nk) (ns nk) ++ n1W cI nad nk ns)) rfl 1 rfl rfl rfl hl.1 rfl (Nat.le_of_ble_eq_true rfl) dX4_fetch_127 ⟨Nat.zero_le _, Nat.zero_le _⟩ (fun H locs hP hD hS => ?_)
          refine W.eq (g2 := F0 m 130 ls [.long r16, .ref (sa 0), .ref (pa 0)]) rfl ?_
          refine lv_aload_n hx hb dX4_fetch_130 rfl (lv_at hl 5 rfl) ?_
          refine va_get (D := D) (ci := 4) (v := .ref (sa 0)) (C := RX4) (T := TX4) (N := 6) hx hb hts (yy_tl inX4) hown hK hP 0 rfl rfl 0 (by decide) (hw _ wq_146) (fun _ h9 => h9) rfl dX4_fetch_131 ?_
          refine lv_lload hx hb dX4_fetch_134 (lv_at hl 0 rfl) ?_
          obtain ⟨r17, er17⟩ : ∃ r, r = st_reachOfAll r15.1 so := ⟨_, rfl⟩
          have hf := yb_e er17 hf
          refine yz_callV (As := [.long r15.1]) (rest := [.long r16, .ref (sa 0), .ref (pa 0)]) ⟨hx, hb, hml, hown, hts⟩ (c_st_reachOfAll l D cI cJ cZ cN sa r15.1 so (by (try dsimp only) <;> omega) r17 er17) ⟨callB_of 1 hts (yy_good wq_293) rfl rfl rfl (hw _ wq_35) (hw _ wq_290) (by decide +kernel) ⟨Nat.le_of_ble_eq_true rfl, Nat.le_of_ble_eq_true rfl⟩, hw _ wq_291, hw _ wq_292⟩ hK hN hP hD hS hA [1, 2, 3, 4, 5, 6] rfl (by decide) rfl 7 rfl (w2 := (xcW xa sa ta pa ++ stW cI cJ sa so ++ naW cN xa nad ++ tkW ta r15.2 ++ pkW cI pa pk ++ vdW cI xa vd ++ tgW cI xa tg ++ ndW cI (nad 0) (ns 0) ++ ndW cI (nad nk) (ns nk) ++ n1W cI nad nk ns)) rfl 1 rfl rfl rfl hl.1 rfl (Nat.le_of_ble_eq_true rfl) dX4_fetch_136 ⟨Nat.zero_le _, Nat.zero_le _⟩ (fun H locs hP hD hS => ?_)
          refine W.eq (g2 := F0 m 139 ls [.long r17, .long r16, .ref (sa 0), .ref (pa 0)]) rfl ?_
          refine lv_ldc2 (v := (-1)) hx hb hown (hw _ wq_289) dX4_fetch_139 ?_
          refine lv_lxor hx hb dX4_fetch_142 ?_
          refine lv_land hx hb dX4_fetch_143 ?_
          obtain ⟨r18, er18⟩ : ∃ r, r = pk_fill (r16 &&& (r17 ^^^ (-1))) pk so := ⟨_, rfl⟩
          have hf := yb_e er18 hf
          refine yz_callV (As := [.ref (sa 0), .long (r16 &&& (r17 ^^^ (-1)))]) (rest := []) ⟨hx, hb, hml, hown, hts⟩ (c_pk_fill l D cI cJ cZ cN pa sa (r16 &&& (r17 ^^^ (-1))) pk so (by (try dsimp only) <;> omega) r18 er18) ⟨callB_of 2 hts (yy_good wq_322) rfl rfl rfl (hw _ wq_38) (hw _ wq_319) (by decide +kernel) ⟨Nat.le_of_ble_eq_true rfl, Nat.le_of_ble_eq_true rfl⟩, hw _ wq_320, hw _ wq_321⟩ hK hN hP hD hS hA [9, 10, 11, 12, 1, 2, 3, 4, 5, 6] rfl (by decide) rfl 13 rfl (w2 := (xcW xa sa ta pa ++ stW cI cJ sa so ++ naW cN xa nad ++ tkW ta r15.2 ++ pkW cI pa r18 ++ vdW cI xa vd ++ tgW cI xa tg ++ ndW cI (nad 0) (ns 0) ++ ndW cI (nad nk) (ns nk) ++ n1W cI nad nk ns)) rfl 9 rfl rfl rfl hl.1 rfl (Nat.le_of_ble_eq_true rfl) dX4_fetch_144 ⟨Nat.zero_le _, Nat.zero_le _⟩ (fun H locs hP hD hS => ?_)
          refine W.eq (g2 := F0 m 147 ls []) rfl ?_
          refine lv_aload hx hb dX4_fetch_147 (lv_at hl 3 rfl) ?_
          refine lv_aload_n hx hb dX4_fetch_149 rfl (lv_at hl 5 rfl) ?_
          refine va_get (D := D) (ci := 4) (v := .ref (pa 0)) (C := RX4) (T := TX4) (N := 6) hx hb hts (yy_tl inX4) hown hK hP 0 rfl rfl 3 (by decide) (hw _ wq_149) (fun _ h9 => h9) rfl dX4_fetch_150 ?_
          obtain ⟨r19, er19⟩ : ∃ r, r = pk_memberSet r18 := ⟨_, rfl⟩
          have hf := yb_e er19 hf
          refine yz_callV (As := []) (rest := [.ref (nad nk 0)]) ⟨hx, hb, hml, hown, hts⟩ (c_pk_memberSet l D cI cJ cZ cN pa r18  r19 er19) ⟨callB_of 0 hts (yy_good wq_347) rfl rfl rfl (hw _ wq_38) (hw _ wq_344) (by decide +kernel) ⟨Nat.le_of_ble_eq_true rfl, Nat.le_of_ble_eq_true rfl⟩, hw _ wq_345, hw _ wq_346⟩ hK hN hP hD hS hA [9, 10, 11, 12] rfl (by decide) rfl 13 rfl (w2 := (xcW xa sa ta pa ++ stW cI cJ sa so ++ naW cN xa nad ++ tkW ta r15.2 ++ pkW cI pa r18 ++ vdW cI xa vd ++ tgW cI xa tg ++ ndW cI (nad 0) (ns 0) ++ ndW cI (nad nk) (ns nk) ++ n1W cI nad nk ns)) rfl 9 rfl rfl rfl hl.1 rfl (Nat.le_of_ble_eq_true rfl) dX4_fetch_153 ⟨Nat.zero_le _, Nat.zero_le _⟩ (fun H locs hP hD hS => ?_)
          refine W.eq (g2 := F0 m 156 ls [.long r19, .ref (nad nk 0)]) rfl ?_
          obtain ⟨r20, er20⟩ : ∃ r, r = nd_writeMissing r19 (ns nk) := ⟨_, rfl⟩
          have hf := yb_e er20 hf
          refine yz_callV (As := [.long r19]) (rest := []) ⟨hx, hb, hml, hown, hts⟩ (c_nd_writeMissing l D cI cJ cZ cN (nad nk) r19 (ns nk)  r20 er20) ⟨callB_of 1 hts (yy_good wq_351) rfl rfl rfl (hw _ wq_36) (hw _ wq_348) (by decide +kernel) ⟨Nat.le_of_ble_eq_true rfl, Nat.le_of_ble_eq_true rfl⟩, hw _ wq_349, hw _ wq_350⟩ hK hN hP hD hS hA [18, 19, 20] rfl (by decide) rfl 21 rfl (w2 := (xcW xa sa ta pa ++ stW cI cJ sa so ++ naW cN xa nad ++ tkW ta r15.2 ++ pkW cI pa r18 ++ vdW cI xa vd ++ tgW cI xa tg ++ ndW cI (nad 0) (ns 0) ++ ndW cI (nad nk) r20.2 ++ n1W cI nad nk ns)) rfl 18 rfl rfl rfl hl.1 rfl (Nat.le_of_ble_eq_true rfl) dX4_fetch_156 ⟨Nat.zero_le _, Nat.zero_le _⟩ (fun H locs hP hD hS => ?_)
          refine W.eq (g2 := F0 m 159 ls [.int (yB r20.1)]) rfl ?_
          refine lv_if_ne (tgt := 165) hx hb dX4_fetch_159 (by decide) (fun h21 => ?_) (fun h21 => ?_)
          · have h21 := yB_1 h21
            have hf := yBt h21 hf
            refine lv_aload_n hx hb dX4_fetch_165 rfl (lv_at hl 5 rfl) ?_
            refine lv_aload_n hx hb dX4_fetch_166 rfl (lv_at hl 4 rfl) ?_
            refine lv_iload_n hx hb dX4_fetch_167 rfl (lv_at hl 7 rfl) ?_
            refine lv_iconst (v := (nI 4)) hx hb dX4_fetch_168 (by decide) ?_
            obtain ⟨r22, er22⟩ : ∃ r, r = px_aimAtValues set 4 tg (ns 0) := ⟨_, rfl⟩
            have hf := yb_e er22 hf
            refine yz_callV (As := [.ref (nad 0 0), .int set, .int (nI 4)]) (rest := []) ⟨hx, hb, hml, hown, hts⟩ (c_px_aimAtValues l D cI cJ cZ cN xa sa ta pa (nad 0) set 4 tg (ns 0) (by (try dsimp only) <;> omega) r22 er22) ⟨callB_of 3 hts (yy_good wq_358) rfl rfl rfl (hw _ wq_34) (hw _ wq_355) (by decide +kernel) ⟨Nat.le_of_ble_eq_true rfl, Nat.le_of_ble_eq_true rfl⟩, hw _ wq_357, hw _ wq_11⟩ hK hN hP hD hS hA [0, 14, 15, 16, 17] rfl (by decide) rfl 18 rfl (w2 := (xcW xa sa ta pa ++ stW cI cJ sa so ++ naW cN xa nad ++ tkW ta r15.2 ++ pkW cI pa r18 ++ vdW cI xa vd ++ tgW cI xa r22 ++ ndW cI (nad 0) (ns 0) ++ ndW cI (nad nk) r20.2 ++ n1W cI nad nk ns)) rfl 0 rfl rfl rfl hl.1 rfl (Nat.le_of_ble_eq_true rfl) dX4_fetch_169 ⟨Nat.zero_le _, Nat.zero_le _⟩ (fun H locs hP hD hS => ?_)
            refine W.eq (g2 := F0 m 172 ls []) rfl ?_
            refine lv_aload hx hb dX4_fetch_172 (lv_at hl 3 rfl) ?_
            refine lv_aload_n hx hb dX4_fetch_174 rfl (lv_at hl 5 rfl) ?_
            refine va_get (D := D) (ci := 4) (v := .ref (xa 3)) (C := RX4) (T := TX4) (N := 6) hx hb hts (yy_tl inX4) hown hK hP 0 rfl rfl 5 (by decide) (hw _ wq_151) (fun _ h9 => h9) rfl dX4_fetch_175 ?_
            obtain ⟨r23, er23⟩ : ∃ r, r = nd_transact r20.2 r22 := ⟨_, rfl⟩
            have hf := yb_e er23 hf
            refine yz_callV (As := [.ref (xa 3)]) (rest := []) ⟨hx, hb, hml, hown, hts⟩ (c_nd_transact l D cI cJ cZ cN (nad nk) xa r20.2 r22  r23 er23) ⟨callB_of 1 hts (yy_good wq_258) rfl rfl rfl (hw _ wq_36) (hw _ wq_255) (by decide +kernel) ⟨Nat.le_of_ble_eq_true rfl, Nat.le_of_ble_eq_true rfl⟩, hw _ wq_256, hw _ wq_257⟩ hK hN hP hD hS hA [18, 19, 20, 14] rfl (by decide) rfl 21 rfl (w2 := (xcW xa sa ta pa ++ stW cI cJ sa so ++ naW cN xa nad ++ tkW ta r15.2 ++ pkW cI pa r18 ++ vdW cI xa vd ++ tgW cI xa r22 ++ ndW cI (nad 0) (ns 0) ++ ndW cI (nad nk) r23.2 ++ n1W cI nad nk ns)) rfl 18 rfl rfl rfl hl.1 rfl (Nat.le_of_ble_eq_true rfl) dX4_fetch_178 ⟨Nat.zero_le _, Nat.zero_le _⟩ (fun H locs hP hD hS => ?_)
            refine W.eq (g2 := F0 m 181 ls [.int (yB r23.1)]) rfl ?_
            refine lv_if_eq (tgt := 194) hx hb dX4_fetch_181 (by decide) (fun h24 => ?_) (fun h24 => ?_)
            · have h24 := yB_0.mp h24
              have hf := yBf h24 hf
              refine lv_bipush (v := (-2)) hx hb dX4_fetch_194 (by decide) ?_
              have hP := xW_of2_01 h_nk h0_nk hP
              subst hf
              exact yy_iret (v := (-2)) hx hb hr hP hK hS hlocks dX4_fetch_196
            · have h24 := yB_1 h24
              have hf := yBt h24 hf
              refine lv_aload_n hx hb dX4_fetch_184 rfl (lv_at hl 5 rfl) ?_
              refine va_get (D := D) (ci := 4) (v := .ref (pa 0)) (C := RX4) (T := TX4) (N := 6) hx hb hts (yy_tl inX4) hown hK hP 0 rfl rfl 3 (by decide) (hw _ wq_149) (fun _ h9 => h9) rfl dX4_fetch_185 ?_
              obtain ⟨r25, er25⟩ : ∃ r, r = pk_length r18 := ⟨_, rfl⟩
              have hf := yb_e er25 hf
              refine yz_callV (As := []) (rest := []) ⟨hx, hb, hml, hown, hts⟩ (c_pk_length l D cI cJ cZ cN pa r18  r25 er25) ⟨callB_of 0 hts (yy_good wq_363) rfl rfl rfl (hw _ wq_38) (hw _ wq_360) (by decide +kernel) ⟨Nat.le_of_ble_eq_true rfl, Nat.le_of_ble_eq_true rfl⟩, hw _ wq_361, hw _ wq_362⟩ hK hN hP hD hS hA [9, 10, 11, 12] rfl (by decide) rfl 13 rfl (w2 := (xcW xa sa ta pa ++ stW cI cJ sa so ++ naW cN xa nad ++ tkW ta r15.2 ++ pkW cI pa r18 ++ vdW cI xa vd ++ tgW cI xa r22 ++ ndW cI (nad 0) (ns 0) ++ ndW cI (nad nk) r23.2 ++ n1W cI nad nk ns)) rfl 9 rfl rfl rfl hl.1 rfl (Nat.le_of_ble_eq_true rfl) dX4_fetch_188 ⟨Nat.zero_le _, Nat.zero_le _⟩ (fun H locs hP hD hS => ?_)
              refine W.eq (g2 := F0 m 191 ls [.int (nI r25)]) rfl ?_
              refine lv_goto (tgt := 196) hx hb dX4_fetch_191 (by decide) ?_
              have hP := xW_of2_01 h_nk h0_nk hP
              subst hf
              exact yy_iret (v := (nI r25)) hx hb hr hP hK hS hlocks dX4_fetch_196
          · have h21 := yB_0.mp h21
            have hf := yBf h21 hf
            refine lv_bipush (v := (-2)) hx hb dX4_fetch_162 (by decide) ?_
            have hP := xW_of2_01 h_nk h0_nk hP
            subst hf
            exact yy_iret (v := (-2)) hx hb hr hP hK hS hlocks dX4_fetch_164
        · have h8 := yB_0.mp h8
          have hf := yBf h8 hf
          refine lv_bipush (v := (-2)) hx hb dX4_fetch_46 (by decide) ?_
          have hP := xW_of2_00 h_nk h0_nk hP
          subst hf
          exact yy_iret (v := (-2)) hx hb hr hP hK hS hlocks dX4_fetch_48
    · have h4 := yB_0.mp h4
      have hf := yBf h4 hf
      refine lv_iconst (v := (-1)) hx hb dX4_fetch_14 (by decide) ?_
      subst hf
      exact yy_iret (v := (-1)) hx hb hr hP hK hS hlocks dX4_fetch_15
