set_option maxHeartbeats 4000000 in
set_option maxRecDepth 100000 in
theorem c_x_push (l : Launch) (D : va_G) (cI cJ cZ cN : ClassId) (xa : Nat → Nat) (sa : Nat → Nat) (ta : Nat → Nat) (pa : Nat → Nat) (nad : Nat → Nat → Nat) (node : Int32) (set : Int32) (so : SS) (tk : TS) (pk : PS) (vd : (Nat → Int32)) (tg : (Nat → Int32)) (ns : (Nat → NS)) (hs : so.2.2.2.2.2 ≤ 60) (hp : pk.2.2.2.2.1 ≤ 60) (res : Int32 × PS × (Nat → Int32) × (Nat → Int32) × (Nat → NS)) (hf : res = x_push node set so pk vd tg ns) : yy_Met l yX4_push wsX4_push { frames := 5, cells := 0, slots := 0, locals := 116 } D vwCl (yT cI cJ cZ cN) [.ref (xa 0), .int node, .int set] (xcW xa sa ta pa ++ stW cI cJ sa so ++ naW cN xa nad ++ tkW ta tk ++ pkW cI pa pk ++ vdW cI xa vd ++ tgW cI xa tg ++ n3W cI nad ns) (some (.int res.1)) (xcW xa sa ta pa ++ stW cI cJ sa so ++ naW cN xa nad ++ tkW ta tk ++ pkW cI pa res.2.1 ++ vdW cI xa res.2.2.1 ++ tgW cI xa res.2.2.2.1 ++ n3W cI nad res.2.2.2.2) := by
  intro sz
  refine Met.ofW (cc := cX4_push) (maxL := 7) (ret := (some .int)) (by decide) rfl ?_
  intro p e s m args below meth c s₁ B hml hv
  obtain ⟨rfl, hsz, hP, hK, hD0, hN⟩ := hv
  have hx := B.exec
  have hb := B.bytes
  have hr := B.returns
  have hts := atoms_spec (ws := wsX4_push) B.pre
  have hw : ∀ w ∈ yW, w.before _ s = true := fun w h => hts w (List.mem_cons_of_mem _ h)
  have hown : s.vm.findClass RX4 = some m.cls := findClass_of_methodNamed B.named
  have hlocks := B.notSynchronized
  subst hsz
  have hD := hD0.self (sz := s.heap.size)
  generalize hAe : va_A (xcW xa sa ta pa ++ stW cI cJ sa so ++ naW cN xa nad ++ tkW ta tk ++ pkW cI pa pk ++ vdW cI xa vd ++ tgW cI xa tg ++ n3W cI nad ns) s.heap.size = A at hD ⊢
  have hA : ∀ q : Nat, s.heap.size ≤ q → A q := fun q h => by rw [← hAe]; exact Or.inr h
  have hS : va_S A s.heap s.heap [] := va_S.rf
  have hl := lv_entry ([.ref (xa 0), .int node, .int set]) (n := 7) (Nat.le_of_ble_eq_true rfl)
  rw [lg_entry_eq]
  generalize (lg_sl ([.ref (xa 0), .int node, .int set]) ++ List.replicate (7 - (lg_sl ([.ref (xa 0), .int node, .int set])).length) Slot.unset).toArray = ls at hl ⊢
  have hl : lv_has ls 7 [(0, .ref (xa 0)), (1, .int node), (2, .int set)] := hl
  rw [x_push] at hf
  refine lv_iload_n hx hb dX4_push_0 rfl (lv_at hl 1 rfl) ?_
  obtain ⟨r1, er1⟩ : ∃ r, r = px_isClient node := ⟨_, rfl⟩
  have hf := yb_e er1 hf
  refine yz_callS (As := [.int node]) (rest := []) ⟨hx, hb, hml, hown, hts⟩ (c_px_isClient l D cI cJ cZ cN node  r1 er1) ⟨callB_of 1 hts (yy_good wq_278) rfl rfl rfl (hw _ wq_34) (hw _ wq_276) (by decide +kernel) ⟨Nat.le_of_ble_eq_true rfl, Nat.le_of_ble_eq_true rfl⟩, hw _ wq_277⟩ hK hN hP hD hS hA [] rfl (by decide) rfl 0 rfl (w2 := (xcW xa sa ta pa ++ stW cI cJ sa so ++ naW cN xa nad ++ tkW ta tk ++ pkW cI pa pk ++ vdW cI xa vd ++ tgW cI xa tg ++ n3W cI nad ns)) rfl rfl hl.1 rfl (Nat.le_of_ble_eq_true rfl) dX4_push_1 ⟨Nat.zero_le _, Nat.zero_le _⟩ (fun H locs hP hD hS => ?_)
  refine W.eq (g2 := F0 m 4 ls [.int (yB r1)]) rfl ?_
  refine lv_if_eq (tgt := 14) hx hb dX4_push_4 (by decide) (fun h2 => ?_) (fun h2 => ?_)
  · have h2 := yB_0.mp h2
    have hf := yBf h2 hf
    refine lv_iconst (v := (-1)) hx hb dX4_push_14 (by decide) ?_
    subst hf
    exact yy_iret (v := (-1)) hx hb hr hP hK hS hlocks dX4_push_15
  · have h2 := yB_1 h2
    have hf := yBt h2 hf
    refine lv_iload_n hx hb dX4_push_7 rfl (lv_at hl 2 rfl) ?_
    obtain ⟨r3, er3⟩ : ∃ r, r = px_isSet set := ⟨_, rfl⟩
    have hf := yb_e er3 hf
    refine yz_callS (As := [.int set]) (rest := []) ⟨hx, hb, hml, hown, hts⟩ (c_px_isSet l D cI cJ cZ cN set  r3 er3) ⟨callB_of 1 hts (yy_good wq_281) rfl rfl rfl (hw _ wq_34) (hw _ wq_279) (by decide +kernel) ⟨Nat.le_of_ble_eq_true rfl, Nat.le_of_ble_eq_true rfl⟩, hw _ wq_280⟩ hK hN hP hD hS hA [] rfl (by decide) rfl 0 rfl (w2 := (xcW xa sa ta pa ++ stW cI cJ sa so ++ naW cN xa nad ++ tkW ta tk ++ pkW cI pa pk ++ vdW cI xa vd ++ tgW cI xa tg ++ n3W cI nad ns)) rfl rfl hl.1 rfl (Nat.le_of_ble_eq_true rfl) dX4_push_8 ⟨Nat.zero_le _, Nat.zero_le _⟩ (fun H locs hP hD hS => ?_)
    refine W.eq (g2 := F0 m 11 ls [.int (yB r3)]) rfl ?_
    refine lv_if_ne (tgt := 16) hx hb dX4_push_11 (by decide) (fun h4 => ?_) (fun h4 => ?_)
    · have h4 := yB_1 h4
      have hf := yBt h4 hf
      obtain ⟨nk, hc_nk, h_nk, he_nk⟩ : ∃ k : Nat, node.toNatClampNeg = k ∧ k < 3 ∧ node = nI k := (px_isClient_nat ‹_ = px_isClient node› ‹_ = true›)
      have hf_nk := yn_e hc_nk hf
      subst he_nk
      have hf := hf_nk
      have h0_nk : nk ≠ 0 := px_isClient_ne ‹_ = px_isClient _› ‹_ = true›
      obtain ⟨hP, hD⟩ := xW_to2 h_nk h0_nk hP hD
      have hP : va_P D vwCl (xcW xa sa ta pa ++ stW cI cJ sa so ++ naW cN xa nad ++ tkW ta tk ++ pkW cI pa pk ++ vdW cI xa vd ++ tgW cI xa tg ++ ndW cI (nad 0) (ns 0) ++ ndW cI (nad nk) (ns nk) ++ n1W cI nad nk ns) _ := hP
      have hD : va_D A (xcW xa sa ta pa ++ stW cI cJ sa so ++ naW cN xa nad ++ tkW ta tk ++ pkW cI pa pk ++ vdW cI xa vd ++ tgW cI xa tg ++ ndW cI (nad 0) (ns 0) ++ ndW cI (nad nk) (ns nk) ++ n1W cI nad nk ns) := hD
      refine lv_aload_n hx hb dX4_push_16 rfl (lv_at hl 0 rfl) ?_
      refine va_get (D := D) (ci := 4) (v := .ref (xa 1)) (C := RX4) (T := TX4) (N := 6) hx hb hts (yy_tl inX4) hown hK hP 0 rfl rfl 1 (by decide) (hw _ wq_147) (fun _ h9 => h9) rfl dX4_push_17 ?_
      refine lv_iconst (v := (nI 0)) hx hb dX4_push_20 (by decide) ?_
      refine yr_aldq hx hb hK hP 7 3 (j := 0) (b := nad 0 0) rfl rfl rfl (by omega) (by decide) (na_at (by omega)) dX4_push_21 ?_
      refine lv_astore_n (lv' := [(3, .ref (nad 0 0)), (0, .ref (xa 0)), (1, .int (nI nk)), (2, .int set)]) hx hb dX4_push_22 rfl hl (by decide) rfl (fun ls hl => ?_)
      refine lv_aload_n hx hb dX4_push_23 rfl (lv_at hl 1 rfl) ?_
      refine va_get (D := D) (ci := 4) (v := .ref (xa 1)) (C := RX4) (T := TX4) (N := 6) hx hb hts (yy_tl inX4) hown hK hP 0 rfl rfl 1 (by decide) (hw _ wq_147) (fun _ h9 => h9) rfl dX4_push_24 ?_
      refine lv_iload_n hx hb dX4_push_27 rfl (lv_at hl 2 rfl) ?_
      refine yr_aldq hx hb hK hP 7 3 (j := nk) (b := nad nk 0) rfl rfl rfl (by omega) (by decide) (na_at (by omega)) dX4_push_28 ?_
      refine lv_astore (lv' := [(4, .ref (nad nk 0)), (3, .ref (nad 0 0)), (0, .ref (xa 0)), (1, .int (nI nk)), (2, .int set)]) hx hb dX4_push_29 hl (by decide) rfl (fun ls hl => ?_)
      refine lv_aload hx hb dX4_push_31 (lv_at hl 0 rfl) ?_
      obtain ⟨r5, er5⟩ : ∃ r, r = nd_isUp (ns nk) := ⟨_, rfl⟩
      have hf := yb_e er5 hf
      refine yz_callV (As := []) (rest := []) ⟨hx, hb, hml, hown, hts⟩ (c_nd_isUp l D cI cJ cZ cN (nad nk) (ns nk)  r5 er5) ⟨callB_of 0 hts (yy_good wq_175) rfl rfl rfl (hw _ wq_36) (hw _ wq_172) (by decide +kernel) ⟨Nat.le_of_ble_eq_true rfl, Nat.le_of_ble_eq_true rfl⟩, hw _ wq_173, hw _ wq_174⟩ hK hN hP hD hS hA [18, 19, 20] rfl (by decide) rfl 21 rfl (w2 := (xcW xa sa ta pa ++ stW cI cJ sa so ++ naW cN xa nad ++ tkW ta tk ++ pkW cI pa pk ++ vdW cI xa vd ++ tgW cI xa tg ++ ndW cI (nad 0) (ns 0) ++ ndW cI (nad nk) (ns nk) ++ n1W cI nad nk ns)) rfl 18 rfl rfl rfl hl.1 rfl (Nat.le_of_ble_eq_true rfl) dX4_push_33 ⟨Nat.zero_le _, Nat.zero_le _⟩ (fun H locs hP hD hS => ?_)
      refine W.eq (g2 := F0 m 36 ls [.int (yB r5)]) rfl ?_
      refine lv_if_eq (tgt := 46) hx hb dX4_push_36 (by decide) (fun h6 => ?_) (fun h6 => ?_)
      · have h6 := yB_0.mp h6
        have hf := yBf h6 hf
        refine lv_bipush (v := (-2)) hx hb dX4_push_46 (by decide) ?_
        have hP := xW_of2_00 h_nk h0_nk hP
        subst hf
        exact yy_iret (v := (-2)) hx hb hr hP hK hS hlocks dX4_push_48
      · have h6 := yB_1 h6
        have hf := yBt h6 hf
        refine lv_aload_n hx hb dX4_push_39 rfl (lv_at hl 1 rfl) ?_
        obtain ⟨r7, er7⟩ : ∃ r, r = nd_isUp (ns 0) := ⟨_, rfl⟩
        have hf := yb_e er7 hf
        refine yz_callV (As := []) (rest := []) ⟨hx, hb, hml, hown, hts⟩ (c_nd_isUp l D cI cJ cZ cN (nad 0) (ns 0)  r7 er7) ⟨callB_of 0 hts (yy_good wq_175) rfl rfl rfl (hw _ wq_36) (hw _ wq_172) (by decide +kernel) ⟨Nat.le_of_ble_eq_true rfl, Nat.le_of_ble_eq_true rfl⟩, hw _ wq_173, hw _ wq_174⟩ hK hN hP hD hS hA [15, 16, 17] rfl (by decide) rfl 18 rfl (w2 := (xcW xa sa ta pa ++ stW cI cJ sa so ++ naW cN xa nad ++ tkW ta tk ++ pkW cI pa pk ++ vdW cI xa vd ++ tgW cI xa tg ++ ndW cI (nad 0) (ns 0) ++ ndW cI (nad nk) (ns nk) ++ n1W cI nad nk ns)) rfl 15 rfl rfl rfl hl.1 rfl (Nat.le_of_ble_eq_true rfl) dX4_push_40 ⟨Nat.zero_le _, Nat.zero_le _⟩ (fun H locs hP hD hS => ?_)
        refine W.eq (g2 := F0 m 43 ls [.int (yB r7)]) rfl ?_
        refine lv_if_ne (tgt := 49) hx hb dX4_push_43 (by decide) (fun h8 => ?_) (fun h8 => ?_)
        · have h8 := yB_1 h8
          have hf := yBt h8 hf
          refine lv_aload hx hb dX4_push_49 (lv_at hl 0 rfl) ?_
          refine lv_iload_n hx hb dX4_push_51 rfl (lv_at hl 4 rfl) ?_
          obtain ⟨r9, er9⟩ : ∃ r, r = nd_hasValues set (ns nk) := ⟨_, rfl⟩
          have hf := yb_e er9 hf
          refine yz_callV (As := [.int set]) (rest := []) ⟨hx, hb, hml, hown, hts⟩ (c_nd_hasValues l D cI cJ cZ cN (nad nk) set (ns nk)  r9 er9) ⟨callB_of 1 hts (yy_good wq_371) rfl rfl rfl (hw _ wq_36) (hw _ wq_368) (by decide +kernel) ⟨Nat.le_of_ble_eq_true rfl, Nat.le_of_ble_eq_true rfl⟩, hw _ wq_369, hw _ wq_370⟩ hK hN hP hD hS hA [18, 19, 20] rfl (by decide) rfl 21 rfl (w2 := (xcW xa sa ta pa ++ stW cI cJ sa so ++ naW cN xa nad ++ tkW ta tk ++ pkW cI pa pk ++ vdW cI xa vd ++ tgW cI xa tg ++ ndW cI (nad 0) (ns 0) ++ ndW cI (nad nk) (ns nk) ++ n1W cI nad nk ns)) rfl 18 rfl rfl rfl hl.1 rfl (Nat.le_of_ble_eq_true rfl) dX4_push_52 ⟨Nat.zero_le _, Nat.zero_le _⟩ (fun H locs hP hD hS => ?_)
          refine W.eq (g2 := F0 m 55 ls [.int (yB r9)]) rfl ?_
          refine lv_if_ne (tgt := 60) hx hb dX4_push_55 (by decide) (fun h10 => ?_) (fun h10 => ?_)
          · have h10 := yB_1 h10
            have hf := yBt h10 hf
            refine lv_aload_n hx hb dX4_push_60 rfl (lv_at hl 2 rfl) ?_
            refine lv_aload hx hb dX4_push_61 (lv_at hl 0 rfl) ?_
            refine lv_aload_n hx hb dX4_push_63 rfl (lv_at hl 1 rfl) ?_
            refine lv_iload_n hx hb dX4_push_64 rfl (lv_at hl 4 rfl) ?_
            obtain ⟨r11, er11⟩ : ∃ r, r = px_judge set so vd (ns nk) (ns 0) := ⟨_, rfl⟩
            have hf := yb_e er11 hf
            refine yz_callV (As := [.ref (nad nk 0), .ref (nad 0 0), .int set]) (rest := []) ⟨hx, hb, hml, hown, hts⟩ (c_px_judge l D cI cJ cZ cN xa sa ta pa (nad nk) (nad 0) set so vd (ns nk) (ns 0) (by (try dsimp only) <;> omega) r11 er11) ⟨callB_of 3 hts (yy_good wq_375) rfl rfl rfl (hw _ wq_34) (hw _ wq_372) (by decide +kernel) ⟨Nat.le_of_ble_eq_true rfl, Nat.le_of_ble_eq_true rfl⟩, hw _ wq_374, hw _ wq_12⟩ hK hN hP hD hS hA [0, 1, 2, 3, 4, 5, 6, 13, 18, 19, 20, 15, 16, 17] rfl (by decide) rfl 21 rfl (w2 := (xcW xa sa ta pa ++ stW cI cJ sa so ++ naW cN xa nad ++ tkW ta tk ++ pkW cI pa pk ++ vdW cI xa r11.2 ++ tgW cI xa tg ++ ndW cI (nad 0) (ns 0) ++ ndW cI (nad nk) (ns nk) ++ n1W cI nad nk ns)) rfl 0 rfl rfl rfl hl.1 rfl (Nat.le_of_ble_eq_true rfl) dX4_push_65 ⟨Nat.zero_le _, Nat.zero_le _⟩ (fun H locs hP hD hS => ?_)
            refine W.eq (g2 := F0 m 68 ls [.int (yB r11.1)]) rfl ?_
            refine lv_if_ne (tgt := 85) hx hb dX4_push_68 (by decide) (fun h12 => ?_) (fun h12 => ?_)
            · have h12 := yB_1 h12
              have hf := yBt h12 hf
              refine lv_aload_n hx hb dX4_push_85 rfl (lv_at hl 1 rfl) ?_
              refine lv_bipush (v := 15) hx hb dX4_push_86 (by decide) ?_
              obtain ⟨r13, er13⟩ : ∃ r, r = nd_commitsOf 15 (ns 0) := ⟨_, rfl⟩
              have hf := yb_e er13 hf
              refine yz_callV (As := [.int 15]) (rest := []) ⟨hx, hb, hml, hown, hts⟩ (c_nd_commitsOf l D cI cJ cZ cN (nad 0) 15 (ns 0)  r13 er13) ⟨callB_of 1 hts (yy_good wq_285) rfl rfl rfl (hw _ wq_36) (hw _ wq_282) (by decide +kernel) ⟨Nat.le_of_ble_eq_true rfl, Nat.le_of_ble_eq_true rfl⟩, hw _ wq_283, hw _ wq_284⟩ hK hN hP hD hS hA [15, 16, 17] rfl (by decide) rfl 18 rfl (w2 := (xcW xa sa ta pa ++ stW cI cJ sa so ++ naW cN xa nad ++ tkW ta tk ++ pkW cI pa pk ++ vdW cI xa r11.2 ++ tgW cI xa tg ++ ndW cI (nad 0) (ns 0) ++ ndW cI (nad nk) (ns nk) ++ n1W cI nad nk ns)) rfl 15 rfl rfl rfl hl.1 rfl (Nat.le_of_ble_eq_true rfl) dX4_push_88 ⟨Nat.zero_le _, Nat.zero_le _⟩ (fun H locs hP hD hS => ?_)
              refine W.eq (g2 := F0 m 91 ls [.long r13]) rfl ?_
              refine lv_aload hx hb dX4_push_91 (lv_at hl 0 rfl) ?_
              obtain ⟨r14, er14⟩ : ∃ r, r = nd_heldSet (ns nk) := ⟨_, rfl⟩
              have hf := yb_e er14 hf
              refine yz_callV (As := []) (rest := [.long r13]) ⟨hx, hb, hml, hown, hts⟩ (c_nd_heldSet l D cI cJ cZ cN (nad nk) (ns nk)  r14 er14) ⟨callB_of 0 hts (yy_good wq_191) rfl rfl rfl (hw _ wq_36) (hw _ wq_188) (by decide +kernel) ⟨Nat.le_of_ble_eq_true rfl, Nat.le_of_ble_eq_true rfl⟩, hw _ wq_189, hw _ wq_190⟩ hK hN hP hD hS hA [18, 19, 20] rfl (by decide) rfl 21 rfl (w2 := (xcW xa sa ta pa ++ stW cI cJ sa so ++ naW cN xa nad ++ tkW ta tk ++ pkW cI pa pk ++ vdW cI xa r11.2 ++ tgW cI xa tg ++ ndW cI (nad 0) (ns 0) ++ ndW cI (nad nk) (ns nk) ++ n1W cI nad nk ns)) rfl 18 rfl rfl rfl hl.1 rfl (Nat.le_of_ble_eq_true rfl) dX4_push_93 ⟨Nat.zero_le _, Nat.zero_le _⟩ (fun H locs hP hD hS => ?_)
              refine W.eq (g2 := F0 m 96 ls [.long r14, .long r13]) rfl ?_
              refine lv_land hx hb dX4_push_96 ?_
              refine lv_lstore (lv' := [(5, .long (r13 &&& r14)), (4, .ref (nad nk 0)), (3, .ref (nad 0 0)), (0, .ref (xa 0)), (1, .int (nI nk)), (2, .int set)]) hx hb dX4_push_97 hl (by decide) rfl (fun ls hl => ?_)
              refine lv_aload_n hx hb dX4_push_99 rfl (lv_at hl 3 rfl) ?_
              refine va_get (D := D) (ci := 4) (v := .ref (pa 0)) (C := RX4) (T := TX4) (N := 6) hx hb hts (yy_tl inX4) hown hK hP 0 rfl rfl 3 (by decide) (hw _ wq_149) (fun _ h9 => h9) rfl dX4_push_100 ?_
              refine lv_aload_n hx hb dX4_push_103 rfl (lv_at hl 3 rfl) ?_
              refine va_get (D := D) (ci := 4) (v := .ref (sa 0)) (C := RX4) (T := TX4) (N := 6) hx hb hts (yy_tl inX4) hown hK hP 0 rfl rfl 0 (by decide) (hw _ wq_146) (fun _ h9 => h9) rfl dX4_push_104 ?_
              refine lv_aload_n hx hb dX4_push_107 rfl (lv_at hl 3 rfl) ?_
              refine va_get (D := D) (ci := 4) (v := .ref (sa 0)) (C := RX4) (T := TX4) (N := 6) hx hb hts (yy_tl inX4) hown hK hP 0 rfl rfl 0 (by decide) (hw _ wq_146) (fun _ h9 => h9) rfl dX4_push_108 ?_
              refine lv_aload hx hb dX4_push_111 (lv_at hl 1 rfl) ?_
              refine lv_iload_n hx hb dX4_push_113 rfl (lv_at hl 5 rfl) ?_
              obtain ⟨r15, er15⟩ : ∃ r, r = nd_commitsOf set (ns nk) := ⟨_, rfl⟩
              have hf := yb_e er15 hf
              refine yz_callV (As := [.int set]) (rest := [.ref (sa 0), .ref (sa 0), .ref (pa 0)]) ⟨hx, hb, hml, hown, hts⟩ (c_nd_commitsOf l D cI cJ cZ cN (nad nk) set (ns nk)  r15 er15) ⟨callB_of 1 hts (yy_good wq_285) rfl rfl rfl (hw _ wq_36) (hw _ wq_282) (by decide +kernel) ⟨Nat.le_of_ble_eq_true rfl, Nat.le_of_ble_eq_true rfl⟩, hw _ wq_283, hw _ wq_284⟩ hK hN hP hD hS hA [18, 19, 20] rfl (by decide) rfl 21 rfl (w2 := (xcW xa sa ta pa ++ stW cI cJ sa so ++ naW cN xa nad ++ tkW ta tk ++ pkW cI pa pk ++ vdW cI xa r11.2 ++ tgW cI xa tg ++ ndW cI (nad 0) (ns 0) ++ ndW cI (nad nk) (ns nk) ++ n1W cI nad nk ns)) rfl 18 rfl rfl rfl hl.1 rfl (Nat.le_of_ble_eq_true rfl) dX4_push_114 ⟨Nat.zero_le _, Nat.zero_le _⟩ (fun H locs hP hD hS => ?_)
              refine W.eq (g2 := F0 m 117 ls [.long r15, .ref (sa 0), .ref (sa 0), .ref (pa 0)]) rfl ?_
              obtain ⟨r16, er16⟩ : ∃ r, r = st_reachOfAll r15 so := ⟨_, rfl⟩
              have hf := yb_e er16 hf
              refine yz_callV (As := [.long r15]) (rest := [.ref (sa 0), .ref (pa 0)]) ⟨hx, hb, hml, hown, hts⟩ (c_st_reachOfAll l D cI cJ cZ cN sa r15 so (by (try dsimp only) <;> omega) r16 er16) ⟨callB_of 1 hts (yy_good wq_293) rfl rfl rfl (hw _ wq_35) (hw _ wq_290) (by decide +kernel) ⟨Nat.le_of_ble_eq_true rfl, Nat.le_of_ble_eq_true rfl⟩, hw _ wq_291, hw _ wq_292⟩ hK hN hP hD hS hA [1, 2, 3, 4, 5, 6] rfl (by decide) rfl 7 rfl (w2 := (xcW xa sa ta pa ++ stW cI cJ sa so ++ naW cN xa nad ++ tkW ta tk ++ pkW cI pa pk ++ vdW cI xa r11.2 ++ tgW cI xa tg ++ ndW cI (nad 0) (ns 0) ++ ndW cI (nad nk) (ns nk) ++ n1W cI nad nk ns)) rfl 1 rfl rfl rfl hl.1 rfl (Nat.le_of_ble_eq_true rfl) dX4_push_117 ⟨Nat.zero_le _, Nat.zero_le _⟩ (fun H locs hP hD hS => ?_)
              refine W.eq (g2 := F0 m 120 ls [.long r16, .ref (sa 0), .ref (pa 0)]) rfl ?_
              refine lv_aload_n hx hb dX4_push_120 rfl (lv_at hl 3 rfl) ?_
              refine va_get (D := D) (ci := 4) (v := .ref (sa 0)) (C := RX4) (T := TX4) (N := 6) hx hb hts (yy_tl inX4) hown hK hP 0 rfl rfl 0 (by decide) (hw _ wq_146) (fun _ h9 => h9) rfl dX4_push_121 ?_
              refine lv_lload hx hb dX4_push_124 (lv_at hl 0 rfl) ?_
              obtain ⟨r17, er17⟩ : ∃ r, r = st_reachOfAll (r13 &&& r14) so := ⟨_, rfl⟩
              have hf := yb_e er17 hf
              refine yz_callV (As := [.long (r13 &&& r14)]) (rest := [.long r16, .ref (sa 0), .ref (pa 0)]) ⟨hx, hb, hml, hown, hts⟩ (c_st_reachOfAll l D cI cJ cZ cN sa (r13 &&& r14) so (by (try dsimp only) <;> omega) r17 er17) ⟨callB_of 1 hts (yy_good wq_293) rfl rfl rfl (hw _ wq_35) (hw _ wq_290) (by decide +kernel) ⟨Nat.le_of_ble_eq_true rfl, Nat.le_of_ble_eq_true rfl⟩, hw _ wq_291, hw _ wq_292⟩ hK hN hP hD hS hA [1, 2, 3, 4, 5, 6] rfl (by decide) rfl 7 rfl (w2 := (xcW xa sa ta pa ++ stW cI cJ sa so ++ naW cN xa nad ++ tkW ta tk ++ pkW cI pa pk ++ vdW cI xa r11.2 ++ tgW cI xa tg ++ ndW cI (nad 0) (ns 0) ++ ndW cI (nad nk) (ns nk) ++ n1W cI nad nk ns)) rfl 1 rfl rfl rfl hl.1 rfl (Nat.le_of_ble_eq_true rfl) dX4_push_126 ⟨Nat.zero_le _, Nat.zero_le _⟩ (fun H locs hP hD hS => ?_)
              refine W.eq (g2 := F0 m 129 ls [.long r17, .long r16, .ref (sa 0), .ref (pa 0)]) rfl ?_
              refine lv_ldc2 (v := (-1)) hx hb hown (hw _ wq_289) dX4_push_129 ?_
              refine lv_lxor hx hb dX4_push_132 ?_
              refine lv_land hx hb dX4_push_133 ?_
              obtain ⟨r18, er18⟩ : ∃ r, r = pk_fill (r16 &&& (r17 ^^^ (-1))) pk so := ⟨_, rfl⟩
              have hf := yb_e er18 hf
              refine yz_callV (As := [.ref (sa 0), .long (r16 &&& (r17 ^^^ (-1)))]) (rest := []) ⟨hx, hb, hml, hown, hts⟩ (c_pk_fill l D cI cJ cZ cN pa sa (r16 &&& (r17 ^^^ (-1))) pk so (by (try dsimp only) <;> omega) r18 er18) ⟨callB_of 2 hts (yy_good wq_322) rfl rfl rfl (hw _ wq_38) (hw _ wq_319) (by decide +kernel) ⟨Nat.le_of_ble_eq_true rfl, Nat.le_of_ble_eq_true rfl⟩, hw _ wq_320, hw _ wq_321⟩ hK hN hP hD hS hA [9, 10, 11, 12, 1, 2, 3, 4, 5, 6] rfl (by decide) rfl 13 rfl (w2 := (xcW xa sa ta pa ++ stW cI cJ sa so ++ naW cN xa nad ++ tkW ta tk ++ pkW cI pa r18 ++ vdW cI xa r11.2 ++ tgW cI xa tg ++ ndW cI (nad 0) (ns 0) ++ ndW cI (nad nk) (ns nk) ++ n1W cI nad nk ns)) rfl 9 rfl rfl rfl hl.1 rfl (Nat.le_of_ble_eq_true rfl) dX4_push_134 ⟨Nat.zero_le _, Nat.zero_le _⟩ (fun H locs hP hD hS => ?_)
              refine W.eq (g2 := F0 m 137 ls []) rfl ?_
              refine lv_aload_n hx hb dX4_push_137 rfl (lv_at hl 3 rfl) ?_
              refine lv_aload hx hb dX4_push_138 (lv_at hl 1 rfl) ?_
              refine lv_aload_n hx hb dX4_push_140 rfl (lv_at hl 2 rfl) ?_
              refine lv_iload_n hx hb dX4_push_141 rfl (lv_at hl 5 rfl) ?_
              obtain ⟨r19, er19⟩ : ∃ r, r = px_carryOutPush set r18 tg (ns nk) (ns 0) := ⟨_, rfl⟩
              have hf := yb_e er19 hf
              refine yz_callV (As := [.ref (nad nk 0), .ref (nad 0 0), .int set]) (rest := []) ⟨hx, hb, hml, hown, hts⟩ (c_px_carryOutPush l D cI cJ cZ cN xa sa ta pa (nad nk) (nad 0) set r18 tg (ns nk) (ns 0)  r19 er19) ⟨callB_of 3 hts (yy_good wq_384) rfl rfl rfl (hw _ wq_34) (hw _ wq_381) (by decide +kernel) ⟨Nat.le_of_ble_eq_true rfl, Nat.le_of_ble_eq_true rfl⟩, hw _ wq_383, hw _ wq_14⟩ hK hN hP hD hS hA [0, 9, 10, 11, 12, 14, 18, 19, 20, 15, 16, 17] rfl (by decide) rfl 21 rfl (w2 := (xcW xa sa ta pa ++ stW cI cJ sa so ++ naW cN xa nad ++ tkW ta tk ++ pkW cI pa r18 ++ vdW cI xa r11.2 ++ tgW cI xa r19.2.1 ++ ndW cI (nad 0) r19.2.2.2 ++ ndW cI (nad nk) r19.2.2.1 ++ n1W cI nad nk ns)) rfl 0 rfl rfl rfl hl.1 rfl (Nat.le_of_ble_eq_true rfl) dX4_push_142 ⟨Nat.zero_le _, Nat.zero_le _⟩ (fun H locs hP hD hS => ?_)
              refine W.eq (g2 := F0 m 145 ls [.int (yB r19.1)]) rfl ?_
              refine lv_if_eq (tgt := 152) hx hb dX4_push_145 (by decide) (fun h20 => ?_) (fun h20 => ?_)
              · have h20 := yB_0.mp h20
                have hf := yBf h20 hf
                refine lv_bipush (v := (-2)) hx hb dX4_push_152 (by decide) ?_
                have hP := xW_of2_11 h_nk h0_nk hP
                subst hf
                exact yy_iret (v := (-2)) hx hb hr hP hK hS hlocks dX4_push_154
              · have h20 := yB_1 h20
                have hf := yBt h20 hf
                refine lv_iconst (v := 1) hx hb dX4_push_148 (by decide) ?_
                refine lv_goto (tgt := 154) hx hb dX4_push_149 (by decide) ?_
                have hP := xW_of2_11 h_nk h0_nk hP
                subst hf
                exact yy_iret (v := 1) hx hb hr hP hK hS hlocks dX4_push_154
            · have h12 := yB_0.mp h12
              have hf := yBf h12 hf
              refine lv_aload_n hx hb dX4_push_71 rfl (lv_at hl 2 rfl) ?_
              refine va_get (D := D) (ci := 4) (v := .ref (pa 0)) (C := RX4) (T := TX4) (N := 6) hx hb hts (yy_tl inX4) hown hK hP 0 rfl rfl 3 (by decide) (hw _ wq_149) (fun _ h9 => h9) rfl dX4_push_72 ?_
              refine lv_aload_n hx hb dX4_push_75 rfl (lv_at hl 2 rfl) ?_
              refine va_get (D := D) (ci := 4) (v := .ref (sa 0)) (C := RX4) (T := TX4) (N := 6) hx hb hts (yy_tl inX4) hown hK hP 0 rfl rfl 0 (by decide) (hw _ wq_146) (fun _ h9 => h9) rfl dX4_push_76 ?_
              refine lv_lconst (v := 0) hx hb dX4_push_79 (by decide) ?_
              obtain ⟨r21, er21⟩ : ∃ r, r = pk_fill 0 pk so := ⟨_, rfl⟩
              have hf := yb_e er21 hf
              refine yz_callV (As := [.ref (sa 0), .long 0]) (rest := []) ⟨hx, hb, hml, hown, hts⟩ (c_pk_fill l D cI cJ cZ cN pa sa 0 pk so (by (try dsimp only) <;> omega) r21 er21) ⟨callB_of 2 hts (yy_good wq_322) rfl rfl rfl (hw _ wq_38) (hw _ wq_319) (by decide +kernel) ⟨Nat.le_of_ble_eq_true rfl, Nat.le_of_ble_eq_true rfl⟩, hw _ wq_320, hw _ wq_321⟩ hK hN hP hD hS hA [9, 10, 11, 12, 1, 2, 3, 4, 5, 6] rfl (by decide) rfl 13 rfl (w2 := (xcW xa sa ta pa ++ stW cI cJ sa so ++ naW cN xa nad ++ tkW ta tk ++ pkW cI pa r21 ++ vdW cI xa r11.2 ++ tgW cI xa tg ++ ndW cI (nad 0) (ns 0) ++ ndW cI (nad nk) (ns nk) ++ n1W cI nad nk ns)) rfl 9 rfl rfl rfl hl.1 rfl (Nat.le_of_ble_eq_true rfl) dX4_push_80 ⟨Nat.zero_le _, Nat.zero_le _⟩ (fun H locs hP hD hS => ?_)
              refine W.eq (g2 := F0 m 83 ls []) rfl ?_
              refine lv_iconst (v := 0) hx hb dX4_push_83 (by decide) ?_
              have hP := xW_of2_00 h_nk h0_nk hP
              subst hf
              exact yy_iret (v := 0) hx hb hr hP hK hS hlocks dX4_push_84
          · have h10 := yB_0.mp h10
            have hf := yBf h10 hf
            refine lv_iconst (v := (-1)) hx hb dX4_push_58 (by decide) ?_
            have hP := xW_of2_00 h_nk h0_nk hP
            subst hf
            exact yy_iret (v := (-1)) hx hb hr hP hK hS hlocks dX4_push_59
        · have h8 := yB_0.mp h8
          have hf := yBf h8 hf
          refine lv_bipush (v := (-2)) hx hb dX4_push_46 (by decide) ?_
          have hP := xW_of2_00 h_nk h0_nk hP
          subst hf
          exact yy_iret (v := (-2)) hx hb hr hP hK hS hlocks dX4_push_48
    · have h4 := yB_0.mp h4
      have hf := yBf h4 hf
      refine lv_iconst (v := (-1)) hx hb dX4_push_14 (by decide) ?_
      subst hf
      exact yy_iret (v := (-1)) hx hb hr hP hK hS hlocks dX4_push_15
