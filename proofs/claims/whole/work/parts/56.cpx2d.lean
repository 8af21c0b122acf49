set_option maxHeartbeats 4000000 in
set_option maxRecDepth 100000 in
theorem c_x_point (l : Launch) (D : va_G) (cI cJ cZ cN : ClassId) (xa : Nat → Nat) (sa : Nat → Nat) (ta : Nat → Nat) (pa : Nat → Nat) (nad : Nat → Nat → Nat) (node : Int32) (rf : Int32) (cm : Int32) (so : SS) (tk : TS) (pk : PS) (vd : (Nat → Int32)) (tg : (Nat → Int32)) (ns : (Nat → NS)) (hs : so.2.2.2.2.2 ≤ 60) (hp : pk.2.2.2.2.1 ≤ 60) (res : Int32 × (Nat → Int32) × (Nat → NS)) (hf : res = x_point node rf cm so tg ns) : yy_Met l yX4_point wsX4_point { frames := 4, cells := 0, slots := 0, locals := 88 } D vwCl (yT cI cJ cZ cN) [.ref (xa 0), .int node, .int rf, .int cm] (xcW xa sa ta pa ++ stW cI cJ sa so ++ naW cN xa nad ++ tkW ta tk ++ pkW cI pa pk ++ vdW cI xa vd ++ tgW cI xa tg ++ n3W cI nad ns) (some (.int res.1)) (xcW xa sa ta pa ++ stW cI cJ sa so ++ naW cN xa nad ++ tkW ta tk ++ pkW cI pa pk ++ vdW cI xa vd ++ tgW cI xa res.2.1 ++ n3W cI nad res.2.2) := by
  intro sz
  refine Met.ofW (cc := cX4_point) (maxL := 5) (ret := (some .int)) (by decide) rfl ?_
  intro p e s m args below meth c s₁ B hml hv
  obtain ⟨rfl, hsz, hP, hK, hD0, hN⟩ := hv
  have hx := B.exec
  have hb := B.bytes
  have hr := B.returns
  have hts := atoms_spec (ws := wsX4_point) B.pre
  have hw : ∀ w ∈ yW, w.before _ s = true := fun w h => hts w (List.mem_cons_of_mem _ h)
  have hown : s.vm.findClass RX4 = some m.cls := findClass_of_methodNamed B.named
  have hlocks := B.notSynchronized
  subst hsz
  have hD := hD0.self (sz := s.heap.size)
  generalize hAe : va_A (xcW xa sa ta pa ++ stW cI cJ sa so ++ naW cN xa nad ++ tkW ta tk ++ pkW cI pa pk ++ vdW cI xa vd ++ tgW cI xa tg ++ n3W cI nad ns) s.heap.size = A at hD ⊢
  have hA : ∀ q : Nat, s.heap.size ≤ q → A q := fun q h => by rw [← hAe]; exact Or.inr h
  have hS : va_S A s.heap s.heap [] := va_S.rf
  have hl := lv_entry ([.ref (xa 0), .int node, .int rf, .int cm]) (n := 5) (Nat.le_of_ble_eq_true rfl)
  rw [lg_entry_eq]
  generalize (lg_sl ([.ref (xa 0), .int node, .int rf, .int cm]) ++ List.replicate (5 - (lg_sl ([.ref (xa 0), .int node, .int rf, .int cm])).length) Slot.unset).toArray = ls at hl ⊢
  have hl : lv_has ls 5 [(0, .ref (xa 0)), (1, .int node), (2, .int rf), (3, .int cm)] := hl
  rw [x_point] at hf
  refine lv_iload_n hx hb dX4_point_0 rfl (lv_at hl 1 rfl) ?_
  obtain ⟨r1, er1⟩ : ∃ r, r = px_isNode node := ⟨_, rfl⟩
  have hf := yb_e er1 hf
  refine yz_callS (As := [.int node]) (rest := []) ⟨hx, hb, hml, hown, hts⟩ (c_px_isNode l D cI cJ cZ cN node  r1 er1) ⟨callB_of 1 hts (yy_good wq_171) rfl rfl rfl (hw _ wq_34) (hw _ wq_169) (by decide +kernel) ⟨Nat.le_of_ble_eq_true rfl, Nat.le_of_ble_eq_true rfl⟩, hw _ wq_170⟩ hK hN hP hD hS hA [] rfl (by decide) rfl 0 rfl (w2 := (xcW xa sa ta pa ++ stW cI cJ sa so ++ naW cN xa nad ++ tkW ta tk ++ pkW cI pa pk ++ vdW cI xa vd ++ tgW cI xa tg ++ n3W cI nad ns)) rfl rfl hl.1 rfl (Nat.le_of_ble_eq_true rfl) dX4_point_1 ⟨Nat.zero_le _, Nat.zero_le _⟩ (fun H locs hP hD hS => ?_)
  refine W.eq (g2 := F0 m 4 ls [.int (yB r1)]) rfl ?_
  refine lv_if_eq (tgt := 14) hx hb dX4_point_4 (by decide) (fun h2 => ?_) (fun h2 => ?_)
  · have h2 := yB_0.mp h2
    have hf := yBf h2 hf
    refine lv_iconst (v := (-1)) hx hb dX4_point_14 (by decide) ?_
    subst hf
    exact yy_iret (v := (-1)) hx hb hr hP hK hS hlocks dX4_point_15
  · have h2 := yB_1 h2
    have hf := yBt h2 hf
    refine lv_iload_n hx hb dX4_point_7 rfl (lv_at hl 2 rfl) ?_
    obtain ⟨r3, er3⟩ : ∃ r, r = px_isOwnReference rf := ⟨_, rfl⟩
    have hf := yb_e er3 hf
    refine yz_callS (As := [.int rf]) (rest := []) ⟨hx, hb, hml, hown, hts⟩ (c_px_isOwnReference l D cI cJ cZ cN rf  r3 er3) ⟨callB_of 1 hts (yy_good wq_238) rfl rfl rfl (hw _ wq_34) (hw _ wq_236) (by decide +kernel) ⟨Nat.le_of_ble_eq_true rfl, Nat.le_of_ble_eq_true rfl⟩, hw _ wq_237⟩ hK hN hP hD hS hA [] rfl (by decide) rfl 0 rfl (w2 := (xcW xa sa ta pa ++ stW cI cJ sa so ++ naW cN xa nad ++ tkW ta tk ++ pkW cI pa pk ++ vdW cI xa vd ++ tgW cI xa tg ++ n3W cI nad ns)) rfl rfl hl.1 rfl (Nat.le_of_ble_eq_true rfl) dX4_point_8 ⟨Nat.zero_le _, Nat.zero_le _⟩ (fun H locs hP hD hS => ?_)
    refine W.eq (g2 := F0 m 11 ls [.int (yB r3)]) rfl ?_
    refine lv_if_ne (tgt := 16) hx hb dX4_point_11 (by decide) (fun h4 => ?_) (fun h4 => ?_)
    · have h4 := yB_1 h4
      have hf := yBt h4 hf
      obtain ⟨nk, hc_nk, h_nk, he_nk⟩ : ∃ k : Nat, node.toNatClampNeg = k ∧ k < 3 ∧ node = nI k := (px_isNode_nat ‹_ = px_isNode node› ‹_ = true›)
      have hf_nk := yn_e hc_nk hf
      subst he_nk
      have hf := hf_nk
      obtain ⟨rn, hc_rn, h_rn, he_rn⟩ : ∃ k : Nat, rf.toNatClampNeg = k ∧ k < 4 ∧ rf = nI k := (px_isOwn_nat ‹_ = px_isOwnReference rf› ‹_ = true›)
      have hf_rn := yn_e hc_rn hf
      subst he_rn
      have hf := hf_rn
      obtain ⟨hP, hD⟩ := xW_to1 h_nk hP hD
      have hP : va_P D vwCl (xcW xa sa ta pa ++ stW cI cJ sa so ++ naW cN xa nad ++ tkW ta tk ++ pkW cI pa pk ++ vdW cI xa vd ++ tgW cI xa tg ++ ndW cI (nad nk) (ns nk) ++ n2W cI nad nk ns) _ := hP
      have hD : va_D A (xcW xa sa ta pa ++ stW cI cJ sa so ++ naW cN xa nad ++ tkW ta tk ++ pkW cI pa pk ++ vdW cI xa vd ++ tgW cI xa tg ++ ndW cI (nad nk) (ns nk) ++ n2W cI nad nk ns) := hD
      refine lv_aload_n hx hb dX4_point_16 rfl (lv_at hl 0 rfl) ?_
      refine va_get (D := D) (ci := 4) (v := .ref (xa 1)) (C := RX4) (T := TX4) (N := 6) hx hb hts (yy_tl inX4) hown hK hP 0 rfl rfl 1 (by decide) (hw _ wq_147) (fun _ h9 => h9) rfl dX4_point_17 ?_
      refine lv_iload_n hx hb dX4_point_20 rfl (lv_at hl 1 rfl) ?_
      refine yr_aldq hx hb hK hP 7 3 (j := nk) (b := nad nk 0) rfl rfl rfl (by omega) (by decide) (na_at (by omega)) dX4_point_21 ?_
      refine lv_astore (lv' := [(4, .ref (nad nk 0)), (0, .ref (xa 0)), (1, .int (nI nk)), (2, .int (nI rn)), (3, .int cm)]) hx hb dX4_point_22 hl (by decide) rfl (fun ls hl => ?_)
      refine lv_aload hx hb dX4_point_24 (lv_at hl 0 rfl) ?_
      obtain ⟨r5, er5⟩ : ∃ r, r = nd_isUp (ns nk) := ⟨_, rfl⟩
      have hf := yb_e er5 hf
      refine yz_callV (As := []) (rest := []) ⟨hx, hb, hml, hown, hts⟩ (c_nd_isUp l D cI cJ cZ cN (nad nk) (ns nk)  r5 er5) ⟨callB_of 0 hts (yy_good wq_175) rfl rfl rfl (hw _ wq_36) (hw _ wq_172) (by decide +kernel) ⟨Nat.le_of_ble_eq_true rfl, Nat.le_of_ble_eq_true rfl⟩, hw _ wq_173, hw _ wq_174⟩ hK hN hP hD hS hA [15, 16, 17] rfl (by decide) rfl 18 rfl (w2 := (xcW xa sa ta pa ++ stW cI cJ sa so ++ naW cN xa nad ++ tkW ta tk ++ pkW cI pa pk ++ vdW cI xa vd ++ tgW cI xa tg ++ ndW cI (nad nk) (ns nk) ++ n2W cI nad nk ns)) rfl 15 rfl rfl rfl hl.1 rfl (Nat.le_of_ble_eq_true rfl) dX4_point_26 ⟨Nat.zero_le _, Nat.zero_le _⟩ (fun H locs hP hD hS => ?_)
      refine W.eq (g2 := F0 m 29 ls [.int (yB r5)]) rfl ?_
      refine lv_if_ne (tgt := 35) hx hb dX4_point_29 (by decide) (fun h6 => ?_) (fun h6 => ?_)
      · have h6 := yB_1 h6
        have hf := yBt h6 hf
        refine lv_aload_n hx hb dX4_point_35 rfl (lv_at hl 1 rfl) ?_
        refine lv_aload hx hb dX4_point_36 (lv_at hl 0 rfl) ?_
        refine lv_iload_n hx hb dX4_point_38 rfl (lv_at hl 4 rfl) ?_
        obtain ⟨r7, er7⟩ : ∃ r, r = px_isCommitOrAbsent cm so (ns nk) := ⟨_, rfl⟩
        have hf := yb_e er7 hf
        refine yz_callV (As := [.ref (nad nk 0), .int cm]) (rest := []) ⟨hx, hb, hml, hown, hts⟩ (c_px_isCommitOrAbsent l D cI cJ cZ cN xa sa ta pa (nad nk) cm so (ns nk) (by (try dsimp only) <;> omega) r7 er7) ⟨callB_of 2 hts (yy_good wq_246) rfl rfl rfl (hw _ wq_34) (hw _ wq_243) (by decide +kernel) ⟨Nat.le_of_ble_eq_true rfl, Nat.le_of_ble_eq_true rfl⟩, hw _ wq_245, hw _ wq_4⟩ hK hN hP hD hS hA [0, 1, 2, 3, 4, 5, 6, 15, 16, 17] rfl (by decide) rfl 18 rfl (w2 := (xcW xa sa ta pa ++ stW cI cJ sa so ++ naW cN xa nad ++ tkW ta tk ++ pkW cI pa pk ++ vdW cI xa vd ++ tgW cI xa tg ++ ndW cI (nad nk) (ns nk) ++ n2W cI nad nk ns)) rfl 0 rfl rfl rfl hl.1 rfl (Nat.le_of_ble_eq_true rfl) dX4_point_39 ⟨Nat.zero_le _, Nat.zero_le _⟩ (fun H locs hP hD hS => ?_)
        refine W.eq (g2 := F0 m 42 ls [.int (yB r7)]) rfl ?_
        refine lv_if_ne (tgt := 47) hx hb dX4_point_42 (by decide) (fun h8 => ?_) (fun h8 => ?_)
        · have h8 := yB_1 h8
          have hf := yBt h8 hf
          refine lv_aload hx hb dX4_point_47 (lv_at hl 0 rfl) ?_
          refine lv_iload_n hx hb dX4_point_49 rfl (lv_at hl 3 rfl) ?_
          obtain ⟨r9, er9⟩ : ∃ r, r = nd_valueOf (nI rn) (ns nk) := ⟨_, rfl⟩
          have hf := yb_e er9 hf
          refine yz_callV (As := [.int (nI rn)]) (rest := []) ⟨hx, hb, hml, hown, hts⟩ (c_nd_valueOf l D cI cJ cZ cN (nad nk) (nI rn) (ns nk)  r9 er9) ⟨callB_of 1 hts (yy_good wq_242) rfl rfl rfl (hw _ wq_36) (hw _ wq_239) (by decide +kernel) ⟨Nat.le_of_ble_eq_true rfl, Nat.le_of_ble_eq_true rfl⟩, hw _ wq_240, hw _ wq_241⟩ hK hN hP hD hS hA [15, 16, 17] rfl (by decide) rfl 18 rfl (w2 := (xcW xa sa ta pa ++ stW cI cJ sa so ++ naW cN xa nad ++ tkW ta tk ++ pkW cI pa pk ++ vdW cI xa vd ++ tgW cI xa tg ++ ndW cI (nad nk) (ns nk) ++ n2W cI nad nk ns)) rfl 15 rfl rfl rfl hl.1 rfl (Nat.le_of_ble_eq_true rfl) dX4_point_50 ⟨Nat.zero_le _, Nat.zero_le _⟩ (fun H locs hP hD hS => ?_)
          refine W.eq (g2 := F0 m 53 ls [.int r9]) rfl ?_
          refine lv_iload_n hx hb dX4_point_53 rfl (lv_at hl 4 rfl) ?_
          refine lv_icmp_ne (tgt := 59) hx hb dX4_point_54 (by decide) (fun h10 => ?_) (fun h10 => ?_)
          · have hf := yf h10 hf
            refine lv_aload_n hx hb dX4_point_59 rfl (lv_at hl 1 rfl) ?_
            refine lv_iload_n hx hb dX4_point_60 rfl (lv_at hl 3 rfl) ?_
            refine lv_iload_n hx hb dX4_point_61 rfl (lv_at hl 4 rfl) ?_
            obtain ⟨r11, er11⟩ : ∃ r, r = px_aimAtOne rn cm tg := ⟨_, rfl⟩
            have hf := yb_e er11 hf
            refine yz_callV (As := [.int (nI rn), .int cm]) (rest := []) ⟨hx, hb, hml, hown, hts⟩ (c_px_aimAtOne l D cI cJ cZ cN xa sa ta pa rn cm tg (by (try dsimp only) <;> omega) r11 er11) ⟨callB_of 2 hts (yy_good wq_250) rfl rfl rfl (hw _ wq_34) (hw _ wq_247) (by decide +kernel) ⟨Nat.le_of_ble_eq_true rfl, Nat.le_of_ble_eq_true rfl⟩, hw _ wq_249, hw _ wq_5⟩ hK hN hP hD hS hA [0, 14] rfl (by decide) rfl 15 rfl (w2 := (xcW xa sa ta pa ++ stW cI cJ sa so ++ naW cN xa nad ++ tkW ta tk ++ pkW cI pa pk ++ vdW cI xa vd ++ tgW cI xa r11 ++ ndW cI (nad nk) (ns nk) ++ n2W cI nad nk ns)) rfl 0 rfl rfl rfl hl.1 rfl (Nat.le_of_ble_eq_true rfl) dX4_point_62 ⟨Nat.zero_le _, Nat.zero_le _⟩ (fun H locs hP hD hS => ?_)
            refine W.eq (g2 := F0 m 65 ls []) rfl ?_
            refine lv_aload hx hb dX4_point_65 (lv_at hl 0 rfl) ?_
            refine lv_aload_n hx hb dX4_point_67 rfl (lv_at hl 1 rfl) ?_
            refine va_get (D := D) (ci := 4) (v := .ref (xa 3)) (C := RX4) (T := TX4) (N := 6) hx hb hts (yy_tl inX4) hown hK hP 0 rfl rfl 5 (by decide) (hw _ wq_151) (fun _ h9 => h9) rfl dX4_point_68 ?_
            obtain ⟨r12, er12⟩ : ∃ r, r = nd_transact (ns nk) r11 := ⟨_, rfl⟩
            have hf := yb_e er12 hf
            refine yz_callV (As := [.ref (xa 3)]) (rest := []) ⟨hx, hb, hml, hown, hts⟩ (c_nd_transact l D cI cJ cZ cN (nad nk) xa (ns nk) r11  r12 er12) ⟨callB_of 1 hts (yy_good wq_258) rfl rfl rfl (hw _ wq_36) (hw _ wq_255) (by decide +kernel) ⟨Nat.le_of_ble_eq_true rfl, Nat.le_of_ble_eq_true rfl⟩, hw _ wq_256, hw _ wq_257⟩ hK hN hP hD hS hA [15, 16, 17, 14] rfl (by decide) rfl 18 rfl (w2 := (xcW xa sa ta pa ++ stW cI cJ sa so ++ naW cN xa nad ++ tkW ta tk ++ pkW cI pa pk ++ vdW cI xa vd ++ tgW cI xa r11 ++ ndW cI (nad nk) r12.2 ++ n2W cI nad nk ns)) rfl 15 rfl rfl rfl hl.1 rfl (Nat.le_of_ble_eq_true rfl) dX4_point_71 ⟨Nat.zero_le _, Nat.zero_le _⟩ (fun H locs hP hD hS => ?_)
            refine W.eq (g2 := F0 m 74 ls [.int (yB r12.1)]) rfl ?_
            refine lv_if_eq (tgt := 81) hx hb dX4_point_74 (by decide) (fun h13 => ?_) (fun h13 => ?_)
            · have h13 := yB_0.mp h13
              have hf := yBf h13 hf
              refine lv_bipush (v := (-2)) hx hb dX4_point_81 (by decide) ?_
              have hP := xW_of1_1 h_nk hP
              subst hf
              exact yy_iret (v := (-2)) hx hb hr hP hK hS hlocks dX4_point_83
            · have h13 := yB_1 h13
              have hf := yBt h13 hf
              refine lv_iconst (v := 1) hx hb dX4_point_77 (by decide) ?_
              refine lv_goto (tgt := 83) hx hb dX4_point_78 (by decide) ?_
              have hP := xW_of1_1 h_nk hP
              subst hf
              exact yy_iret (v := 1) hx hb hr hP hK hS hlocks dX4_point_83
          · have hf := yt h10 hf
            refine lv_iconst (v := 0) hx hb dX4_point_57 (by decide) ?_
            have hP := xW_of1_0 h_nk hP
            subst hf
            exact yy_iret (v := 0) hx hb hr hP hK hS hlocks dX4_point_58
        · have h8 := yB_0.mp h8
          have hf := yBf h8 hf
          refine lv_iconst (v := (-1)) hx hb dX4_point_45 (by decide) ?_
          have hP := xW_of1_0 h_nk hP
          subst hf
          exact yy_iret (v := (-1)) hx hb hr hP hK hS hlocks dX4_point_46
      · have h6 := yB_0.mp h6
        have hf := yBf h6 hf
        refine lv_bipush (v := (-2)) hx hb dX4_point_32 (by decide) ?_
        have hP := xW_of1_0 h_nk hP
        subst hf
        exact yy_iret (v := (-2)) hx hb hr hP hK hS hlocks dX4_point_34
    · have h4 := yB_0.mp h4
      have hf := yBf h4 hf
      refine lv_iconst (v := (-1)) hx hb dX4_point_14 (by decide) ?_
      subst hf
      exact yy_iret (v := (-1)) hx hb hr hP hK hS hlocks dX4_point_15
