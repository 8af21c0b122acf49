set_option maxHeartbeats 4000000 in
set_option maxRecDepth 100000 in
theorem c_x_commit (l : Launch) (D : va_G) (cI cJ cZ cN : ClassId) (xa : Nat → Nat) (sa : Nat → Nat) (ta : Nat → Nat) (pa : Nat → Nat) (nad : Nat → Nat → Nat) (node : Int32) (rf : Int32) (tree : Int32) (other : Int32) (so : SS) (tk : TS) (pk : PS) (vd : (Nat → Int32)) (tg : (Nat → Int32)) (ns : (Nat → NS)) (hs : so.2.2.2.2.2 ≤ 60) (hp : pk.2.2.2.2.1 ≤ 60) (res : Int32 × SS × (Nat → Int32) × (Nat → NS)) (hf : res = x_commit node rf tree other so tg ns) : yy_Met l yX4_commit wsX4_commit { frames := 4, cells := 0, slots := 0, locals := 95 } D vwCl (yT cI cJ cZ cN) [.ref (xa 0), .int node, .int rf, .int tree, .int other] (xcW xa sa ta pa ++ stW cI cJ sa so ++ naW cN xa nad ++ tkW ta tk ++ pkW cI pa pk ++ vdW cI xa vd ++ tgW cI xa tg ++ n3W cI nad ns) (some (.int res.1)) (xcW xa sa ta pa ++ stW cI cJ sa res.2.1 ++ naW cN xa nad ++ tkW ta tk ++ pkW cI pa pk ++ vdW cI xa vd ++ tgW cI xa res.2.2.1 ++ n3W cI nad res.2.2.2) := by
  intro sz
  refine Met.ofW (cc := cX4_commit) (maxL := 8) (ret := (some .int)) (by decide) rfl ?_
  intro p e s m args below meth c s₁ B hml hv
  obtain ⟨rfl, hsz, hP, hK, hD0, hN⟩ := hv
  have hx := B.exec
  have hb := B.bytes
  have hr := B.returns
  have hts := atoms_spec (ws := wsX4_commit) B.pre
  have hw : ∀ w ∈ yW, w.before _ s = true := fun w h => hts w (List.mem_cons_of_mem _ h)
  have hown : s.vm.findClass RX4 = some m.cls := findClass_of_methodNamed B.named
  have hlocks := B.notSynchronized
  subst hsz
  have hD := hD0.self (sz := s.heap.size)
  generalize hAe : va_A (xcW xa sa ta pa ++ stW cI cJ sa so ++ naW cN xa nad ++ tkW ta tk ++ pkW cI pa pk ++ vdW cI xa vd ++ tgW cI xa tg ++ n3W cI nad ns) s.heap.size = A at hD ⊢
  have hA : ∀ q : Nat, s.heap.size ≤ q → A q := fun q h => by rw [← hAe]; exact Or.inr h
  have hS : va_S A s.heap s.heap [] := va_S.rf
  have hl := lv_entry ([.ref (xa 0), .int node, .int rf, .int tree, .int other]) (n := 8) (Nat.le_of_ble_eq_true rfl)
  rw [lg_entry_eq]
  generalize (lg_sl ([.ref (xa 0), .int node, .int rf, .int tree, .int other]) ++ List.replicate (8 - (lg_sl ([.ref (xa 0), .int node, .int rf, .int tree, .int other])).length) Slot.unset).toArray = ls at hl ⊢
  have hl : lv_has ls 8 [(0, .ref (xa 0)), (1, .int node), (2, .int rf), (3, .int tree), (4, .int other)] := hl
  rw [x_commit] at hf
  refine lv_iload_n hx hb dX4_commit_0 rfl (lv_at hl 1 rfl) ?_
  obtain ⟨r1, er1⟩ : ∃ r, r = px_isNode node := ⟨_, rfl⟩
  have hf := yb_e er1 hf
  refine yz_callS (As := [.int node]) (rest := []) ⟨hx, hb, hml, hown, hts⟩ (c_px_isNode l D cI cJ cZ cN node  r1 er1) ⟨callB_of 1 hts (yy_good wq_171) rfl rfl rfl (hw _ wq_34) (hw _ wq_169) (by decide +kernel) ⟨Nat.le_of_ble_eq_true rfl, Nat.le_of_ble_eq_true rfl⟩, hw _ wq_170⟩ hK hN hP hD hS hA [] rfl (by decide) rfl 0 rfl (w2 := (xcW xa sa ta pa ++ stW cI cJ sa so ++ naW cN xa nad ++ tkW ta tk ++ pkW cI pa pk ++ vdW cI xa vd ++ tgW cI xa tg ++ n3W cI nad ns)) rfl rfl hl.1 rfl (Nat.le_of_ble_eq_true rfl) dX4_commit_1 ⟨Nat.zero_le _, Nat.zero_le _⟩ (fun H locs hP hD hS => ?_)
  refine W.eq (g2 := F0 m 4 ls [.int (yB r1)]) rfl ?_
  refine lv_if_eq (tgt := 14) hx hb dX4_commit_4 (by decide) (fun h2 => ?_) (fun h2 => ?_)
  · have h2 := yB_0.mp h2
    have hf := yBf h2 hf
    refine lv_iconst (v := (-1)) hx hb dX4_commit_14 (by decide) ?_
    subst hf
    exact yy_iret (v := (-1)) hx hb hr hP hK hS hlocks dX4_commit_15
  · have h2 := yB_1 h2
    have hf := yBt h2 hf
    refine lv_iload_n hx hb dX4_commit_7 rfl (lv_at hl 2 rfl) ?_
    obtain ⟨r3, er3⟩ : ∃ r, r = px_isOwnReference rf := ⟨_, rfl⟩
    have hf := yb_e er3 hf
    refine yz_callS (As := [.int rf]) (rest := []) ⟨hx, hb, hml, hown, hts⟩ (c_px_isOwnReference l D cI cJ cZ cN rf  r3 er3) ⟨callB_of 1 hts (yy_good wq_238) rfl rfl rfl (hw _ wq_34) (hw _ wq_236) (by decide +kernel) ⟨Nat.le_of_ble_eq_true rfl, Nat.le_of_ble_eq_true rfl⟩, hw _ wq_237⟩ hK hN hP hD hS hA [] rfl (by decide) rfl 0 rfl (w2 := (xcW xa sa ta pa ++ stW cI cJ sa so ++ naW cN xa nad ++ tkW ta tk ++ pkW cI pa pk ++ vdW cI xa vd ++ tgW cI xa tg ++ n3W cI nad ns)) rfl rfl hl.1 rfl (Nat.le_of_ble_eq_true rfl) dX4_commit_8 ⟨Nat.zero_le _, Nat.zero_le _⟩ (fun H locs hP hD hS => ?_)
    refine W.eq (g2 := F0 m 11 ls [.int (yB r3)]) rfl ?_
    refine lv_if_ne (tgt := 16) hx hb dX4_commit_11 (by decide) (fun h4 => ?_) (fun h4 => ?_)
    · have h4 := yB_1 h4
      have hf := yBt h4 hf
      obtain ⟨nk, hc_nk, h_nk, he_nk⟩ : ∃ k : Nat, node.toNatClampNeg = k ∧ k < 3 ∧ node = nI k := (px_isNode_nat ‹_ = px_isNode node› ‹_ = true›)
      have hf_nk := yn_e hc_nk hf
      subst he_nk
      have hf := hf_nk
      obtain ⟨rn, hc_rn, h_rn, he_rn⟩ : ∃ k : Nat, rf.toNatClampNeg = k ∧ k < 4 ∧ rf = nI k := (px_isOwn_nat ‹_ = px_isOwnReference rf› ‹_ = true›)
      have hf_rn := yn_e hc_rn hf
      subst he_rn
      have hf := hf_rn
      obtain ⟨hP, hD⟩ := xW_to1 h_nk hP hD
      have hP : va_P D vwCl (xcW xa sa ta pa ++ stW cI cJ sa so ++ naW cN xa nad ++ tkW ta tk ++ pkW cI pa pk ++ vdW cI xa vd ++ tgW cI xa tg ++ ndW cI (nad nk) (ns nk) ++ n2W cI nad nk ns) _ := hP
      have hD : va_D A (xcW xa sa ta pa ++ stW cI cJ sa so ++ naW cN xa nad ++ tkW ta tk ++ pkW cI pa pk ++ vdW cI xa vd ++ tgW cI xa tg ++ ndW cI (nad nk) (ns nk) ++ n2W cI nad nk ns) := hD
      refine lv_aload_n hx hb dX4_commit_16 rfl (lv_at hl 0 rfl) ?_
      refine va_get (D := D) (ci := 4) (v := .ref (xa 1)) (C := RX4) (T := TX4) (N := 6) hx hb hts (yy_tl inX4) hown hK hP 0 rfl rfl 1 (by decide) (hw _ wq_147) (fun _ h9 => h9) rfl dX4_commit_17 ?_
      refine lv_iload_n hx hb dX4_commit_20 rfl (lv_at hl 1 rfl) ?_
      refine yr_aldq hx hb hK hP 7 3 (j := nk) (b := nad nk 0) rfl rfl rfl (by omega) (by decide) (na_at (by omega)) dX4_commit_21 ?_
      refine lv_astore (lv' := [(5, .ref (nad nk 0)), (0, .ref (xa 0)), (1, .int (nI nk)), (2, .int (nI rn)), (3, .int tree), (4, .int other)]) hx hb dX4_commit_22 hl (by decide) rfl (fun ls hl => ?_)
      refine lv_aload hx hb dX4_commit_24 (lv_at hl 0 rfl) ?_
      obtain ⟨r5, er5⟩ : ∃ r, r = nd_isUp (ns nk) := ⟨_, rfl⟩
      have hf := yb_e er5 hf
      refine yz_callV (As := []) (rest := []) ⟨hx, hb, hml, hown, hts⟩ (c_nd_isUp l D cI cJ cZ cN (nad nk) (ns nk)  r5 er5) ⟨callB_of 0 hts (yy_good wq_175) rfl rfl rfl (hw _ wq_36) (hw _ wq_172) (by decide +kernel) ⟨Nat.le_of_ble_eq_true rfl, Nat.le_of_ble_eq_true rfl⟩, hw _ wq_173, hw _ wq_174⟩ hK hN hP hD hS hA [15, 16, 17] rfl (by decide) rfl 18 rfl (w2 := (xcW xa sa ta pa ++ stW cI cJ sa so ++ naW cN xa nad ++ tkW ta tk ++ pkW cI pa pk ++ vdW cI xa vd ++ tgW cI xa tg ++ ndW cI (nad nk) (ns nk) ++ n2W cI nad nk ns)) rfl 15 rfl rfl rfl hl.1 rfl (Nat.le_of_ble_eq_true rfl) dX4_commit_26 ⟨Nat.zero_le _, Nat.zero_le _⟩ (fun H locs hP hD hS => ?_)
      refine W.eq (g2 := F0 m 29 ls [.int (yB r5)]) rfl ?_
      refine lv_if_ne (tgt := 35) hx hb dX4_commit_29 (by decide) (fun h6 => ?_) (fun h6 => ?_)
      · have h6 := yB_1 h6
        have hf := yBt h6 hf
        refine lv_aload hx hb dX4_commit_35 (lv_at hl 0 rfl) ?_
        refine lv_iload_n hx hb dX4_commit_37 rfl (lv_at hl 3 rfl) ?_
        obtain ⟨r7, er7⟩ : ∃ r, r = nd_valueOf (nI rn) (ns nk) := ⟨_, rfl⟩
        have hf := yb_e er7 hf
        refine yz_callV (As := [.int (nI rn)]) (rest := []) ⟨hx, hb, hml, hown, hts⟩ (c_nd_valueOf l D cI cJ cZ cN (nad nk) (nI rn) (ns nk)  r7 er7) ⟨callB_of 1 hts (yy_good wq_242) rfl rfl rfl (hw _ wq_36) (hw _ wq_239) (by decide +kernel) ⟨Nat.le_of_ble_eq_true rfl, Nat.le_of_ble_eq_true rfl⟩, hw _ wq_240, hw _ wq_241⟩ hK hN hP hD hS hA [15, 16, 17] rfl (by decide) rfl 18 rfl (w2 := (xcW xa sa ta pa ++ stW cI cJ sa so ++ naW cN xa nad ++ tkW ta tk ++ pkW cI pa pk ++ vdW cI xa vd ++ tgW cI xa tg ++ ndW cI (nad nk) (ns nk) ++ n2W cI nad nk ns)) rfl 15 rfl rfl rfl hl.1 rfl (Nat.le_of_ble_eq_true rfl) dX4_commit_38 ⟨Nat.zero_le _, Nat.zero_le _⟩ (fun H locs hP hD hS => ?_)
        refine W.eq (g2 := F0 m 41 ls [.int r7]) rfl ?_
        refine lv_istore (lv' := [(6, .int r7), (5, .ref (nad nk 0)), (0, .ref (xa 0)), (1, .int (nI nk)), (2, .int (nI rn)), (3, .int tree), (4, .int other)]) hx hb dX4_commit_41 hl (by decide) rfl (fun ls hl => ?_)
        refine lv_aload_n hx hb dX4_commit_43 rfl (lv_at hl 2 rfl) ?_
        refine lv_aload hx hb dX4_commit_44 (lv_at hl 1 rfl) ?_
        refine lv_iload_n hx hb dX4_commit_46 rfl (lv_at hl 5 rfl) ?_
        refine lv_iconst (v := 1) hx hb dX4_commit_47 (by decide) ?_
        obtain ⟨r8, er8⟩ : ∃ r, r = px_holdsKind tree 1 so (ns nk) := ⟨_, rfl⟩
        have hf := yb_e er8 hf
        refine yz_callV (As := [.ref (nad nk 0), .int tree, .int 1]) (rest := []) ⟨hx, hb, hml, hown, hts⟩ (c_px_holdsKind l D cI cJ cZ cN xa sa ta pa (nad nk) tree 1 so (ns nk) (by (try dsimp only) <;> omega) r8 er8) ⟨callB_of 3 hts (yy_good wq_227) rfl rfl rfl (hw _ wq_34) (hw _ wq_224) (by decide +kernel) ⟨Nat.le_of_ble_eq_true rfl, Nat.le_of_ble_eq_true rfl⟩, hw _ wq_226, hw _ wq_3⟩ hK hN hP hD hS hA [0, 1, 2, 3, 4, 5, 6, 15, 16, 17] rfl (by decide) rfl 18 rfl (w2 := (xcW xa sa ta pa ++ stW cI cJ sa so ++ naW cN xa nad ++ tkW ta tk ++ pkW cI pa pk ++ vdW cI xa vd ++ tgW cI xa tg ++ ndW cI (nad nk) (ns nk) ++ n2W cI nad nk ns)) rfl 0 rfl rfl rfl hl.1 rfl (Nat.le_of_ble_eq_true rfl) dX4_commit_48 ⟨Nat.zero_le _, Nat.zero_le _⟩ (fun H locs hP hD hS => ?_)
        refine W.eq (g2 := F0 m 51 ls [.int (yB r8)]) rfl ?_
        refine lv_if_eq (tgt := 65) hx hb dX4_commit_51 (by decide) (fun h9 => ?_) (fun h9 => ?_)
        · have h9 := yB_0.mp h9
          have hf := yBf h9 hf
          refine lv_iconst (v := (-1)) hx hb dX4_commit_65 (by decide) ?_
          have hP := xW_of1_0 h_nk hP
          subst hf
          exact yy_iret (v := (-1)) hx hb hr hP hK hS hlocks dX4_commit_66
        · have h9 := yB_1 h9
          have hf := yBt h9 hf
          refine lv_aload_n hx hb dX4_commit_54 rfl (lv_at hl 2 rfl) ?_
          refine lv_aload hx hb dX4_commit_55 (lv_at hl 1 rfl) ?_
          refine lv_iload hx hb dX4_commit_57 (lv_at hl 6 rfl) ?_
          obtain ⟨r10, er10⟩ : ∃ r, r = px_isCommitOrAbsent other so (ns nk) := ⟨_, rfl⟩
          have hf := yb_e er10 hf
          refine yz_callV (As := [.ref (nad nk 0), .int other]) (rest := []) ⟨hx, hb, hml, hown, hts⟩ (c_px_isCommitOrAbsent l D cI cJ cZ cN xa sa ta pa (nad nk) other so (ns nk) (by (try dsimp only) <;> omega) r10 er10) ⟨callB_of 2 hts (yy_good wq_246) rfl rfl rfl (hw _ wq_34) (hw _ wq_243) (by decide +kernel) ⟨Nat.le_of_ble_eq_true rfl, Nat.le_of_ble_eq_true rfl⟩, hw _ wq_245, hw _ wq_4⟩ hK hN hP hD hS hA [0, 1, 2, 3, 4, 5, 6, 15, 16, 17] rfl (by decide) rfl 18 rfl (w2 := (xcW xa sa ta pa ++ stW cI cJ sa so ++ naW cN xa nad ++ tkW ta tk ++ pkW cI pa pk ++ vdW cI xa vd ++ tgW cI xa tg ++ ndW cI (nad nk) (ns nk) ++ n2W cI nad nk ns)) rfl 0 rfl rfl rfl hl.1 rfl (Nat.le_of_ble_eq_true rfl) dX4_commit_59 ⟨Nat.zero_le _, Nat.zero_le _⟩ (fun H locs hP hD hS => ?_)
          refine W.eq (g2 := F0 m 62 ls [.int (yB r10)]) rfl ?_
          refine lv_if_ne (tgt := 67) hx hb dX4_commit_62 (by decide) (fun h11 => ?_) (fun h11 => ?_)
          · have h11 := yB_1 h11
            have hf := yBt h11 hf
            refine lv_iload hx hb dX4_commit_67 (lv_at hl 6 rfl) ?_
            refine lv_iconst (v := (-1)) hx hb dX4_commit_69 (by decide) ?_
            refine lv_icmp_eq (tgt := 82) hx hb dX4_commit_70 (by decide) (fun h12 => ?_) (fun h12 => ?_)
            · have hf := yt h12 hf
              refine lv_iload hx hb dX4_commit_82 (lv_at hl 0 rfl) ?_
              refine lv_iconst (v := (-1)) hx hb dX4_commit_84 (by decide) ?_
              refine lv_icmp_ne (tgt := 102) hx hb dX4_commit_85 (by decide) (fun h13 => ?_) (fun h13 => ?_)
              · have hf := yf h13 hf
                refine lv_aload_n hx hb dX4_commit_102 rfl (lv_at hl 2 rfl) ?_
                refine lv_aload hx hb dX4_commit_103 (lv_at hl 1 rfl) ?_
                refine lv_iconst (v := 2) hx hb dX4_commit_105 (by decide) ?_
                refine lv_iload_n hx hb dX4_commit_106 rfl (lv_at hl 5 rfl) ?_
                refine lv_iload hx hb dX4_commit_107 (lv_at hl 0 rfl) ?_
                refine lv_iload hx hb dX4_commit_109 (lv_at hl 6 rfl) ?_
                obtain ⟨r14, er14⟩ : ∃ r, r = px_writeObject 2 tree r7 other so (ns nk) := ⟨_, rfl⟩
                have hf := yb_e er14 hf
                refine yz_callV (As := [.ref (nad nk 0), .int 2, .int tree, .int r7, .int other]) (rest := []) ⟨hx, hb, hml, hown, hts⟩ (c_px_writeObject l D cI cJ cZ cN xa sa ta pa (nad nk) 2 tree r7 other so (ns nk) (by (try dsimp only) <;> omega) r14 er14) ⟨callB_of 5 hts (yy_good wq_179) rfl rfl rfl (hw _ wq_34) (hw _ wq_176) (by decide +kernel) ⟨Nat.le_of_ble_eq_true rfl, Nat.le_of_ble_eq_true rfl⟩, hw _ wq_178, hw _ wq_0⟩ hK hN hP hD hS hA [0, 1, 2, 3, 4, 5, 6, 15, 16, 17] rfl (by decide) rfl 18 rfl (w2 := (xcW xa sa ta pa ++ stW cI cJ sa r14.2.1 ++ naW cN xa nad ++ tkW ta tk ++ pkW cI pa pk ++ vdW cI xa vd ++ tgW cI xa tg ++ ndW cI (nad nk) r14.2.2 ++ n2W cI nad nk ns)) rfl 0 rfl rfl rfl hl.1 rfl (Nat.le_of_ble_eq_true rfl) dX4_commit_111 ⟨Nat.zero_le _, Nat.zero_le _⟩ (fun H locs hP hD hS => ?_)
                refine W.eq (g2 := F0 m 114 ls [.int r14.1]) rfl ?_
                refine lv_istore (lv' := [(7, .int r14.1), (6, .int r7), (5, .ref (nad nk 0)), (0, .ref (xa 0)), (1, .int (nI nk)), (2, .int (nI rn)), (3, .int tree), (4, .int other)]) hx hb dX4_commit_114 hl (by decide) rfl (fun ls hl => ?_)
                refine lv_iload hx hb dX4_commit_116 (lv_at hl 0 rfl) ?_
                refine lv_if_ge (tgt := 124) hx hb dX4_commit_118 (by decide) (fun h15 => ?_) (fun h15 => ?_)
                · have hf := yt h15 hf
                  refine lv_aload_n hx hb dX4_commit_124 rfl (lv_at hl 3 rfl) ?_
                  refine lv_iload_n hx hb dX4_commit_125 rfl (lv_at hl 5 rfl) ?_
                  refine lv_iload hx hb dX4_commit_126 (lv_at hl 0 rfl) ?_
                  obtain ⟨r16, er16⟩ : ∃ r, r = px_aimAtOne rn r14.1 tg := ⟨_, rfl⟩
                  have hf := yb_e er16 hf
                  refine yz_callV (As := [.int (nI rn), .int r14.1]) (rest := []) ⟨hx, hb, hml, hown, hts⟩ (c_px_aimAtOne l D cI cJ cZ cN xa sa ta pa rn r14.1 tg (by (try dsimp only) <;> omega) r16 er16) ⟨callB_of 2 hts (yy_good wq_250) rfl rfl rfl (hw _ wq_34) (hw _ wq_247) (by decide +kernel) ⟨Nat.le_of_ble_eq_true rfl, Nat.le_of_ble_eq_true rfl⟩, hw _ wq_249, hw _ wq_5⟩ hK hN hP hD hS hA [0, 14] rfl (by decide) rfl 15 rfl (w2 := (xcW xa sa ta pa ++ stW cI cJ sa r14.2.1 ++ naW cN xa nad ++ tkW ta tk ++ pkW cI pa pk ++ vdW cI xa vd ++ tgW cI xa r16 ++ ndW cI (nad nk) r14.2.2 ++ n2W cI nad nk ns)) rfl 0 rfl rfl rfl hl.1 rfl (Nat.le_of_ble_eq_true rfl) dX4_commit_128 ⟨Nat.zero_le _, Nat.zero_le _⟩ (fun H locs hP hD hS => ?_)
                  refine W.eq (g2 := F0 m 131 ls []) rfl ?_
                  refine lv_aload hx hb dX4_commit_131 (lv_at hl 2 rfl) ?_
                  refine lv_aload_n hx hb dX4_commit_133 rfl (lv_at hl 3 rfl) ?_
                  refine va_get (D := D) (ci := 4) (v := .ref (xa 3)) (C := RX4) (T := TX4) (N := 6) hx hb hts (yy_tl inX4) hown hK hP 0 rfl rfl 5 (by decide) (hw _ wq_151) (fun _ h9 => h9) rfl dX4_commit_134 ?_
                  obtain ⟨r17, er17⟩ : ∃ r, r = nd_transact r14.2.2 r16 := ⟨_, rfl⟩
                  have hf := yb_e er17 hf
                  refine yz_callV (As := [.ref (xa 3)]) (rest := []) ⟨hx, hb, hml, hown, hts⟩ (c_nd_transact l D cI cJ cZ cN (nad nk) xa r14.2.2 r16  r17 er17) ⟨callB_of 1 hts (yy_good wq_258) rfl rfl rfl (hw _ wq_36) (hw _ wq_255) (by decide +kernel) ⟨Nat.le_of_ble_eq_true rfl, Nat.le_of_ble_eq_true rfl⟩, hw _ wq_256, hw _ wq_257⟩ hK hN hP hD hS hA [15, 16, 17, 14] rfl (by decide) rfl 18 rfl (w2 := (xcW xa sa ta pa ++ stW cI cJ sa r14.2.1 ++ naW cN xa nad ++ tkW ta tk ++ pkW cI pa pk ++ vdW cI xa vd ++ tgW cI xa r16 ++ ndW cI (nad nk) r17.2 ++ n2W cI nad nk ns)) rfl 15 rfl rfl rfl hl.1 rfl (Nat.le_of_ble_eq_true rfl) dX4_commit_137 ⟨Nat.zero_le _, Nat.zero_le _⟩ (fun H locs hP hD hS => ?_)
                  refine W.eq (g2 := F0 m 140 ls [.int (yB r17.1)]) rfl ?_
                  refine lv_if_eq (tgt := 148) hx hb dX4_commit_140 (by decide) (fun h18 => ?_) (fun h18 => ?_)
                  · have h18 := yB_0.mp h18
                    have hf := yBf h18 hf
                    refine lv_bipush (v := (-2)) hx hb dX4_commit_148 (by decide) ?_
                    have hP := xW_of1_1 h_nk hP
                    subst hf
                    exact yy_iret (v := (-2)) hx hb hr hP hK hS hlocks dX4_commit_150
                  · have h18 := yB_1 h18
                    have hf := yBt h18 hf
                    refine lv_iload hx hb dX4_commit_143 (lv_at hl 0 rfl) ?_
                    refine lv_goto (tgt := 150) hx hb dX4_commit_145 (by decide) ?_
                    have hP := xW_of1_1 h_nk hP
                    subst hf
                    exact yy_iret (v := r14.1) hx hb hr hP hK hS hlocks dX4_commit_150
                · have hf := yf h15 hf
                  refine lv_iload hx hb dX4_commit_121 (lv_at hl 0 rfl) ?_
                  have hP := xW_of1_1 h_nk hP
                  subst hf
                  exact yy_iret (v := r14.1) hx hb hr hP hK hS hlocks dX4_commit_123
              · have hf := yt h13 hf
                refine lv_aload_n hx hb dX4_commit_88 rfl (lv_at hl 2 rfl) ?_
                refine lv_aload hx hb dX4_commit_89 (lv_at hl 1 rfl) ?_
                refine lv_iconst (v := 2) hx hb dX4_commit_91 (by decide) ?_
                refine lv_iload_n hx hb dX4_commit_92 rfl (lv_at hl 5 rfl) ?_
                refine lv_iload hx hb dX4_commit_93 (lv_at hl 6 rfl) ?_
                refine lv_iconst (v := (-1)) hx hb dX4_commit_95 (by decide) ?_
                obtain ⟨r19, er19⟩ : ∃ r, r = px_writeObject 2 tree other (-1) so (ns nk) := ⟨_, rfl⟩
                have hf := yb_e er19 hf
                refine yz_callV (As := [.ref (nad nk 0), .int 2, .int tree, .int other, .int (-1)]) (rest := []) ⟨hx, hb, hml, hown, hts⟩ (c_px_writeObject l D cI cJ cZ cN xa sa ta pa (nad nk) 2 tree other (-1) so (ns nk) (by (try dsimp only) <;> omega) r19 er19) ⟨callB_of 5 hts (yy_good wq_179) rfl rfl rfl (hw _ wq_34) (hw _ wq_176) (by decide +kernel) ⟨Nat.le_of_ble_eq_true rfl, Nat.le_of_ble_eq_true rfl⟩, hw _ wq_178, hw _ wq_0⟩ hK hN hP hD hS hA [0, 1, 2, 3, 4, 5, 6, 15, 16, 17] rfl (by decide) rfl 18 rfl (w2 := (xcW xa sa ta pa ++ stW cI cJ sa r19.2.1 ++ naW cN xa nad ++ tkW ta tk ++ pkW cI pa pk ++ vdW cI xa vd ++ tgW cI xa tg ++ ndW cI (nad nk) r19.2.2 ++ n2W cI nad nk ns)) rfl 0 rfl rfl rfl hl.1 rfl (Nat.le_of_ble_eq_true rfl) dX4_commit_96 ⟨Nat.zero_le _, Nat.zero_le _⟩ (fun H locs hP hD hS => ?_)
                refine W.eq (g2 := F0 m 99 ls [.int r19.1]) rfl ?_
                refine lv_goto (tgt := 114) hx hb dX4_commit_99 (by decide) ?_
                refine lv_istore (lv' := [(7, .int r19.1), (6, .int r7), (5, .ref (nad nk 0)), (0, .ref (xa 0)), (1, .int (nI nk)), (2, .int (nI rn)), (3, .int tree), (4, .int other)]) hx hb dX4_commit_114 hl (by decide) rfl (fun ls hl => ?_)
                refine lv_iload hx hb dX4_commit_116 (lv_at hl 0 rfl) ?_
                refine lv_if_ge (tgt := 124) hx hb dX4_commit_118 (by decide) (fun h20 => ?_) (fun h20 => ?_)
                · have hf := yt h20 hf
                  refine lv_aload_n hx hb dX4_commit_124 rfl (lv_at hl 3 rfl) ?_
                  refine lv_iload_n hx hb dX4_commit_125 rfl (lv_at hl 5 rfl) ?_
                  refine lv_iload hx hb dX4_commit_126 (lv_at hl 0 rfl) ?_
                  obtain ⟨r21, er21⟩ : ∃ r, r = px_aimAtOne rn r19.1 tg := ⟨_, rfl⟩
                  have hf := yb_e er21 hf
                  refine yz_callV (As := [.int (nI rn), .int r19.1]) (rest := []) ⟨hx, hb, hml, hown, hts⟩ (c_px_aimAtOne l D cI cJ cZ cN xa sa ta pa rn r19.1 tg (by (try dsimp only) <;> omega) r21 er21) ⟨callB_of 2 hts (yy_good wq_250) rfl rfl rfl (hw _ wq_34) (hw _ wq_247) (by decide +kernel) ⟨Nat.le_of_ble_eq_true rfl, Nat.le_of_ble_eq_true rfl⟩, hw _ wq_249, hw _ wq_5⟩ hK hN hP hD hS hA [0, 14] rfl (by decide) rfl 15 rfl (w2 := (xcW xa sa ta pa ++ stW cI cJ sa r19.2.1 ++ naW cN xa nad ++ tkW ta tk ++ pkW cI pa pk ++ vdW cI xa vd ++ tgW cI xa r21 ++ ndW cI (nad nk) r19.2.2 ++ n2W cI nad nk ns)) rfl 0 rfl rfl rfl hl.1 rfl (Nat.le_of_ble_eq_true rfl) dX4_commit_128 ⟨Nat.zero_le _, Nat.zero_le _⟩ (fun H locs hP hD hS => ?_)
                  refine W.eq (g2 := F0 m 131 ls []) rfl ?_
                  refine lv_aload hx hb dX4_commit_131 (lv_at hl 2 rfl) ?_
                  refine lv_aload_n hx hb dX4_commit_133 rfl (lv_at hl 3 rfl) ?_
                  refine va_get (D := D) (ci := 4) (v := .ref (xa 3)) (C := RX4) (T := TX4) (N := 6) hx hb hts (yy_tl inX4) hown hK hP 0 rfl rfl 5 (by decide) (hw _ wq_151) (fun _ h9 => h9) rfl dX4_commit_134 ?_
                  obtain ⟨r22, er22⟩ : ∃ r, r = nd_transact r19.2.2 r21 := ⟨_, rfl⟩
                  have hf := yb_e er22 hf
                  refine yz_callV (As := [.ref (xa 3)]) (rest := []) ⟨hx, hb, hml, hown, hts⟩ (c_nd_transact l D cI cJ cZ cN (nad nk) xa r19.2.2 r21  r22 er22) ⟨callB_of 1 hts (yy_good wq_258) rfl rfl rfl (hw _ wq_36) (hw _ wq_255) (by decide +kernel) ⟨Nat.le_of_ble_eq_true rfl, Nat.le_of_ble_eq_true rfl⟩, hw _ wq_256, hw _ wq_257⟩ hK hN hP hD hS hA [15, 16, 17, 14] rfl (by decide) rfl 18 rfl (w2 := (xcW xa sa ta pa ++ stW cI cJ sa r19.2.1 ++ naW cN xa nad ++ tkW ta tk ++ pkW cI pa pk ++ vdW cI xa vd ++ tgW cI xa r21 ++ ndW cI (nad nk) r22.2 ++ n2W cI nad nk ns)) rfl 15 rfl rfl rfl hl.1 rfl (Nat.le_of_ble_eq_true rfl) dX4_commit_137 ⟨Nat.zero_le _, Nat.zero_le _⟩ (fun H locs hP hD hS => ?_)
                  refine W.eq (g2 := F0 m 140 ls [.int (yB r22.1)]) rfl ?_
                  refine lv_if_eq (tgt := 148) hx hb dX4_commit_140 (by decide) (fun h23 => ?_) (fun h23 => ?_)
                  · have h23 := yB_0.mp h23
                    have hf := yBf h23 hf
                    refine lv_bipush (v := (-2)) hx hb dX4_commit_148 (by decide) ?_
                    have hP := xW_of1_1 h_nk hP
                    subst hf
                    exact yy_iret (v := (-2)) hx hb hr hP hK hS hlocks dX4_commit_150
                  · have h23 := yB_1 h23
                    have hf := yBt h23 hf
                    refine lv_iload hx hb dX4_commit_143 (lv_at hl 0 rfl) ?_
                    refine lv_goto (tgt := 150) hx hb dX4_commit_145 (by decide) ?_
                    have hP := xW_of1_1 h_nk hP
                    subst hf
                    exact yy_iret (v := r19.1) hx hb hr hP hK hS hlocks dX4_commit_150
                · have hf := yf h20 hf
                  refine lv_iload hx hb dX4_commit_121 (lv_at hl 0 rfl) ?_
                  have hP := xW_of1_1 h_nk hP
                  subst hf
                  exact yy_iret (v := r19.1) hx hb hr hP hK hS hlocks dX4_commit_123
            · have hf := yf h12 hf
              refine lv_iload hx hb dX4_commit_73 (lv_at hl 6 rfl) ?_
              refine lv_iload hx hb dX4_commit_75 (lv_at hl 0 rfl) ?_
              refine lv_icmp_ne (tgt := 82) hx hb dX4_commit_77 (by decide) (fun h24 => ?_) (fun h24 => ?_)
              · have hf := yf h24 hf
                refine lv_iload hx hb dX4_commit_82 (lv_at hl 0 rfl) ?_
                refine lv_iconst (v := (-1)) hx hb dX4_commit_84 (by decide) ?_
                refine lv_icmp_ne (tgt := 102) hx hb dX4_commit_85 (by decide) (fun h25 => ?_) (fun h25 => ?_)
                · have hf := yf h25 hf
                  refine lv_aload_n hx hb dX4_commit_102 rfl (lv_at hl 2 rfl) ?_
                  refine lv_aload hx hb dX4_commit_103 (lv_at hl 1 rfl) ?_
                  refine lv_iconst (v := 2) hx hb dX4_commit_105 (by decide) ?_
                  refine lv_iload_n hx hb dX4_commit_106 rfl (lv_at hl 5 rfl) ?_
                  refine lv_iload hx hb dX4_commit_107 (lv_at hl 0 rfl) ?_
                  refine lv_iload hx hb dX4_commit_109 (lv_at hl 6 rfl) ?_
                  obtain ⟨r26, er26⟩ : ∃ r, r = px_writeObject 2 tree r7 other so (ns nk) := ⟨_, rfl⟩
                  have hf := yb_e er26 hf
                  refine yz_callV (As := [.ref (nad nk 0), .int 2, .int tree, .int r7, .int other]) (rest := []) ⟨hx, hb, hml, hown, hts⟩ (c_px_writeObject l D cI cJ cZ cN xa sa ta pa (nad nk) 2 tree r7 other so (ns nk) (by (try dsimp only) <;> omega) r26 er26) ⟨callB_of 5 hts (yy_good wq_179) rfl rfl rfl (hw _ wq_34) (hw _ wq_176) (by decide +kernel) ⟨Nat.le_of_ble_eq_true rfl, Nat.le_of_ble_eq_true rfl⟩, hw _ wq_178, hw _ wq_0⟩ hK hN hP hD hS hA [0, 1, 2, 3, 4, 5, 6, 15, 16, 17] rfl (by decide) rfl 18 rfl (w2 := (xcW xa sa ta pa ++ stW cI cJ sa r26.2.1 ++ naW cN xa nad ++ tkW ta tk ++ pkW cI pa pk ++ vdW cI xa vd ++ tgW cI xa tg ++ ndW cI (nad nk) r26.2.2 ++ n2W cI nad nk ns)) rfl 0 rfl rfl rfl hl.1 rfl (Nat.le_of_ble_eq_true rfl) dX4_commit_111 ⟨Nat.zero_le _, Nat.zero_le _⟩ (fun H locs hP hD hS => ?_)
                  refine W.eq (g2 := F0 m 114 ls [.int r26.1]) rfl ?_
                  refine lv_istore (lv' := [(7, .int r26.1), (6, .int r7), (5, .ref (nad nk 0)), (0, .ref (xa 0)), (1, .int (nI nk)), (2, .int (nI rn)), (3, .int tree), (4, .int other)]) hx hb dX4_commit_114 hl (by decide) rfl (fun ls hl => ?_)
                  refine lv_iload hx hb dX4_commit_116 (lv_at hl 0 rfl) ?_
                  refine lv_if_ge (tgt := 124) hx hb dX4_commit_118 (by decide) (fun h27 => ?_) (fun h27 => ?_)
                  · have hf := yt h27 hf
                    refine lv_aload_n hx hb dX4_commit_124 rfl (lv_at hl 3 rfl) ?_
                    refine lv_iload_n hx hb dX4_commit_125 rfl (lv_at hl 5 rfl) ?_
                    refine lv_iload hx hb dX4_commit_126 (lv_at hl 0 rfl) ?_
                    obtain ⟨r28, er28⟩ : ∃ r, r = px_aimAtOne rn r26.1 tg := ⟨_, rfl⟩
                    have hf := yb_e er28 hf
                    refine yz_callV (As := [.int (nI rn), .int r26.1]) (rest := []) ⟨hx, hb, hml, hown, hts⟩ (c_px_aimAtOne l D cI cJ cZ cN xa sa ta pa rn r26.1 tg (by (try dsimp only) <;> omega) r28 er28) ⟨callB_of 2 hts (yy_good wq_250) rfl rfl rfl (hw _ wq_34) (hw _ wq_247) (by decide +kernel) ⟨Nat.le_of_ble_eq_true rfl, Nat.le_of_ble_eq_true rfl⟩, hw _ wq_249, hw _ wq_5⟩ hK hN hP hD hS hA [0, 14] rfl (by decide) rfl 15 rfl (w2 := (xcW xa sa ta pa ++ stW cI cJ sa r26.2.1 ++ naW cN xa nad ++ tkW ta tk ++ pkW cI pa pk ++ vdW cI xa vd ++ tgW cI xa r28 ++ ndW cI (nad nk) r26.2.2 ++ n2W cI nad nk ns)) rfl 0 rfl rfl rfl hl.1 rfl (Nat.le_of_ble_eq_true rfl) dX4_commit_128 ⟨Nat.zero_le _, Nat.zero_le _⟩ (fun H locs hP hD hS => ?_)
                    refine W.eq (g2 := F0 m 131 ls []) rfl ?_
                    refine lv_aload hx hb dX4_commit_131 (lv_at hl 2 rfl) ?_
                    refine lv_aload_n hx hb dX4_commit_133 rfl (lv_at hl 3 rfl) ?_
                    refine va_get (D := D) (ci := 4) (v := .ref (xa 3)) (C := RX4) (T := TX4) (N := 6) hx hb hts (yy_tl inX4) hown hK hP 0 rfl rfl 5 (by decide) (hw _ wq_151) (fun _ h9 => h9) rfl dX4_commit_134 ?_
                    obtain ⟨r29, er29⟩ : ∃ r, r = nd_transact r26.2.2 r28 := ⟨_, rfl⟩
                    have hf := yb_e er29 hf
                    refine yz_callV (As := [.ref (xa 3)]) (rest := []) ⟨hx, hb, hml, hown, hts⟩ (c_nd_transact l D cI cJ cZ cN (nad nk) xa r26.2.2 r28  r29 er29) ⟨callB_of 1 hts (yy_good wq_258) rfl rfl rfl (hw _ wq_36) (hw _ wq_255) (by decide +kernel) ⟨Nat.le_of_ble_eq_true rfl, Nat.le_of_ble_eq_true rfl⟩, hw _ wq_256, hw _ wq_257⟩ hK hN hP hD hS hA [15, 16, 17, 14] rfl (by decide) rfl 18 rfl (w2 := (xcW xa sa ta pa ++ stW cI cJ sa r26.2.1 ++ naW cN xa nad ++ tkW ta tk ++ pkW cI pa pk ++ vdW cI xa vd ++ tgW cI xa r28 ++ ndW cI (nad nk) r29.2 ++ n2W cI nad nk ns)) rfl 15 rfl rfl rfl hl.1 rfl (Nat.le_of_ble_eq_true rfl) dX4_commit_137 ⟨Nat.zero_le _, Nat.zero_le _⟩ (fun H locs hP hD hS => ?_)
                    refine W.eq (g2 := F0 m 140 ls [.int (yB r29.1)]) rfl ?_
                    refine lv_if_eq (tgt := 148) hx hb dX4_commit_140 (by decide) (fun h30 => ?_) (fun h30 => ?_)
                    · have h30 := yB_0.mp h30
                      have hf := yBf h30 hf
                      refine lv_bipush (v := (-2)) hx hb dX4_commit_148 (by decide) ?_
                      have hP := xW_of1_1 h_nk hP
                      subst hf
                      exact yy_iret (v := (-2)) hx hb hr hP hK hS hlocks dX4_commit_150
                    · have h30 := yB_1 h30
                      have hf := yBt h30 hf
                      refine lv_iload hx hb dX4_commit_143 (lv_at hl 0 rfl) ?_
                      refine lv_goto (tgt := 150) hx hb dX4_commit_145 (by decide) ?_
                      have hP := xW_of1_1 h_nk hP
                      subst hf
                      exact yy_iret (v := r26.1) hx hb hr hP hK hS hlocks dX4_commit_150
                  · have hf := yf h27 hf
                    refine lv_iload hx hb dX4_commit_121 (lv_at hl 0 rfl) ?_
                    have hP := xW_of1_1 h_nk hP
                    subst hf
                    exact yy_iret (v := r26.1) hx hb hr hP hK hS hlocks dX4_commit_123
                · have hf := yt h25 hf
                  refine lv_aload_n hx hb dX4_commit_88 rfl (lv_at hl 2 rfl) ?_
                  refine lv_aload hx hb dX4_commit_89 (lv_at hl 1 rfl) ?_
                  refine lv_iconst (v := 2) hx hb dX4_commit_91 (by decide) ?_
                  refine lv_iload_n hx hb dX4_commit_92 rfl (lv_at hl 5 rfl) ?_
                  refine lv_iload hx hb dX4_commit_93 (lv_at hl 6 rfl) ?_
                  refine lv_iconst (v := (-1)) hx hb dX4_commit_95 (by decide) ?_
                  obtain ⟨r31, er31⟩ : ∃ r, r = px_writeObject 2 tree other (-1) so (ns nk) := ⟨_, rfl⟩
                  have hf := yb_e er31 hf
                  refine yz_callV (As := [.ref (nad nk 0), .int 2, .int tree, .int other, .int (-1)]) (rest := []) ⟨hx, hb, hml, hown, hts⟩ (c_px_writeObject l D cI cJ cZ cN xa sa ta pa (nad nk) 2 tree other (-1) so (ns nk) (by (try dsimp only) <;> omega) r31 er31) ⟨callB_of 5 hts (yy_good wq_179) rfl rfl rfl (hw _ wq_34) (hw _ wq_176) (by decide +kernel) ⟨Nat.le_of_ble_eq_true rfl, Nat.le_of_ble_eq_true rfl⟩, hw _ wq_178, hw _ wq_0⟩ hK hN hP hD hS hA [0, 1, 2, 3, 4, 5, 6, 15, 16, 17] rfl (by decide) rfl 18 rfl (w2 := (xcW xa sa ta pa ++ stW cI cJ sa r31.2.1 ++ naW cN xa nad ++ tkW ta tk ++ pkW cI pa pk ++ vdW cI xa vd ++ tgW cI xa tg ++ ndW cI (nad nk) r31.2.2 ++ n2W cI nad nk ns)) rfl 0 rfl rfl rfl hl.1 rfl (Nat.le_of_ble_eq_true rfl) dX4_commit_96 ⟨Nat.zero_le _, Nat.zero_le _⟩ (fun H locs hP hD hS => ?_)
                  refine W.eq (g2 := F0 m 99 ls [.int r31.1]) rfl ?_
                  refine lv_goto (tgt := 114) hx hb dX4_commit_99 (by decide) ?_
                  refine lv_istore (lv' := [(7, .int r31.1), (6, .int r7), (5, .ref (nad nk 0)), (0, .ref (xa 0)), (1, .int (nI nk)), (2, .int (nI rn)), (3, .int tree), (4, .int other)]) hx hb dX4_commit_114 hl (by decide) rfl (fun ls hl => ?_)
                  refine lv_iload hx hb dX4_commit_116 (lv_at hl 0 rfl) ?_
                  refine lv_if_ge (tgt := 124) hx hb dX4_commit_118 (by decide) (fun h32 => ?_) (fun h32 => ?_)
                  · have hf := yt h32 hf
                    refine lv_aload_n hx hb dX4_commit_124 rfl (lv_at hl 3 rfl) ?_
                    refine lv_iload_n hx hb dX4_commit_125 rfl (lv_at hl 5 rfl) ?_
                    refine lv_iload hx hb dX4_commit_126 (lv_at hl 0 rfl) ?_
                    obtain ⟨r33, er33⟩ : ∃ r, r = px_aimAtOne rn r31.1 tg := ⟨_, rfl⟩
                    have hf := yb_e er33 hf
                    refine yz_callV (As := [.int (nI rn), .int r31.1]) (rest := []) ⟨hx, hb, hml, hown, hts⟩ (c_px_aimAtOne l D cI cJ cZ cN xa sa ta pa rn r31.1 tg (by (try dsimp only) <;> omega) r33 er33) ⟨callB_of 2 hts (yy_good wq_250) rfl rfl rfl (hw _ wq_34) (hw _ wq_247) (by decide +kernel) ⟨Nat.le_of_ble_eq_true rfl, Nat.le_of_ble_eq_true rfl⟩, hw _ wq_249, hw _ wq_5⟩ hK hN hP hD hS hA [0, 14] rfl (by decide) rfl 15 rfl (w2 := (xcW xa sa ta pa ++ stW cI cJ sa r31.2.1 ++ naW cN xa nad ++ tkW ta tk ++ pkW cI pa pk ++ vdW cI xa vd ++ tgW cI xa r33 ++ ndW cI (nad nk) r31.2.2 ++ n2W cI nad nk ns)) rfl 0 rfl rfl rfl hl.1 rfl (Nat.le_of_ble_eq_true rfl) dX4_commit_128 ⟨Nat.zero_le _, Nat.zero_le _⟩ (fun H locs hP hD hS => ?_)
                    refine W.eq (g2 := F0 m 131 ls []) rfl ?_
                    refine lv_aload hx hb dX4_commit_131 (lv_at hl 2 rfl) ?_
                    refine lv_aload_n hx hb dX4_commit_133 rfl (lv_at hl 3 rfl) ?_
                    refine va_get (D := D) (ci := 4) (v := .ref (xa 3)) (C := RX4) (T := TX4) (N := 6) hx hb hts (yy_tl inX4) hown hK hP 0 rfl rfl 5 (by decide) (hw _ wq_151) (fun _ h9 => h9) rfl dX4_commit_134 ?_
                    obtain ⟨r34, er34⟩ : ∃ r, r = nd_transact r31.2.2 r33 := ⟨_, rfl⟩
                    have hf := yb_e er34 hf
                    refine yz_callV (As := [.ref (xa 3)]) (rest := []) ⟨hx, hb, hml, hown, hts⟩ (c_nd_transact l D cI cJ cZ cN (nad nk) xa r31.2.2 r33  r34 er34) ⟨callB_of 1 hts (yy_good wq_258) rfl rfl rfl (hw _ wq_36) (hw _ wq_255) (by decide +kernel) ⟨Nat.le_of_ble_eq_true rfl, Nat.le_of_ble_eq_true rfl⟩, hw _ wq_256, hw _ wq_257⟩ hK hN hP hD hS hA [15, 16, 17, 14] rfl (by decide) rfl 18 rfl (w2 := (xcW xa sa ta pa ++ stW cI cJ sa r31.2.1 ++ naW cN xa nad ++ tkW ta tk ++ pkW cI pa pk ++ vdW cI xa vd ++ tgW cI xa r33 ++ ndW cI (nad nk) r34.2 ++ n2W cI nad nk ns)) rfl 15 rfl rfl rfl hl.1 rfl (Nat.le_of_ble_eq_true rfl) dX4_commit_137 ⟨Nat.zero_le _, Nat.zero_le _⟩ (fun H locs hP hD hS => ?_)
                    refine W.eq (g2 := F0 m 140 ls [.int (yB r34.1)]) rfl ?_
                    refine lv_if_eq (tgt := 148) hx hb dX4_commit_140 (by decide) (fun h35 => ?_) (fun h35 => ?_)
                    · have h35 := yB_0.mp h35
                      have hf := yBf h35 hf
                      refine lv_bipush (v := (-2)) hx hb dX4_commit_148 (by decide) ?_
                      have hP := xW_of1_1 h_nk hP
                      subst hf
                      exact yy_iret (v := (-2)) hx hb hr hP hK hS hlocks dX4_commit_150
                    · have h35 := yB_1 h35
                      have hf := yBt h35 hf
                      refine lv_iload hx hb dX4_commit_143 (lv_at hl 0 rfl) ?_
                      refine lv_goto (tgt := 150) hx hb dX4_commit_145 (by decide) ?_
                      have hP := xW_of1_1 h_nk hP
                      subst hf
                      exact yy_iret (v := r31.1) hx hb hr hP hK hS hlocks dX4_commit_150
                  · have hf := yf h32 hf
                    refine lv_iload hx hb dX4_commit_121 (lv_at hl 0 rfl) ?_
                    have hP := xW_of1_1 h_nk hP
                    subst hf
                    exact yy_iret (v := r31.1) hx hb hr hP hK hS hlocks dX4_commit_123
              · have hf := yt h24 hf
                refine lv_iconst (v := (-1)) hx hb dX4_commit_80 (by decide) ?_
                have hP := xW_of1_0 h_nk hP
                subst hf
                exact yy_iret (v := (-1)) hx hb hr hP hK hS hlocks dX4_commit_81
          · have h11 := yB_0.mp h11
            have hf := yBf h11 hf
            refine lv_iconst (v := (-1)) hx hb dX4_commit_65 (by decide) ?_
            have hP := xW_of1_0 h_nk hP
            subst hf
            exact yy_iret (v := (-1)) hx hb hr hP hK hS hlocks dX4_commit_66
      · have h6 := yB_0.mp h6
        have hf := yBf h6 hf
        refine lv_bipush (v := (-2)) hx hb dX4_commit_32 (by decide) ?_
        have hP := xW_of1_0 h_nk hP
        subst hf
        exact yy_iret (v := (-2)) hx hb hr hP hK hS hlocks dX4_commit_34
    · have h4 := yB_0.mp h4
      have hf := yBf h4 hf
      refine lv_iconst (v := (-1)) hx hb dX4_commit_14 (by decide) ?_
      subst hf
      exact yy_iret (v := (-1)) hx hb hr hP hK hS hlocks dX4_commit_15
