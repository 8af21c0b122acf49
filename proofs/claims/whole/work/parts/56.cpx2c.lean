set_option maxHeartbeats 4000000 in
set_option maxRecDepth 100000 in
theorem c_x_tree (l : Launch) (D : va_G) (cI cJ cZ cN : ClassId) (xa : Nat → Nat) (sa : Nat → Nat) (ta : Nat → Nat) (pa : Nat → Nat) (nad : Nat → Nat → Nat) (node : Int32) (f1 : Int32) (f2 : Int32) (so : SS) (tk : TS) (pk : PS) (vd : (Nat → Int32)) (tg : (Nat → Int32)) (ns : (Nat → NS)) (hs : so.2.2.2.2.2 ≤ 60) (hp : pk.2.2.2.2.1 ≤ 60) (res : Int32 × SS × (Nat → NS)) (hf : res = x_tree node f1 f2 so ns) : yy_Met l yX4_tree wsX4_tree { frames := 4, cells := 0, slots := 0, locals := 95 } D vwCl (yT cI cJ cZ cN) [.ref (xa 0), .int node, .int f1, .int f2] (xcW xa sa ta pa ++ stW cI cJ sa so ++ naW cN xa nad ++ tkW ta tk ++ pkW cI pa pk ++ vdW cI xa vd ++ tgW cI xa tg ++ n3W cI nad ns) (some (.int res.1)) (xcW xa sa ta pa ++ stW cI cJ sa res.2.1 ++ naW cN xa nad ++ tkW ta tk ++ pkW cI pa pk ++ vdW cI xa vd ++ tgW cI xa tg ++ n3W cI nad res.2.2) := by
  intro sz
  refine Met.ofW (cc := cX4_tree) (maxL := 5) (ret := (some .int)) (by decide) rfl ?_
  intro p e s m args below meth c s₁ B hml hv
  obtain ⟨rfl, hsz, hP, hK, hD0, hN⟩ := hv
  have hx := B.exec
  have hb := B.bytes
  have hr := B.returns
  have hts := atoms_spec (ws := wsX4_tree) B.pre
  have hw : ∀ w ∈ yW, w.before _ s = true := fun w h => hts w (List.mem_cons_of_mem _ h)
  have hown : s.vm.findClass RX4 = some m.cls := findClass_of_methodNamed B.named
  have hlocks := B.notSynchronized
  subst hsz
  have hD := hD0.self (sz := s.heap.size)
  generalize hAe : va_A (xcW xa sa ta pa ++ stW cI cJ sa so ++ naW cN xa nad ++ tkW ta tk ++ pkW cI pa pk ++ vdW cI xa vd ++ tgW cI xa tg ++ n3W cI nad ns) s.heap.size = A at hD ⊢
  have hA : ∀ q : Nat, s.heap.size ≤ q → A q := fun q h => by rw [← hAe]; exact Or.inr h
  have hS : va_S A s.heap s.heap [] := va_S.rf
  have hl := lv_entry ([.ref (xa 0), .int node, .int f1, .int f2]) (n := 5) (Nat.le_of_ble_eq_true rfl)
  rw [lg_entry_eq]
  generalize (lg_sl ([.ref (xa 0), .int node, .int f1, .int f2]) ++ List.replicate (5 - (lg_sl ([.ref (xa 0), .int node, .int f1, .int f2])).length) Slot.unset).toArray = ls at hl ⊢
  have hl : lv_has ls 5 [(0, .ref (xa 0)), (1, .int node), (2, .int f1), (3, .int f2)] := hl
  rw [x_tree] at hf
  refine lv_iload_n hx hb dX4_tree_0 rfl (lv_at hl 1 rfl) ?_
  obtain ⟨r1, er1⟩ : ∃ r, r = px_isNode node := ⟨_, rfl⟩
  have hf := yb_e er1 hf
  refine yz_callS (As := [.int node]) (rest := []) ⟨hx, hb, hml, hown, hts⟩ (c_px_isNode l D cI cJ cZ cN node  r1 er1) ⟨callB_of 1 hts (yy_good wq_171) rfl rfl rfl (hw _ wq_34) (hw _ wq_169) (by decide +kernel) ⟨Nat.le_of_ble_eq_true rfl, Nat.le_of_ble_eq_true rfl⟩, hw _ wq_170⟩ hK hN hP hD hS hA [] rfl (by decide) rfl 0 rfl (w2 := (xcW xa sa ta pa ++ stW cI cJ sa so ++ naW cN xa nad ++ tkW ta tk ++ pkW cI pa pk ++ vdW cI xa vd ++ tgW cI xa tg ++ n3W cI nad ns)) rfl rfl hl.1 rfl (Nat.le_of_ble_eq_true rfl) dX4_tree_1 ⟨Nat.zero_le _, Nat.zero_le _⟩ (fun H locs hP hD hS => ?_)
  refine W.eq (g2 := F0 m 4 ls [.int (yB r1)]) rfl ?_
  refine lv_if_ne (tgt := 9) hx hb dX4_tree_4 (by decide) (fun h2 => ?_) (fun h2 => ?_)
  · have h2 := yB_1 h2
    have hf := yBt h2 hf
    obtain ⟨nk, hc_nk, h_nk, he_nk⟩ : ∃ k : Nat, node.toNatClampNeg = k ∧ k < 3 ∧ node = nI k := (px_isNode_nat ‹_ = px_isNode node› ‹_ = true›)
    have hf_nk := yn_e hc_nk hf
    subst he_nk
    have hf := hf_nk
    obtain ⟨hP, hD⟩ := xW_to1 h_nk hP hD
    have hP : va_P D vwCl (xcW xa sa ta pa ++ stW cI cJ sa so ++ naW cN xa nad ++ tkW ta tk ++ pkW cI pa pk ++ vdW cI xa vd ++ tgW cI xa tg ++ ndW cI (nad nk) (ns nk) ++ n2W cI nad nk ns) _ := hP
    have hD : va_D A (xcW xa sa ta pa ++ stW cI cJ sa so ++ naW cN xa nad ++ tkW ta tk ++ pkW cI pa pk ++ vdW cI xa vd ++ tgW cI xa tg ++ ndW cI (nad nk) (ns nk) ++ n2W cI nad nk ns) := hD
    refine lv_aload_n hx hb dX4_tree_9 rfl (lv_at hl 0 rfl) ?_
    refine va_get (D := D) (ci := 4) (v := .ref (xa 1)) (C := RX4) (T := TX4) (N := 6) hx hb hts (yy_tl inX4) hown hK hP 0 rfl rfl 1 (by decide) (hw _ wq_147) (fun _ h9 => h9) rfl dX4_tree_10 ?_
    refine lv_iload_n hx hb dX4_tree_13 rfl (lv_at hl 1 rfl) ?_
    refine yr_aldq hx hb hK hP 7 3 (j := nk) (b := nad nk 0) rfl rfl rfl (by omega) (by decide) (na_at (by omega)) dX4_tree_14 ?_
    refine lv_astore (lv' := [(4, .ref (nad nk 0)), (0, .ref (xa 0)), (1, .int (nI nk)), (2, .int f1), (3, .int f2)]) hx hb dX4_tree_15 hl (by decide) rfl (fun ls hl => ?_)
    refine lv_aload hx hb dX4_tree_17 (lv_at hl 0 rfl) ?_
    obtain ⟨r3, er3⟩ : ∃ r, r = nd_isUp (ns nk) := ⟨_, rfl⟩
    have hf := yb_e er3 hf
    refine yz_callV (As := []) (rest := []) ⟨hx, hb, hml, hown, hts⟩ (c_nd_isUp l D cI cJ cZ cN (nad nk) (ns nk)  r3 er3) ⟨callB_of 0 hts (yy_good wq_175) rfl rfl rfl (hw _ wq_36) (hw _ wq_172) (by decide +kernel) ⟨Nat.le_of_ble_eq_true rfl, Nat.le_of_ble_eq_true rfl⟩, hw _ wq_173, hw _ wq_174⟩ hK hN hP hD hS hA [15, 16, 17] rfl (by decide) rfl 18 rfl (w2 := (xcW xa sa ta pa ++ stW cI cJ sa so ++ naW cN xa nad ++ tkW ta tk ++ pkW cI pa pk ++ vdW cI xa vd ++ tgW cI xa tg ++ ndW cI (nad nk) (ns nk) ++ n2W cI nad nk ns)) rfl 15 rfl rfl rfl hl.1 rfl (Nat.le_of_ble_eq_true rfl) dX4_tree_19 ⟨Nat.zero_le _, Nat.zero_le _⟩ (fun H locs hP hD hS => ?_)
    refine W.eq (g2 := F0 m 22 ls [.int (yB r3)]) rfl ?_
    refine lv_if_ne (tgt := 28) hx hb dX4_tree_22 (by decide) (fun h4 => ?_) (fun h4 => ?_)
    · have h4 := yB_1 h4
      have hf := yBt h4 hf
      refine lv_aload_n hx hb dX4_tree_28 rfl (lv_at hl 1 rfl) ?_
      refine lv_aload hx hb dX4_tree_29 (lv_at hl 0 rfl) ?_
      refine lv_iload_n hx hb dX4_tree_31 rfl (lv_at hl 3 rfl) ?_
      obtain ⟨r5, er5⟩ : ∃ r, r = px_isEntry f1 so (ns nk) := ⟨_, rfl⟩
      have hf := yb_e er5 hf
      refine yz_callV (As := [.ref (nad nk 0), .int f1]) (rest := []) ⟨hx, hb, hml, hown, hts⟩ (c_px_isEntry l D cI cJ cZ cN xa sa ta pa (nad nk) f1 so (ns nk) (by (try dsimp only) <;> omega) r5 er5) ⟨callB_of 2 hts (yy_good wq_223) rfl rfl rfl (hw _ wq_34) (hw _ wq_220) (by decide +kernel) ⟨Nat.le_of_ble_eq_true rfl, Nat.le_of_ble_eq_true rfl⟩, hw _ wq_222, hw _ wq_2⟩ hK hN hP hD hS hA [0, 1, 2, 3, 4, 5, 6, 15, 16, 17] rfl (by decide) rfl 18 rfl (w2 := (xcW xa sa ta pa ++ stW cI cJ sa so ++ naW cN xa nad ++ tkW ta tk ++ pkW cI pa pk ++ vdW cI xa vd ++ tgW cI xa tg ++ ndW cI (nad nk) (ns nk) ++ n2W cI nad nk ns)) rfl 0 rfl rfl rfl hl.1 rfl (Nat.le_of_ble_eq_true rfl) dX4_tree_32 ⟨Nat.zero_le _, Nat.zero_le _⟩ (fun H locs hP hD hS => ?_)
      refine W.eq (g2 := F0 m 35 ls [.int (yB r5)]) rfl ?_
      refine lv_if_eq (tgt := 53) hx hb dX4_tree_35 (by decide) (fun h6 => ?_) (fun h6 => ?_)
      · have h6 := yB_0.mp h6
        have hf := yBf h6 hf
        refine lv_iconst (v := (-1)) hx hb dX4_tree_53 (by decide) ?_
        have hP := xW_of1_0 h_nk hP
        subst hf
        exact yy_iret (v := (-1)) hx hb hr hP hK hS hlocks dX4_tree_54
      · have h6 := yB_1 h6
        have hf := yBt h6 hf
        refine lv_iload_n hx hb dX4_tree_38 rfl (lv_at hl 4 rfl) ?_
        refine lv_iconst (v := (-1)) hx hb dX4_tree_39 (by decide) ?_
        refine lv_icmp_eq (tgt := 55) hx hb dX4_tree_40 (by decide) (fun h7 => ?_) (fun h7 => ?_)
        · have hf := yt h7 hf
          refine lv_aload_n hx hb dX4_tree_55 rfl (lv_at hl 1 rfl) ?_
          refine lv_aload hx hb dX4_tree_56 (lv_at hl 0 rfl) ?_
          refine lv_iconst (v := 1) hx hb dX4_tree_58 (by decide) ?_
          refine lv_iload_n hx hb dX4_tree_59 rfl (lv_at hl 3 rfl) ?_
          refine lv_iload_n hx hb dX4_tree_60 rfl (lv_at hl 4 rfl) ?_
          refine lv_iconst (v := (-1)) hx hb dX4_tree_61 (by decide) ?_
          obtain ⟨r8, er8⟩ : ∃ r, r = px_writeObject 1 f1 f2 (-1) so (ns nk) := ⟨_, rfl⟩
          have hf := yb_e er8 hf
          refine yz_callV (As := [.ref (nad nk 0), .int 1, .int f1, .int f2, .int (-1)]) (rest := []) ⟨hx, hb, hml, hown, hts⟩ (c_px_writeObject l D cI cJ cZ cN xa sa ta pa (nad nk) 1 f1 f2 (-1) so (ns nk) (by (try dsimp only) <;> omega) r8 er8) ⟨callB_of 5 hts (yy_good wq_179) rfl rfl rfl (hw _ wq_34) (hw _ wq_176) (by decide +kernel) ⟨Nat.le_of_ble_eq_true rfl, Nat.le_of_ble_eq_true rfl⟩, hw _ wq_178, hw _ wq_0⟩ hK hN hP hD hS hA [0, 1, 2, 3, 4, 5, 6, 15, 16, 17] rfl (by decide) rfl 18 rfl (w2 := (xcW xa sa ta pa ++ stW cI cJ sa r8.2.1 ++ naW cN xa nad ++ tkW ta tk ++ pkW cI pa pk ++ vdW cI xa vd ++ tgW cI xa tg ++ ndW cI (nad nk) r8.2.2 ++ n2W cI nad nk ns)) rfl 0 rfl rfl rfl hl.1 rfl (Nat.le_of_ble_eq_true rfl) dX4_tree_62 ⟨Nat.zero_le _, Nat.zero_le _⟩ (fun H locs hP hD hS => ?_)
          refine W.eq (g2 := F0 m 65 ls [.int r8.1]) rfl ?_
          have hP := xW_of1_1 h_nk hP
          subst hf
          exact yy_iret (v := r8.1) hx hb hr hP hK hS hlocks dX4_tree_65
        · have hf := yf h7 hf
          refine lv_aload_n hx hb dX4_tree_43 rfl (lv_at hl 1 rfl) ?_
          refine lv_aload hx hb dX4_tree_44 (lv_at hl 0 rfl) ?_
          refine lv_iload_n hx hb dX4_tree_46 rfl (lv_at hl 4 rfl) ?_
          obtain ⟨r9, er9⟩ : ∃ r, r = px_isEntry f2 so (ns nk) := ⟨_, rfl⟩
          have hf := yb_e er9 hf
          refine yz_callV (As := [.ref (nad nk 0), .int f2]) (rest := []) ⟨hx, hb, hml, hown, hts⟩ (c_px_isEntry l D cI cJ cZ cN xa sa ta pa (nad nk) f2 so (ns nk) (by (try dsimp only) <;> omega) r9 er9) ⟨callB_of 2 hts (yy_good wq_223) rfl rfl rfl (hw _ wq_34) (hw _ wq_220) (by decide +kernel) ⟨Nat.le_of_ble_eq_true rfl, Nat.le_of_ble_eq_true rfl⟩, hw _ wq_222, hw _ wq_2⟩ hK hN hP hD hS hA [0, 1, 2, 3, 4, 5, 6, 15, 16, 17] rfl (by decide) rfl 18 rfl (w2 := (xcW xa sa ta pa ++ stW cI cJ sa so ++ naW cN xa nad ++ tkW ta tk ++ pkW cI pa pk ++ vdW cI xa vd ++ tgW cI xa tg ++ ndW cI (nad nk) (ns nk) ++ n2W cI nad nk ns)) rfl 0 rfl rfl rfl hl.1 rfl (Nat.le_of_ble_eq_true rfl) dX4_tree_47 ⟨Nat.zero_le _, Nat.zero_le _⟩ (fun H locs hP hD hS => ?_)
          refine W.eq (g2 := F0 m 50 ls [.int (yB r9)]) rfl ?_
          refine lv_if_ne (tgt := 55) hx hb dX4_tree_50 (by decide) (fun h10 => ?_) (fun h10 => ?_)
          · have h10 := yB_1 h10
            have hf := yBt h10 hf
            refine lv_aload_n hx hb dX4_tree_55 rfl (lv_at hl 1 rfl) ?_
            refine lv_aload hx hb dX4_tree_56 (lv_at hl 0 rfl) ?_
            refine lv_iconst (v := 1) hx hb dX4_tree_58 (by decide) ?_
            refine lv_iload_n hx hb dX4_tree_59 rfl (lv_at hl 3 rfl) ?_
            refine lv_iload_n hx hb dX4_tree_60 rfl (lv_at hl 4 rfl) ?_
            refine lv_iconst (v := (-1)) hx hb dX4_tree_61 (by decide) ?_
            obtain ⟨r11, er11⟩ : ∃ r, r = px_writeObject 1 f1 f2 (-1) so (ns nk) := ⟨_, rfl⟩
            have hf := yb_e er11 hf
            refine yz_callV (As := [.ref (nad nk 0), .int 1, .int f1, .int f2, .int (-1)]) (rest := []) ⟨hx, hb, hml, hown, hts⟩ (c_px_writeObject l D cI cJ cZ cN xa sa ta pa (nad nk) 1 f1 f2 (-1) so (ns nk) (by (try dsimp only) <;> omega) r11 er11) ⟨callB_of 5 hts (yy_good wq_179) rfl rfl rfl (hw _ wq_34) (hw _ wq_176) (by decide +kernel) ⟨Nat.le_of_ble_eq_true rfl, Nat.le_of_ble_eq_true rfl⟩, hw _ wq_178, hw _ wq_0⟩ hK hN hP hD hS hA [0, 1, 2, 3, 4, 5, 6, 15, 16, 17] rfl (by decide) rfl 18 rfl (w2 := (xcW xa sa ta pa ++ stW cI cJ sa r11.2.1 ++ naW cN xa nad ++ tkW ta tk ++ pkW cI pa pk ++ vdW cI xa vd ++ tgW cI xa tg ++ ndW cI (nad nk) r11.2.2 ++ n2W cI nad nk ns)) rfl 0 rfl rfl rfl hl.1 rfl (Nat.le_of_ble_eq_true rfl) dX4_tree_62 ⟨Nat.zero_le _, Nat.zero_le _⟩ (fun H locs hP hD hS => ?_)
            refine W.eq (g2 := F0 m 65 ls [.int r11.1]) rfl ?_
            have hP := xW_of1_1 h_nk hP
            subst hf
            exact yy_iret (v := r11.1) hx hb hr hP hK hS hlocks dX4_tree_65
          · have h10 := yB_0.mp h10
            have hf := yBf h10 hf
            refine lv_iconst (v := (-1)) hx hb dX4_tree_53 (by decide) ?_
            have hP := xW_of1_0 h_nk hP
            subst hf
            exact yy_iret (v := (-1)) hx hb hr hP hK hS hlocks dX4_tree_54
    · have h4 := yB_0.mp h4
      have hf := yBf h4 hf
      refine lv_bipush (v := (-2)) hx hb dX4_tree_25 (by decide) ?_
      have hP := xW_of1_0 h_nk hP
      subst hf
      exact yy_iret (v := (-2)) hx hb hr hP hK hS hlocks dX4_tree_27
  · have h2 := yB_0.mp h2
    have hf := yBf h2 hf
    refine lv_iconst (v := (-1)) hx hb dX4_tree_7 (by decide) ?_
    subst hf
    exact yy_iret (v := (-1)) hx hb hr hP hK hS hlocks dX4_tree_8
