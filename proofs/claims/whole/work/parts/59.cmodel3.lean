set_option maxHeartbeats 4000000 in
set_option maxRecDepth 100000 in
theorem c_md_blob (l : Launch) (D : va_G) (cI cJ cZ cN : ClassId) (ma : Nat → Nat) (node : Int32) (content : Int32) (mo : MO) (mn : MN) (mw : MW) (mt : MT) (mv : (Nat → Int32)) (mp : MP) (ho : mo.1 ≤ 60) (hp : mp.1 ≤ 60) (res : Int32 × MO × MN) (hf : res = md_blob node content mo mn) : yy_Met l yX5_blob wsX5_blob { frames := 2, cells := 0, slots := 0, locals := 48 } D vwCl (yT cI cJ cZ cN) [.ref (ma 0), .int node, .int content] (mW cI cJ cZ ma mo mn mw mt mv mp) (some (.int res.1)) (mW cI cJ cZ ma res.2.1 res.2.2 mw mt mv mp) := by
  intro sz
  refine Met.ofW (cc := cX5_blob) (maxL := 3) (ret := (some .int)) (by decide) rfl ?_
  intro p e s m args below meth c s₁ B hml hv
  obtain ⟨rfl, hsz, hP, hK, hD0, hN⟩ := hv
  have hx := B.exec
  have hb := B.bytes
  have hr := B.returns
  have hts := atoms_spec (ws := wsX5_blob) B.pre
  have hw : ∀ w ∈ yW, w.before _ s = true := fun w h => hts w (List.mem_cons_of_mem _ h)
  have hown : s.vm.findClass RX5 = some m.cls := findClass_of_methodNamed B.named
  have hlocks := B.notSynchronized
  subst hsz
  have hD := hD0.self (sz := s.heap.size)
  generalize hAe : va_A (mW cI cJ cZ ma mo mn mw mt mv mp) s.heap.size = A at hD ⊢
  have hA : ∀ q : Nat, s.heap.size ≤ q → A q := fun q h => by rw [← hAe]; exact Or.inr h
  have hS : va_S A s.heap s.heap [] := va_S.rf
  have hl := lv_entry ([.ref (ma 0), .int node, .int content]) (n := 3) (Nat.le_of_ble_eq_true rfl)
  rw [lg_entry_eq]
  generalize (lg_sl ([.ref (ma 0), .int node, .int content]) ++ List.replicate (3 - (lg_sl ([.ref (ma 0), .int node, .int content])).length) Slot.unset).toArray = ls at hl ⊢
  have hl : lv_has ls 3 [(0, .ref (ma 0)), (1, .int node), (2, .int content)] := hl
  rw [md_blob] at hf
  refine lv_iload_n hx hb dX5_blob_0 rfl (lv_at hl 1 rfl) ?_
  obtain ⟨r1, er1⟩ : ∃ r, r = md_isNode node := ⟨_, rfl⟩
  have hf := yb_e er1 hf
  refine yz_callS (As := [.int node]) (rest := []) ⟨hx, hb, hml, hown, hts⟩ (c_md_isNode l D cI cJ cZ cN node  r1 er1) ⟨callB_of 1 hts (yy_good wq_568) rfl rfl rfl (hw _ wq_39) (hw _ wq_566) (by decide +kernel) ⟨Nat.le_of_ble_eq_true rfl, Nat.le_of_ble_eq_true rfl⟩, hw _ wq_567⟩ hK hN hP hD hS hA [] rfl (by decide) rfl 0 rfl (w2 := (mW cI cJ cZ ma mo mn mw mt mv mp)) rfl rfl hl.1 rfl (Nat.le_of_ble_eq_true rfl) dX5_blob_1 ⟨Nat.zero_le _, Nat.zero_le _⟩ (fun H locs hP hD hS => ?_)
  refine W.eq (g2 := F0 m 4 ls [.int (yB r1)]) rfl ?_
  refine lv_if_ne (tgt := 9) hx hb dX5_blob_4 (by decide) (fun h2 => ?_) (fun h2 => ?_)
  · have h2 := yB_1 h2
    have hf := yBt h2 hf
    obtain ⟨nk, hc_nk, h_nk, he_nk⟩ : ∃ k : Nat, node.toNatClampNeg = k ∧ k < 3 ∧ node = nI k := (md_isNode_nat ‹_ = md_isNode node› ‹_ = true›)
    have hf_nk := yn_e hc_nk hf
    subst he_nk
    have hf := hf_nk
    refine lv_aload_n hx hb dX5_blob_9 rfl (lv_at hl 0 rfl) ?_
    refine va_get (D := D) (ci := 5) (v := .ref (ma 7)) (C := RX5) (T := TX5) (N := 25) hx hb hts (yy_tl inX5) hown hK hP 0 rfl rfl 7 (by decide) (hw _ wq_492) (fun _ h9 => h9) rfl dX5_blob_10 ?_
    refine lv_iload_n hx hb dX5_blob_13 rfl (lv_at hl 1 rfl) ?_
    refine yr_zaldB hx hb hK hP 7 2 (g := mn.2.2.1) (j := nk) rfl rfl rfl (by omega) (by decide) dX5_blob_14 ?_
    refine lv_if_eq (tgt := 23) hx hb dX5_blob_15 (by decide) (fun h3 => ?_) (fun h3 => ?_)
    · have h3 := yB_0.mp h3
      have hf := yBf h3 hf
      refine lv_aload_n hx hb dX5_blob_23 rfl (lv_at hl 0 rfl) ?_
      refine lv_iload_n hx hb dX5_blob_24 rfl (lv_at hl 1 rfl) ?_
      refine lv_iconst (v := 0) hx hb dX5_blob_25 (by decide) ?_
      refine lv_iload_n hx hb dX5_blob_26 rfl (lv_at hl 2 rfl) ?_
      refine lv_iconst (v := (-1)) hx hb dX5_blob_27 (by decide) ?_
      refine lv_iconst (v := (-1)) hx hb dX5_blob_28 (by decide) ?_
      obtain ⟨r4, er4⟩ : ∃ r, r = md_make nk 0 content (-1) (-1) mo mn := ⟨_, rfl⟩
      have hf := yb_e er4 hf
      refine yz_callV (As := [.int (nI nk), .int 0, .int content, .int (-1), .int (-1)]) (rest := []) ⟨hx, hb, hml, hown, hts⟩ (c_md_make l D cI cJ cZ cN ma nk 0 content (-1) (-1) mo mn mw mt mv mp (by (try dsimp only) <;> omega) (by (try dsimp only) <;> omega) r4 er4) ⟨callB_of 5 hts (yy_good wq_572) rfl rfl rfl (hw _ wq_39) (hw _ wq_569) (by decide +kernel) ⟨Nat.le_of_ble_eq_true rfl, Nat.le_of_ble_eq_true rfl⟩, hw _ wq_571, hw _ wq_16⟩ hK hN hP hD hS hA [0, 1, 2, 3, 4, 5, 6, 7, 8, 9, 10, 11, 12, 13, 14, 15, 16, 17, 18, 19] rfl (by decide) rfl 20 rfl (w2 := (mW cI cJ cZ ma r4.2.1 r4.2.2 mw mt mv mp)) rfl 0 rfl rfl rfl hl.1 rfl (Nat.le_of_ble_eq_true rfl) dX5_blob_29 ⟨Nat.zero_le _, Nat.zero_le _⟩ (fun H locs hP hD hS => ?_)
      refine W.eq (g2 := F0 m 32 ls [.int r4.1]) rfl ?_
      subst hf
      exact yy_iret (v := r4.1) hx hb hr hP hK hS hlocks dX5_blob_32
    · have h3 := yB_1 h3
      have hf := yBt h3 hf
      refine lv_bipush (v := (-2)) hx hb dX5_blob_18 (by decide) ?_
      refine lv_goto (tgt := 32) hx hb dX5_blob_20 (by decide) ?_
      subst hf
      exact yy_iret (v := (-2)) hx hb hr hP hK hS hlocks dX5_blob_32
  · have h2 := yB_0.mp h2
    have hf := yBf h2 hf
    refine lv_iconst (v := (-1)) hx hb dX5_blob_7 (by decide) ?_
    subst hf
    exact yy_iret (v := (-1)) hx hb hr hP hK hS hlocks dX5_blob_8

set_option maxHeartbeats 4000000 in
set_option maxRecDepth 100000 in
theorem c_md_tree (l : Launch) (D : va_G) (cI cJ cZ cN : ClassId) (ma : Nat → Nat) (node : Int32) (f1 : Int32) (f2 : Int32) (mo : MO) (mn : MN) (mw : MW) (mt : MT) (mv : (Nat → Int32)) (mp : MP) (ho : mo.1 ≤ 60) (hp : mp.1 ≤ 60) (res : Int32 × MO × MN) (hf : res = md_tree node f1 f2 mo mn) : yy_Met l yX5_tree wsX5_tree { frames := 2, cells := 0, slots := 0, locals := 48 } D vwCl (yT cI cJ cZ cN) [.ref (ma 0), .int node, .int f1, .int f2] (mW cI cJ cZ ma mo mn mw mt mv mp) (some (.int res.1)) (mW cI cJ cZ ma res.2.1 res.2.2 mw mt mv mp) := by
  intro sz
  refine Met.ofW (cc := cX5_tree) (maxL := 4) (ret := (some .int)) (by decide) rfl ?_
  intro p e s m args below meth c s₁ B hml hv
  obtain ⟨rfl, hsz, hP, hK, hD0, hN⟩ := hv
  have hx := B.exec
  have hb := B.bytes
  have hr := B.returns
  have hts := atoms_spec (ws := wsX5_tree) B.pre
  have hw : ∀ w ∈ yW, w.before _ s = true := fun w h => hts w (List.mem_cons_of_mem _ h)
  have hown : s.vm.findClass RX5 = some m.cls := findClass_of_methodNamed B.named
  have hlocks := B.notSynchronized
  subst hsz
  have hD := hD0.self (sz := s.heap.size)
  generalize hAe : va_A (mW cI cJ cZ ma mo mn mw mt mv mp) s.heap.size = A at hD ⊢
  have hA : ∀ q : Nat, s.heap.size ≤ q → A q := fun q h => by rw [← hAe]; exact Or.inr h
  have hS : va_S A s.heap s.heap [] := va_S.rf
  have hl := lv_entry ([.ref (ma 0), .int node, .int f1, .int f2]) (n := 4) (Nat.le_of_ble_eq_true rfl)
  rw [lg_entry_eq]
  generalize (lg_sl ([.ref (ma 0), .int node, .int f1, .int f2]) ++ List.replicate (4 - (lg_sl ([.ref (ma 0), .int node, .int f1, .int f2])).length) Slot.unset).toArray = ls at hl ⊢
  have hl : lv_has ls 4 [(0, .ref (ma 0)), (1, .int node), (2, .int f1), (3, .int f2)] := hl
  rw [md_tree] at hf
  refine lv_iload_n hx hb dX5_tree_0 rfl (lv_at hl 1 rfl) ?_
  obtain ⟨r1, er1⟩ : ∃ r, r = md_isNode node := ⟨_, rfl⟩
  have hf := yb_e er1 hf
  refine yz_callS (As := [.int node]) (rest := []) ⟨hx, hb, hml, hown, hts⟩ (c_md_isNode l D cI cJ cZ cN node  r1 er1) ⟨callB_of 1 hts (yy_good wq_568) rfl rfl rfl (hw _ wq_39) (hw _ wq_566) (by decide +kernel) ⟨Nat.le_of_ble_eq_true rfl, Nat.le_of_ble_eq_true rfl⟩, hw _ wq_567⟩ hK hN hP hD hS hA [] rfl (by decide) rfl 0 rfl (w2 := (mW cI cJ cZ ma mo mn mw mt mv mp)) rfl rfl hl.1 rfl (Nat.le_of_ble_eq_true rfl) dX5_tree_1 ⟨Nat.zero_le _, Nat.zero_le _⟩ (fun H locs hP hD hS => ?_)
  refine W.eq (g2 := F0 m 4 ls [.int (yB r1)]) rfl ?_
  refine lv_if_ne (tgt := 9) hx hb dX5_tree_4 (by decide) (fun h2 => ?_) (fun h2 => ?_)
  · have h2 := yB_1 h2
    have hf := yBt h2 hf
    obtain ⟨nk, hc_nk, h_nk, he_nk⟩ : ∃ k : Nat, node.toNatClampNeg = k ∧ k < 3 ∧ node = nI k := (md_isNode_nat ‹_ = md_isNode node› ‹_ = true›)
    have hf_nk := yn_e hc_nk hf
    subst he_nk
    have hf := hf_nk
    refine lv_aload_n hx hb dX5_tree_9 rfl (lv_at hl 0 rfl) ?_
    refine va_get (D := D) (ci := 5) (v := .ref (ma 7)) (C := RX5) (T := TX5) (N := 25) hx hb hts (yy_tl inX5) hown hK hP 0 rfl rfl 7 (by decide) (hw _ wq_492) (fun _ h9 => h9) rfl dX5_tree_10 ?_
    refine lv_iload_n hx hb dX5_tree_13 rfl (lv_at hl 1 rfl) ?_
    refine yr_zaldB hx hb hK hP 7 2 (g := mn.2.2.1) (j := nk) rfl rfl rfl (by omega) (by decide) dX5_tree_14 ?_
    refine lv_if_eq (tgt := 21) hx hb dX5_tree_15 (by decide) (fun h3 => ?_) (fun h3 => ?_)
    · have h3 := yB_0.mp h3
      have hf := yBf h3 hf
      refine lv_aload_n hx hb dX5_tree_21 rfl (lv_at hl 0 rfl) ?_
      refine lv_iload_n hx hb dX5_tree_22 rfl (lv_at hl 1 rfl) ?_
      refine lv_iload_n hx hb dX5_tree_23 rfl (lv_at hl 2 rfl) ?_
      obtain ⟨r4, er4⟩ : ∃ r, r = md_entry nk f1 mo mn := ⟨_, rfl⟩
      have hf := yb_e er4 hf
      refine yz_callV (As := [.int (nI nk), .int f1]) (rest := []) ⟨hx, hb, hml, hown, hts⟩ (c_md_entry l D cI cJ cZ cN ma nk f1 mo mn mw mt mv mp (by (try dsimp only) <;> omega) (by (try dsimp only) <;> omega) r4 er4) ⟨callB_of 2 hts (yy_good wq_588) rfl rfl rfl (hw _ wq_39) (hw _ wq_585) (by decide +kernel) ⟨Nat.le_of_ble_eq_true rfl, Nat.le_of_ble_eq_true rfl⟩, hw _ wq_587, hw _ wq_19⟩ hK hN hP hD hS hA [0, 1, 2, 3, 4, 5, 6, 7, 8, 9, 10, 11, 12, 13, 14, 15, 16, 17, 18, 19] rfl (by decide) rfl 20 rfl (w2 := (mW cI cJ cZ ma mo mn mw mt mv mp)) rfl 0 rfl rfl rfl hl.1 rfl (Nat.le_of_ble_eq_true rfl) dX5_tree_24 ⟨Nat.zero_le _, Nat.zero_le _⟩ (fun H locs hP hD hS => ?_)
      refine W.eq (g2 := F0 m 27 ls [.int (yB r4)]) rfl ?_
      refine lv_if_eq (tgt := 44) hx hb dX5_tree_27 (by decide) (fun h5 => ?_) (fun h5 => ?_)
      · have h5 := yB_0.mp h5
        have hf := yBf h5 hf
        refine lv_iconst (v := (-1)) hx hb dX5_tree_44 (by decide) ?_
        subst hf
        exact yy_iret (v := (-1)) hx hb hr hP hK hS hlocks dX5_tree_45
      · have h5 := yB_1 h5
        have hf := yBt h5 hf
        refine lv_iload_n hx hb dX5_tree_30 rfl (lv_at hl 3 rfl) ?_
        refine lv_iconst (v := (-1)) hx hb dX5_tree_31 (by decide) ?_
        refine lv_icmp_eq (tgt := 46) hx hb dX5_tree_32 (by decide) (fun h6 => ?_) (fun h6 => ?_)
        · have hf := yt h6 hf
          refine lv_aload_n hx hb dX5_tree_46 rfl (lv_at hl 0 rfl) ?_
          refine lv_iload_n hx hb dX5_tree_47 rfl (lv_at hl 1 rfl) ?_
          refine lv_iconst (v := 1) hx hb dX5_tree_48 (by decide) ?_
          refine lv_iload_n hx hb dX5_tree_49 rfl (lv_at hl 2 rfl) ?_
          refine lv_iload_n hx hb dX5_tree_50 rfl (lv_at hl 3 rfl) ?_
          refine lv_iconst (v := (-1)) hx hb dX5_tree_51 (by decide) ?_
          obtain ⟨r7, er7⟩ : ∃ r, r = md_make nk 1 f1 f2 (-1) mo mn := ⟨_, rfl⟩
          have hf := yb_e er7 hf
          refine yz_callV (As := [.int (nI nk), .int 1, .int f1, .int f2, .int (-1)]) (rest := []) ⟨hx, hb, hml, hown, hts⟩ (c_md_make l D cI cJ cZ cN ma nk 1 f1 f2 (-1) mo mn mw mt mv mp (by (try dsimp only) <;> omega) (by (try dsimp only) <;> omega) r7 er7) ⟨callB_of 5 hts (yy_good wq_572) rfl rfl rfl (hw _ wq_39) (hw _ wq_569) (by decide +kernel) ⟨Nat.le_of_ble_eq_true rfl, Nat.le_of_ble_eq_true rfl⟩, hw _ wq_571, hw _ wq_16⟩ hK hN hP hD hS hA [0, 1, 2, 3, 4, 5, 6, 7, 8, 9, 10, 11, 12, 13, 14, 15, 16, 17, 18, 19] rfl (by decide) rfl 20 rfl (w2 := (mW cI cJ cZ ma r7.2.1 r7.2.2 mw mt mv mp)) rfl 0 rfl rfl rfl hl.1 rfl (Nat.le_of_ble_eq_true rfl) dX5_tree_52 ⟨Nat.zero_le _, Nat.zero_le _⟩ (fun H locs hP hD hS => ?_)
          refine W.eq (g2 := F0 m 55 ls [.int r7.1]) rfl ?_
          subst hf
          exact yy_iret (v := r7.1) hx hb hr hP hK hS hlocks dX5_tree_55
        · have hf := yf h6 hf
          refine lv_aload_n hx hb dX5_tree_35 rfl (lv_at hl 0 rfl) ?_
          refine lv_iload_n hx hb dX5_tree_36 rfl (lv_at hl 1 rfl) ?_
          refine lv_iload_n hx hb dX5_tree_37 rfl (lv_at hl 3 rfl) ?_
          obtain ⟨r8, er8⟩ : ∃ r, r = md_entry nk f2 mo mn := ⟨_, rfl⟩
          have hf := yb_e er8 hf
          refine yz_callV (As := [.int (nI nk), .int f2]) (rest := []) ⟨hx, hb, hml, hown, hts⟩ (c_md_entry l D cI cJ cZ cN ma nk f2 mo mn mw mt mv mp (by (try dsimp only) <;> omega) (by (try dsimp only) <;> omega) r8 er8) ⟨callB_of 2 hts (yy_good wq_588) rfl rfl rfl (hw _ wq_39) (hw _ wq_585) (by decide +kernel) ⟨Nat.le_of_ble_eq_true rfl, Nat.le_of_ble_eq_true rfl⟩, hw _ wq_587, hw _ wq_19⟩ hK hN hP hD hS hA [0, 1, 2, 3, 4, 5, 6, 7, 8, 9, 10, 11, 12, 13, 14, 15, 16, 17, 18, 19] rfl (by decide) rfl 20 rfl (w2 := (mW cI cJ cZ ma mo mn mw mt mv mp)) rfl 0 rfl rfl rfl hl.1 rfl (Nat.le_of_ble_eq_true rfl) dX5_tree_38 ⟨Nat.zero_le _, Nat.zero_le _⟩ (fun H locs hP hD hS => ?_)
          refine W.eq (g2 := F0 m 41 ls [.int (yB r8)]) rfl ?_
          refine lv_if_ne (tgt := 46) hx hb dX5_tree_41 (by decide) (fun h9 => ?_) (fun h9 => ?_)
          · have h9 := yB_1 h9
            have hf := yBt h9 hf
            refine lv_aload_n hx hb dX5_tree_46 rfl (lv_at hl 0 rfl) ?_
            refine lv_iload_n hx hb dX5_tree_47 rfl (lv_at hl 1 rfl) ?_
            refine lv_iconst (v := 1) hx hb dX5_tree_48 (by decide) ?_
            refine lv_iload_n hx hb dX5_tree_49 rfl (lv_at hl 2 rfl) ?_
            refine lv_iload_n hx hb dX5_tree_50 rfl (lv_at hl 3 rfl) ?_
            refine lv_iconst (v := (-1)) hx hb dX5_tree_51 (by decide) ?_
            obtain ⟨r10, er10⟩ : ∃ r, r = md_make nk 1 f1 f2 (-1) mo mn := ⟨_, rfl⟩
            have hf := yb_e er10 hf
            refine yz_callV (As := [.int (nI nk), .int 1, .int f1, .int f2, .int (-1)]) (rest := []) ⟨hx, hb, hml, hown, hts⟩ (c_md_make l D cI cJ cZ cN ma nk 1 f1 f2 (-1) mo mn mw mt mv mp (by (try dsimp only) <;> omega) (by (try dsimp only) <;> omega) r10 er10) ⟨callB_of 5 hts (yy_good wq_572) rfl rfl rfl (hw _ wq_39) (hw _ wq_569) (by decide +kernel) ⟨Nat.le_of_ble_eq_true rfl, Nat.le_of_ble_eq_true rfl⟩, hw _ wq_571, hw _ wq_16⟩ hK hN hP hD hS hA [0, 1, 2, 3, 4, 5, 6, 7, 8, 9, 10, 11, 12, 13, 14, 15, 16, 17, 18, 19] rfl (by decide) rfl 20 rfl (w2 := (mW cI cJ cZ ma r10.2.1 r10.2.2 mw mt mv mp)) rfl 0 rfl rfl rfl hl.1 rfl (Nat.le_of_ble_eq_true rfl) dX5_tree_52 ⟨Nat.zero_le _, Nat.zero_le _⟩ (fun H locs hP hD hS => ?_)
            refine W.eq (g2 := F0 m 55 ls [.int r10.1]) rfl ?_
            subst hf
            exact yy_iret (v := r10.1) hx hb hr hP hK hS hlocks dX5_tree_55
          · have h9 := yB_0.mp h9
            have hf := yBf h9 hf
            refine lv_iconst (v := (-1)) hx hb dX5_tree_44 (by decide) ?_
            subst hf
            exact yy_iret (v := (-1)) hx hb hr hP hK hS hlocks dX5_tree_45
    · have h3 := yB_1 h3
      have hf := yBt h3 hf
      refine lv_bipush (v := (-2)) hx hb dX5_tree_18 (by decide) ?_
      subst hf
      exact yy_iret (v := (-2)) hx hb hr hP hK hS hlocks dX5_tree_20
  · have h2 := yB_0.mp h2
    have hf := yBf h2 hf
    refine lv_iconst (v := (-1)) hx hb dX5_tree_7 (by decide) ?_
    subst hf
    exact yy_iret (v := (-1)) hx hb hr hP hK hS hlocks dX5_tree_8

set_option maxHeartbeats 4000000 in
set_option maxRecDepth 100000 in
theorem c_md_commit (l : Launch) (D : va_G) (cI cJ cZ cN : ClassId) (ma : Nat → Nat) (node : Int32) (rf : Int32) (tree : Int32) (other : Int32) (mo : MO) (mn : MN) (mw : MW) (mt : MT) (mv : (Nat → Int32)) (mp : MP) (ho : mo.1 ≤ 60) (hp : mp.1 ≤ 60) (res : Int32 × MO × MN × MW) (hf : res = md_commit node rf tree other mo mn mw) : yy_Met l yX5_commit wsX5_commit { frames := 4, cells := 0, slots := 0, locals := 87 } D vwCl (yT cI cJ cZ cN) [.ref (ma 0), .int node, .int rf, .int tree, .int other] (mW cI cJ cZ ma mo mn mw mt mv mp) (some (.int res.1)) (mW cI cJ cZ ma res.2.1 res.2.2.1 res.2.2.2 mt mv mp) := by
  intro sz
  refine Met.ofW (cc := cX5_commit) (maxL := 7) (ret := (some .int)) (by decide) rfl ?_
  intro p e s m args below meth c s₁ B hml hv
  obtain ⟨rfl, hsz, hP, hK, hD0, hN⟩ := hv
  have hx := B.exec
  have hb := B.bytes
  have hr := B.returns
  have hts := atoms_spec (ws := wsX5_commit) B.pre
  have hw : ∀ w ∈ yW, w.before _ s = true := fun w h => hts w (List.mem_cons_of_mem _ h)
  have hown : s.vm.findClass RX5 = some m.cls := findClass_of_methodNamed B.named
  have hlocks := B.notSynchronized
  subst hsz
  have hD := hD0.self (sz := s.heap.size)
  generalize hAe : va_A (mW cI cJ cZ ma mo mn mw mt mv mp) s.heap.size = A at hD ⊢
  have hA : ∀ q : Nat, s.heap.size ≤ q → A q := fun q h => by rw [← hAe]; exact Or.inr h
  have hS : va_S A s.heap s.heap [] := va_S.rf
  have hl := lv_entry ([.ref (ma 0), .int node, .int rf, .int tree, .int other]) (n := 7) (Nat.le_of_ble_eq_true rfl)
  rw [lg_entry_eq]
  generalize (lg_sl ([.ref (ma 0), .int node, .int rf, .int tree, .int other]) ++ List.replicate (7 - (lg_sl ([.ref (ma 0), .int node, .int rf, .int tree, .int other])).length) Slot.unset).toArray = ls at hl ⊢
  have hl : lv_has ls 7 [(0, .ref (ma 0)), (1, .int node), (2, .int rf), (3, .int tree), (4, .int other)] := hl
  rw [md_commit] at hf
  refine lv_iload_n hx hb dX5_commit_0 rfl (lv_at hl 1 rfl) ?_
  obtain ⟨r1, er1⟩ : ∃ r, r = md_isNode node := ⟨_, rfl⟩
  have hf := yb_e er1 hf
  refine yz_callS (As := [.int node]) (rest := []) ⟨hx, hb, hml, hown, hts⟩ (c_md_isNode l D cI cJ cZ cN node  r1 er1) ⟨callB_of 1 hts (yy_good wq_568) rfl rfl rfl (hw _ wq_39) (hw _ wq_566) (by decide +kernel) ⟨Nat.le_of_ble_eq_true rfl, Nat.le_of_ble_eq_true rfl⟩, hw _ wq_567⟩ hK hN hP hD hS hA [] rfl (by decide) rfl 0 rfl (w2 := (mW cI cJ cZ ma mo mn mw mt mv mp)) rfl rfl hl.1 rfl (Nat.le_of_ble_eq_true rfl) dX5_commit_1 ⟨Nat.zero_le _, Nat.zero_le _⟩ (fun H locs hP hD hS => ?_)
  refine W.eq (g2 := F0 m 4 ls [.int (yB r1)]) rfl ?_
  refine lv_if_eq (tgt := 16) hx hb dX5_commit_4 (by decide) (fun h2 => ?_) (fun h2 => ?_)
  · have h2 := yB_0.mp h2
    have hf := yBf h2 hf
    refine lv_iconst (v := (-1)) hx hb dX5_commit_16 (by decide) ?_
    subst hf
    exact yy_iret (v := (-1)) hx hb hr hP hK hS hlocks dX5_commit_17
  · have h2 := yB_1 h2
    have hf := yBt h2 hf
    refine lv_iload_n hx hb dX5_commit_7 rfl (lv_at hl 2 rfl) ?_
    refine lv_if_lt (tgt := 16) hx hb dX5_commit_8 (by decide) (fun h3 => ?_) (fun h3 => ?_)
    · have hf := yt h3 hf
      refine lv_iconst (v := (-1)) hx hb dX5_commit_16 (by decide) ?_
      subst hf
      exact yy_iret (v := (-1)) hx hb hr hP hK hS hlocks dX5_commit_17
    · have hf := yf h3 hf
      refine lv_iload_n hx hb dX5_commit_11 rfl (lv_at hl 2 rfl) ?_
      refine lv_iconst (v := 3) hx hb dX5_commit_12 (by decide) ?_
      refine lv_icmp_le (tgt := 18) hx hb dX5_commit_13 (by decide) (fun h4 => ?_) (fun h4 => ?_)
      · have hf := yt h4 hf
        obtain ⟨nk, hc_nk, h_nk, he_nk⟩ : ∃ k : Nat, node.toNatClampNeg = k ∧ k < 3 ∧ node = nI k := (md_isNode_nat ‹_ = md_isNode node› ‹_ = true›)
        have hf_nk := yn_e hc_nk hf
        subst he_nk
        have hf := hf_nk
        obtain ⟨rn, hc_rn, h_rn, he_rn⟩ : ∃ k : Nat, rf.toNatClampNeg = k ∧ k < 4 ∧ rf = nI k := (yy_nat4 ‹¬ rf < 0› ‹rf ≤ 3›)
        have hf_rn := yn_e hc_rn hf
        subst he_rn
        have hf := hf_rn
        refine lv_aload_n hx hb dX5_commit_18 rfl (lv_at hl 0 rfl) ?_
        refine va_get (D := D) (ci := 5) (v := .ref (ma 7)) (C := RX5) (T := TX5) (N := 25) hx hb hts (yy_tl inX5) hown hK hP 0 rfl rfl 7 (by decide) (hw _ wq_492) (fun _ h9 => h9) rfl dX5_commit_19 ?_
        refine lv_iload_n hx hb dX5_commit_22 rfl (lv_at hl 1 rfl) ?_
        refine yr_zaldB hx hb hK hP 7 2 (g := mn.2.2.1) (j := nk) rfl rfl rfl (by omega) (by decide) dX5_commit_23 ?_
        refine lv_if_eq (tgt := 30) hx hb dX5_commit_24 (by decide) (fun h5 => ?_) (fun h5 => ?_)
        · have h5 := yB_0.mp h5
          have hf := yBf h5 hf
          refine lv_aload_n hx hb dX5_commit_30 rfl (lv_at hl 0 rfl) ?_
          refine va_get (D := D) (ci := 5) (v := .ref (ma 6)) (C := RX5) (T := TX5) (N := 25) hx hb hts (yy_tl inX5) hown hK hP 0 rfl rfl 6 (by decide) (hw _ wq_491) (fun _ h9 => h9) rfl dX5_commit_31 ?_
          refine lv_bipush (v := (nI 8)) hx hb dX5_commit_34 (by decide) ?_
          refine lv_iload_n hx hb dX5_commit_36 rfl (lv_at hl 1 rfl) ?_
          refine yr_imulN hx hb dX5_commit_37 ?_
          refine lv_iload_n hx hb dX5_commit_38 rfl (lv_at hl 2 rfl) ?_
          refine yr_iaddN hx hb dX5_commit_39 ?_
          refine yr_iald hx hb hK hP 6 0 (f := mn.2.1) (j := (8 * nk) + rn) rfl rfl rfl (by omega) (by decide) dX5_commit_40 ?_
          refine lv_iconst (v := 1) hx hb dX5_commit_41 (by decide) ?_
          refine lv_isub hx hb dX5_commit_42 ?_
          refine lv_istore (lv' := [(5, .int ((mn.2.1 ((8 * nk) + rn)) - 1)), (0, .ref (ma 0)), (1, .int (nI nk)), (2, .int (nI rn)), (3, .int tree), (4, .int other)]) hx hb dX5_commit_43 hl (by decide) rfl (fun ls hl => ?_)
          refine lv_aload_n hx hb dX5_commit_45 rfl (lv_at hl 1 rfl) ?_
          refine lv_iload_n hx hb dX5_commit_46 rfl (lv_at hl 2 rfl) ?_
          refine lv_iload_n hx hb dX5_commit_47 rfl (lv_at hl 4 rfl) ?_
          obtain ⟨r6, er6⟩ : ∃ r, r = md_has nk tree mo mn := ⟨_, rfl⟩
          have hf := yb_e er6 hf
          refine yz_callV (As := [.int (nI nk), .int tree]) (rest := []) ⟨hx, hb, hml, hown, hts⟩ (c_md_has l D cI cJ cZ cN ma nk tree mo mn mw mt mv mp (by (try dsimp only) <;> omega) r6 er6) ⟨callB_of 2 hts (yy_good wq_576) rfl rfl rfl (hw _ wq_39) (hw _ wq_573) (by decide +kernel) ⟨Nat.le_of_ble_eq_true rfl, Nat.le_of_ble_eq_true rfl⟩, hw _ wq_575, hw _ wq_17⟩ hK hN hP hD hS hA [0, 1, 2, 3, 4, 5, 6, 7, 8, 9, 10, 11, 12, 13, 14, 15, 16, 17, 18, 19] rfl (by decide) rfl 20 rfl (w2 := (mW cI cJ cZ ma mo mn mw mt mv mp)) rfl 0 rfl rfl rfl hl.1 rfl (Nat.le_of_ble_eq_true rfl) dX5_commit_48 ⟨Nat.zero_le _, Nat.zero_le _⟩ (fun H locs hP hD hS => ?_)
          refine W.eq (g2 := F0 m 51 ls [.int (yB r6)]) rfl ?_
          refine lv_if_eq (tgt := 64) hx hb dX5_commit_51 (by decide) (fun h7 => ?_) (fun h7 => ?_)
          · have h7 := yB_0.mp h7
            have hf := yBf h7 hf
            refine lv_iconst (v := (-1)) hx hb dX5_commit_64 (by decide) ?_
            subst hf
            exact yy_iret (v := (-1)) hx hb hr hP hK hS hlocks dX5_commit_65
          · have h7 := yB_1 h7
            have hf := yBt h7 hf
            refine lv_aload_n hx hb dX5_commit_54 rfl (lv_at hl 1 rfl) ?_
            refine va_get (D := D) (ci := 5) (v := .ref (ma 1)) (C := RX5) (T := TX5) (N := 25) hx hb hts (yy_tl inX5) hown hK hP 0 rfl rfl 1 (by decide) (hw _ wq_486) (fun _ h9 => h9) rfl dX5_commit_55 ?_
            refine lv_iload_n hx hb dX5_commit_58 rfl (lv_at hl 4 rfl) ?_
            refine va_iald hx hb hK hP 1 0 (f := mo.2.1) rfl rfl (md_has_in ‹_ = md_has nk tree _ _› ‹_ = true› ho) dX5_commit_59 ?_
            refine lv_iconst (v := 1) hx hb dX5_commit_60 (by decide) ?_
            refine lv_icmp_eq (tgt := 66) hx hb dX5_commit_61 (by decide) (fun h8 => ?_) (fun h8 => ?_)
            · have hf := yt h8 hf
              refine lv_iload hx hb dX5_commit_66 (lv_at hl 5 rfl) ?_
              refine lv_iconst (v := (-1)) hx hb dX5_commit_68 (by decide) ?_
              refine lv_icmp_eq (tgt := 102) hx hb dX5_commit_69 (by decide) (fun h9 => ?_) (fun h9 => ?_)
              · have hf := yt h9 hf
                refine lv_aload_n hx hb dX5_commit_102 rfl (lv_at hl 1 rfl) ?_
                refine lv_iload_n hx hb dX5_commit_103 rfl (lv_at hl 2 rfl) ?_
                refine lv_iconst (v := 2) hx hb dX5_commit_104 (by decide) ?_
                refine lv_iload_n hx hb dX5_commit_105 rfl (lv_at hl 4 rfl) ?_
                refine lv_iload hx hb dX5_commit_106 (lv_at hl 0 rfl) ?_
                refine lv_if_lt (tgt := 116) hx hb dX5_commit_108 (by decide) (fun h10 => ?_) (fun h10 => ?_)
                · have hf := yt h10 hf
                  refine lv_iload hx hb dX5_commit_116 (lv_at hl 5 rfl) ?_
                  refine lv_iload hx hb dX5_commit_118 (lv_at hl 0 rfl) ?_
                  refine lv_if_lt (tgt := 128) hx hb dX5_commit_120 (by decide) (fun _ => ?_) (fun h => absurd h10 h)
                  refine lv_iconst (v := (-1)) hx hb dX5_commit_128 (by decide) ?_
                  obtain ⟨r12, er12⟩ : ∃ r, r = md_make nk 2 tree other (-1) mo mn := ⟨_, rfl⟩
                  have hf := yb_e er12 hf
                  refine yz_callV (As := [.int (nI nk), .int 2, .int tree, .int other, .int (-1)]) (rest := []) ⟨hx, hb, hml, hown, hts⟩ (c_md_make l D cI cJ cZ cN ma nk 2 tree other (-1) mo mn mw mt mv mp (by (try dsimp only) <;> omega) (by (try dsimp only) <;> omega) r12 er12) ⟨callB_of 5 hts (yy_good wq_572) rfl rfl rfl (hw _ wq_39) (hw _ wq_569) (by decide +kernel) ⟨Nat.le_of_ble_eq_true rfl, Nat.le_of_ble_eq_true rfl⟩, hw _ wq_571, hw _ wq_16⟩ hK hN hP hD hS hA [0, 1, 2, 3, 4, 5, 6, 7, 8, 9, 10, 11, 12, 13, 14, 15, 16, 17, 18, 19] rfl (by decide) rfl 20 rfl (w2 := (mW cI cJ cZ ma r12.2.1 r12.2.2 mw mt mv mp)) rfl 0 rfl rfl rfl hl.1 rfl (Nat.le_of_ble_eq_true rfl) dX5_commit_129 ⟨Nat.zero_le _, Nat.zero_le _⟩ (fun H locs hP hD hS => ?_)
                  refine W.eq (g2 := F0 m 132 ls [.int r12.1]) rfl ?_
                  refine lv_istore (lv' := [(6, .int r12.1), (5, .int ((mn.2.1 ((8 * nk) + rn)) - 1)), (0, .ref (ma 0)), (1, .int (nI nk)), (2, .int (nI rn)), (3, .int tree), (4, .int other)]) hx hb dX5_commit_132 hl (by decide) rfl (fun ls hl => ?_)
                  refine lv_iload hx hb dX5_commit_134 (lv_at hl 0 rfl) ?_
                  refine lv_if_ge (tgt := 142) hx hb dX5_commit_136 (by decide) (fun h13 => ?_) (fun h13 => ?_)
                  · have hf := yt h13 hf
                    refine lv_aload_n hx hb dX5_commit_142 rfl (lv_at hl 2 rfl) ?_
                    refine lv_iconst (v := (nI 0)) hx hb dX5_commit_143 (by decide) ?_
                    refine va_put (D := D) (ci := 5) (v := .int (nI 0)) (ty := .int) (C := RX5) (T := TX5) (N := 25) hx hb hts (yy_tl inX5) tyX5 tyX5_ok nX5 hown hK hP hD hS 0 rfl rfl 13 (by decide) (hw _ wq_498) (fun _ h9 => h9) rfl (by decide +kernel) rfl rfl (Nat.le_of_ble_eq_true rfl) dX5_commit_144 (fun H locs hP hD hS => ?_)
                    have hP : va_P D vwCl (mW cI cJ cZ ma r12.2.1 r12.2.2 (0, mw.2.1, mw.2.2) mt mv mp) H := hP
                    have hD : va_D A (mW cI cJ cZ ma r12.2.1 r12.2.2 (0, mw.2.1, mw.2.2) mt mv mp) := hD
                    refine lv_aload_n hx hb dX5_commit_147 rfl (lv_at hl 2 rfl) ?_
                    refine lv_iload_n hx hb dX5_commit_148 rfl (lv_at hl 4 rfl) ?_
                    refine lv_iload hx hb dX5_commit_149 (lv_at hl 0 rfl) ?_
                    refine lv_iconst (v := 1) hx hb dX5_commit_151 (by decide) ?_
                    refine lv_iadd hx hb dX5_commit_152 ?_
                    obtain ⟨r14, er14⟩ : ∃ r, r = md_wish rn (r12.1 + 1) (0, mw.2.1, mw.2.2) := ⟨_, rfl⟩
                    have hf := yb_e er14 hf
                    refine yz_callV (As := [.int (nI rn), .int (r12.1 + 1)]) (rest := []) ⟨hx, hb, hml, hown, hts⟩ (c_md_wish l D cI cJ cZ cN ma rn (r12.1 + 1) r12.2.1 r12.2.2 (0, mw.2.1, mw.2.2) mt mv mp (by (try dsimp only) <;> omega) (by (try dsimp only) <;> omega) r14 er14) ⟨callB_of 2 hts (yy_good wq_596) rfl rfl rfl (hw _ wq_39) (hw _ wq_593) (by decide +kernel) ⟨Nat.le_of_ble_eq_true rfl, Nat.le_of_ble_eq_true rfl⟩, hw _ wq_595, hw _ wq_20⟩ hK hN hP hD hS hA [0, 1, 2, 3, 4, 5, 6, 7, 8, 9, 10, 11, 12, 13, 14, 15, 16, 17, 18, 19] rfl (by decide) rfl 20 rfl (w2 := (mW cI cJ cZ ma r12.2.1 r12.2.2 r14 mt mv mp)) rfl 0 rfl rfl rfl hl.1 rfl (Nat.le_of_ble_eq_true rfl) dX5_commit_153 ⟨Nat.zero_le _, Nat.zero_le _⟩ (fun H locs hP hD hS => ?_)
                    refine W.eq (g2 := F0 m 156 ls []) rfl ?_
                    refine lv_aload_n hx hb dX5_commit_156 rfl (lv_at hl 2 rfl) ?_
                    refine lv_iload_n hx hb dX5_commit_157 rfl (lv_at hl 3 rfl) ?_
                    obtain ⟨r15, er15⟩ : ∃ r, r = md_transact nk r12.2.2 r14 := ⟨_, rfl⟩
                    have hf := yb_e er15 hf
                    refine yz_callV (As := [.int (nI nk)]) (rest := []) ⟨hx, hb, hml, hown, hts⟩ (c_md_transact l D cI cJ cZ cN ma nk r12.2.1 r12.2.2 r14 mt mv mp (by omega) (by first | omega | exact md_wish_le ‹_ = md_wish _ _ _› (by (try dsimp only) <;> omega)) r15 er15) ⟨callB_of 1 hts (yy_good wq_600) rfl rfl rfl (hw _ wq_39) (hw _ wq_597) (by decide +kernel) ⟨Nat.le_of_ble_eq_true rfl, Nat.le_of_ble_eq_true rfl⟩, hw _ wq_599, hw _ wq_21⟩ hK hN hP hD hS hA [0, 1, 2, 3, 4, 5, 6, 7, 8, 9, 10, 11, 12, 13, 14, 15, 16, 17, 18, 19] rfl (by decide) rfl 20 rfl (w2 := (mW cI cJ cZ ma r12.2.1 r15.2 r14 mt mv mp)) rfl 0 rfl rfl rfl hl.1 rfl (Nat.le_of_ble_eq_true rfl) dX5_commit_158 ⟨Nat.zero_le _, Nat.zero_le _⟩ (fun H locs hP hD hS => ?_)
                    refine W.eq (g2 := F0 m 161 ls [.int (yB r15.1)]) rfl ?_
                    refine lv_if_eq (tgt := 169) hx hb dX5_commit_161 (by decide) (fun h16 => ?_) (fun h16 => ?_)
                    · have h16 := yB_0.mp h16
                      have hf := yBf h16 hf
                      refine lv_bipush (v := (-2)) hx hb dX5_commit_169 (by decide) ?_
                      subst hf
                      exact yy_iret (v := (-2)) hx hb hr hP hK hS hlocks dX5_commit_171
                    · have h16 := yB_1 h16
                      have hf := yBt h16 hf
                      refine lv_iload hx hb dX5_commit_164 (lv_at hl 0 rfl) ?_
                      refine lv_goto (tgt := 171) hx hb dX5_commit_166 (by decide) ?_
                      subst hf
                      exact yy_iret (v := r12.1) hx hb hr hP hK hS hlocks dX5_commit_171
                  · have hf := yf h13 hf
                    refine lv_iload hx hb dX5_commit_139 (lv_at hl 0 rfl) ?_
                    subst hf
                    exact yy_iret (v := r12.1) hx hb hr hP hK hS hlocks dX5_commit_141
                · have hf := yf h10 hf
                  refine lv_iload hx hb dX5_commit_111 (lv_at hl 0 rfl) ?_
                  refine lv_goto (tgt := 118) hx hb dX5_commit_113 (by decide) ?_
                  refine lv_iload hx hb dX5_commit_118 (lv_at hl 0 rfl) ?_
                  refine lv_if_lt (tgt := 128) hx hb dX5_commit_120 (by decide) (fun h => absurd h h10) (fun _ => ?_)
                  refine lv_iload hx hb dX5_commit_123 (lv_at hl 5 rfl) ?_
                  refine lv_goto (tgt := 129) hx hb dX5_commit_125 (by decide) ?_
                  obtain ⟨r18, er18⟩ : ∃ r, r = md_make nk 2 tree ((mn.2.1 ((8 * nk) + rn)) - 1) other mo mn := ⟨_, rfl⟩
                  have hf := yb_e er18 hf
                  refine yz_callV (As := [.int (nI nk), .int 2, .int tree, .int ((mn.2.1 ((8 * nk) + rn)) - 1), .int other]) (rest := []) ⟨hx, hb, hml, hown, hts⟩ (c_md_make l D cI cJ cZ cN ma nk 2 tree ((mn.2.1 ((8 * nk) + rn)) - 1) other mo mn mw mt mv mp (by (try dsimp only) <;> omega) (by (try dsimp only) <;> omega) r18 er18) ⟨callB_of 5 hts (yy_good wq_572) rfl rfl rfl (hw _ wq_39) (hw _ wq_569) (by decide +kernel) ⟨Nat.le_of_ble_eq_true rfl, Nat.le_of_ble_eq_true rfl⟩, hw _ wq_571, hw _ wq_16⟩ hK hN hP hD hS hA [0, 1, 2, 3, 4, 5, 6, 7, 8, 9, 10, 11, 12, 13, 14, 15, 16, 17, 18, 19] rfl (by decide) rfl 20 rfl (w2 := (mW cI cJ cZ ma r18.2.1 r18.2.2 mw mt mv mp)) rfl 0 rfl rfl rfl hl.1 rfl (Nat.le_of_ble_eq_true rfl) dX5_commit_129 ⟨Nat.zero_le _, Nat.zero_le _⟩ (fun H locs hP hD hS => ?_)
                  refine W.eq (g2 := F0 m 132 ls [.int r18.1]) rfl ?_
                  refine lv_istore (lv' := [(6, .int r18.1), (5, .int ((mn.2.1 ((8 * nk) + rn)) - 1)), (0, .ref (ma 0)), (1, .int (nI nk)), (2, .int (nI rn)), (3, .int tree), (4, .int other)]) hx hb dX5_commit_132 hl (by decide) rfl (fun ls hl => ?_)
                  refine lv_iload hx hb dX5_commit_134 (lv_at hl 0 rfl) ?_
                  refine lv_if_ge (tgt := 142) hx hb dX5_commit_136 (by decide) (fun h19 => ?_) (fun h19 => ?_)
                  · have hf := yt h19 hf
                    refine lv_aload_n hx hb dX5_commit_142 rfl (lv_at hl 2 rfl) ?_
                    refine lv_iconst (v := (nI 0)) hx hb dX5_commit_143 (by decide) ?_
                    refine va_put (D := D) (ci := 5) (v := .int (nI 0)) (ty := .int) (C := RX5) (T := TX5) (N := 25) hx hb hts (yy_tl inX5) tyX5 tyX5_ok nX5 hown hK hP hD hS 0 rfl rfl 13 (by decide) (hw _ wq_498) (fun _ h9 => h9) rfl (by decide +kernel) rfl rfl (Nat.le_of_ble_eq_true rfl) dX5_commit_144 (fun H locs hP hD hS => ?_)
                    have hP : va_P D vwCl (mW cI cJ cZ ma r18.2.1 r18.2.2 (0, mw.2.1, mw.2.2) mt mv mp) H := hP
                    have hD : va_D A (mW cI cJ cZ ma r18.2.1 r18.2.2 (0, mw.2.1, mw.2.2) mt mv mp) := hD
                    refine lv_aload_n hx hb dX5_commit_147 rfl (lv_at hl 2 rfl) ?_
                    refine lv_iload_n hx hb dX5_commit_148 rfl (lv_at hl 4 rfl) ?_
                    refine lv_iload hx hb dX5_commit_149 (lv_at hl 0 rfl) ?_
                    refine lv_iconst (v := 1) hx hb dX5_commit_151 (by decide) ?_
                    refine lv_iadd hx hb dX5_commit_152 ?_
                    obtain ⟨r20, er20⟩ : ∃ r, r = md_wish rn (r18.1 + 1) (0, mw.2.1, mw.2.2) := ⟨_, rfl⟩
                    have hf := yb_e er20 hf
                    refine yz_callV (As := [.int (nI rn), .int (r18.1 + 1)]) (rest := []) ⟨hx, hb, hml, hown, hts⟩ (c_md_wish l D cI cJ cZ cN ma rn (r18.1 + 1) r18.2.1 r18.2.2 (0, mw.2.1, mw.2.2) mt mv mp (by (try dsimp only) <;> omega) (by (try dsimp only) <;> omega) r20 er20) ⟨callB_of 2 hts (yy_good wq_596) rfl rfl rfl (hw _ wq_39) (hw _ wq_593) (by decide +kernel) ⟨Nat.le_of_ble_eq_true rfl, Nat.le_of_ble_eq_true rfl⟩, hw _ wq_595, hw _ wq_20⟩ hK hN hP hD hS hA [0, 1, 2, 3, 4, 5, 6, 7, 8, 9, 10, 11, 12, 13, 14, 15, 16, 17, 18, 19] rfl (by decide) rfl 20 rfl (w2 := (mW cI cJ cZ ma r18.2.1 r18.2.2 r20 mt mv mp)) rfl 0 rfl rfl rfl hl.1 rfl (Nat.le_of_ble_eq_true rfl) dX5_commit_153 ⟨Nat.zero_le _, Nat.zero_le _⟩ (fun H locs hP hD hS => ?_)
                    refine W.eq (g2 := F0 m 156 ls []) rfl ?_
                    refine lv_aload_n hx hb dX5_commit_156 rfl (lv_at hl 2 rfl) ?_
                    refine lv_iload_n hx hb dX5_commit_157 rfl (lv_at hl 3 rfl) ?_
                    obtain ⟨r21, er21⟩ : ∃ r, r = md_transact nk r18.2.2 r20 := ⟨_, rfl⟩
                    have hf := yb_e er21 hf
                    refine yz_callV (As := [.int (nI nk)]) (rest := []) ⟨hx, hb, hml, hown, hts⟩ (c_md_transact l D cI cJ cZ cN ma nk r18.2.1 r18.2.2 r20 mt mv mp (by omega) (by first | omega | exact md_wish_le ‹_ = md_wish _ _ _› (by (try dsimp only) <;> omega)) r21 er21) ⟨callB_of 1 hts (yy_good wq_600) rfl rfl rfl (hw _ wq_39) (hw _ wq_597) (by decide +kernel) ⟨Nat.le_of_ble_eq_true rfl, Nat.le_of_ble_eq_true rfl⟩, hw _ wq_599, hw _ wq_21⟩ hK hN hP hD hS hA [0, 1, 2, 3, 4, 5, 6, 7, 8, 9, 10, 11, 12, 13, 14, 15, 16, 17, 18, 19] rfl (by decide) rfl 20 rfl (w2 := (mW cI cJ cZ ma r18.2.1 r21.2 r20 mt mv mp)) rfl 0 rfl rfl rfl hl.1 rfl (Nat.le_of_ble_eq_true rfl) dX5_commit_158 ⟨Nat.zero_le _, Nat.zero_le _⟩ (fun H locs hP hD hS => ?_)
                    refine W.eq (g2 := F0 m 161 ls [.int (yB r21.1)]) rfl ?_
                    refine lv_if_eq (tgt := 169) hx hb dX5_commit_161 (by decide) (fun h22 => ?_) (fun h22 => ?_)
                    · have h22 := yB_0.mp h22
                      have hf := yBf h22 hf
                      refine lv_bipush (v := (-2)) hx hb dX5_commit_169 (by decide) ?_
                      subst hf
                      exact yy_iret (v := (-2)) hx hb hr hP hK hS hlocks dX5_commit_171
                    · have h22 := yB_1 h22
                      have hf := yBt h22 hf
                      refine lv_iload hx hb dX5_commit_164 (lv_at hl 0 rfl) ?_
                      refine lv_goto (tgt := 171) hx hb dX5_commit_166 (by decide) ?_
                      subst hf
                      exact yy_iret (v := r18.1) hx hb hr hP hK hS hlocks dX5_commit_171
                  · have hf := yf h19 hf
                    refine lv_iload hx hb dX5_commit_139 (lv_at hl 0 rfl) ?_
                    subst hf
                    exact yy_iret (v := r18.1) hx hb hr hP hK hS hlocks dX5_commit_141
              · have hf := yf h9 hf
                refine lv_aload_n hx hb dX5_commit_72 rfl (lv_at hl 1 rfl) ?_
                refine lv_iload_n hx hb dX5_commit_73 rfl (lv_at hl 2 rfl) ?_
                refine lv_iload hx hb dX5_commit_74 (lv_at hl 5 rfl) ?_
                obtain ⟨r23, er23⟩ : ∃ r, r = md_has nk other mo mn := ⟨_, rfl⟩
                have hf := yb_e er23 hf
                refine yz_callV (As := [.int (nI nk), .int other]) (rest := []) ⟨hx, hb, hml, hown, hts⟩ (c_md_has l D cI cJ cZ cN ma nk other mo mn mw mt mv mp (by (try dsimp only) <;> omega) r23 er23) ⟨callB_of 2 hts (yy_good wq_576) rfl rfl rfl (hw _ wq_39) (hw _ wq_573) (by decide +kernel) ⟨Nat.le_of_ble_eq_true rfl, Nat.le_of_ble_eq_true rfl⟩, hw _ wq_575, hw _ wq_17⟩ hK hN hP hD hS hA [0, 1, 2, 3, 4, 5, 6, 7, 8, 9, 10, 11, 12, 13, 14, 15, 16, 17, 18, 19] rfl (by decide) rfl 20 rfl (w2 := (mW cI cJ cZ ma mo mn mw mt mv mp)) rfl 0 rfl rfl rfl hl.1 rfl (Nat.le_of_ble_eq_true rfl) dX5_commit_76 ⟨Nat.zero_le _, Nat.zero_le _⟩ (fun H locs hP hD hS => ?_)
                refine W.eq (g2 := F0 m 79 ls [.int (yB r23)]) rfl ?_
                refine lv_if_eq (tgt := 100) hx hb dX5_commit_79 (by decide) (fun h24 => ?_) (fun h24 => ?_)
                · have h24 := yB_0.mp h24
                  have hf := yBf h24 hf
                  refine lv_iconst (v := (-1)) hx hb dX5_commit_100 (by decide) ?_
                  subst hf
                  exact yy_iret (v := (-1)) hx hb hr hP hK hS hlocks dX5_commit_101
                · have h24 := yB_1 h24
                  have hf := yBt h24 hf
                  refine lv_aload_n hx hb dX5_commit_82 rfl (lv_at hl 1 rfl) ?_
                  refine va_get (D := D) (ci := 5) (v := .ref (ma 1)) (C := RX5) (T := TX5) (N := 25) hx hb hts (yy_tl inX5) hown hK hP 0 rfl rfl 1 (by decide) (hw _ wq_486) (fun _ h9 => h9) rfl dX5_commit_83 ?_
                  refine lv_iload hx hb dX5_commit_86 (lv_at hl 5 rfl) ?_
                  refine va_iald hx hb hK hP 1 0 (f := mo.2.1) rfl rfl (md_has_in ‹_ = md_has nk other _ _› ‹_ = true› ho) dX5_commit_88 ?_
                  refine lv_iconst (v := 2) hx hb dX5_commit_89 (by decide) ?_
                  refine lv_icmp_ne (tgt := 100) hx hb dX5_commit_90 (by decide) (fun h25 => ?_) (fun h25 => ?_)
                  · have hf := yf h25 hf
                    refine lv_iconst (v := (-1)) hx hb dX5_commit_100 (by decide) ?_
                    subst hf
                    exact yy_iret (v := (-1)) hx hb hr hP hK hS hlocks dX5_commit_101
                  · have hf := yt h25 hf
                    refine lv_iload hx hb dX5_commit_93 (lv_at hl 5 rfl) ?_
                    refine lv_iload hx hb dX5_commit_95 (lv_at hl 0 rfl) ?_
                    refine lv_icmp_ne (tgt := 102) hx hb dX5_commit_97 (by decide) (fun h26 => ?_) (fun h26 => ?_)
                    · have hf := yf h26 hf
                      refine lv_aload_n hx hb dX5_commit_102 rfl (lv_at hl 1 rfl) ?_
                      refine lv_iload_n hx hb dX5_commit_103 rfl (lv_at hl 2 rfl) ?_
                      refine lv_iconst (v := 2) hx hb dX5_commit_104 (by decide) ?_
                      refine lv_iload_n hx hb dX5_commit_105 rfl (lv_at hl 4 rfl) ?_
                      refine lv_iload hx hb dX5_commit_106 (lv_at hl 0 rfl) ?_
                      refine lv_if_lt (tgt := 116) hx hb dX5_commit_108 (by decide) (fun h27 => ?_) (fun h27 => ?_)
                      · have hf := yt h27 hf
                        refine lv_iload hx hb dX5_commit_116 (lv_at hl 5 rfl) ?_
                        refine lv_iload hx hb dX5_commit_118 (lv_at hl 0 rfl) ?_
                        refine lv_if_lt (tgt := 128) hx hb dX5_commit_120 (by decide) (fun _ => ?_) (fun h => absurd h27 h)
                        refine lv_iconst (v := (-1)) hx hb dX5_commit_128 (by decide) ?_
                        obtain ⟨r29, er29⟩ : ∃ r, r = md_make nk 2 tree other (-1) mo mn := ⟨_, rfl⟩
                        have hf := yb_e er29 hf
                        refine yz_callV (As := [.int (nI nk), .int 2, .int tree, .int other, .int (-1)]) (rest := []) ⟨hx, hb, hml, hown, hts⟩ (c_md_make l D cI cJ cZ cN ma nk 2 tree other (-1) mo mn mw mt mv mp (by (try dsimp only) <;> omega) (by (try dsimp only) <;> omega) r29 er29) ⟨callB_of 5 hts (yy_good wq_572) rfl rfl rfl (hw _ wq_39) (hw _ wq_569) (by decide +kernel) ⟨Nat.le_of_ble_eq_true rfl, Nat.le_of_ble_eq_true rfl⟩, hw _ wq_571, hw _ wq_16⟩ hK hN hP hD hS hA [0, 1, 2, 3, 4, 5, 6, 7, 8, 9, 10, 11, 12, 13, 14, 15, 16, 17, 18, 19] rfl (by decide) rfl 20 rfl (w2 := (mW cI cJ cZ ma r29.2.1 r29.2.2 mw mt mv mp)) rfl 0 rfl rfl rfl hl.1 rfl (Nat.le_of_ble_eq_true rfl) dX5_commit_129 ⟨Nat.zero_le _, Nat.zero_le _⟩ (fun H locs hP hD hS => ?_)
                        refine W.eq (g2 := F0 m 132 ls [.int r29.1]) rfl ?_
                        refine lv_istore (lv' := [(6, .int r29.1), (5, .int ((mn.2.1 ((8 * nk) + rn)) - 1)), (0, .ref (ma 0)), (1, .int (nI nk)), (2, .int (nI rn)), (3, .int tree), (4, .int other)]) hx hb dX5_commit_132 hl (by decide) rfl (fun ls hl => ?_)
                        refine lv_iload hx hb dX5_commit_134 (lv_at hl 0 rfl) ?_
                        refine lv_if_ge (tgt := 142) hx hb dX5_commit_136 (by decide) (fun h30 => ?_) (fun h30 => ?_)
                        · have hf := yt h30 hf
                          refine lv_aload_n hx hb dX5_commit_142 rfl (lv_at hl 2 rfl) ?_
                          refine lv_iconst (v := (nI 0)) hx hb dX5_commit_143 (by decide) ?_
                          refine va_put (D := D) (ci := 5) (v := .int (nI 0)) (ty := .int) (C := RX5) (T := TX5) (N := 25) hx hb hts (yy_tl inX5) tyX5 tyX5_ok nX5 hown hK hP hD hS 0 rfl rfl 13 (by decide) (hw _ wq_498) (fun _ h9 => h9) rfl (by decide +kernel) rfl rfl (Nat.le_of_ble_eq_true rfl) dX5_commit_144 (fun H locs hP hD hS => ?_)
                          have hP : va_P D vwCl (mW cI cJ cZ ma r29.2.1 r29.2.2 (0, mw.2.1, mw.2.2) mt mv mp) H := hP
                          have hD : va_D A (mW cI cJ cZ ma r29.2.1 r29.2.2 (0, mw.2.1, mw.2.2) mt mv mp) := hD
                          refine lv_aload_n hx hb dX5_commit_147 rfl (lv_at hl 2 rfl) ?_
                          refine lv_iload_n hx hb dX5_commit_148 rfl (lv_at hl 4 rfl) ?_
                          refine lv_iload hx hb dX5_commit_149 (lv_at hl 0 rfl) ?_
                          refine lv_iconst (v := 1) hx hb dX5_commit_151 (by decide) ?_
                          refine lv_iadd hx hb dX5_commit_152 ?_
                          obtain ⟨r31, er31⟩ : ∃ r, r = md_wish rn (r29.1 + 1) (0, mw.2.1, mw.2.2) := ⟨_, rfl⟩
                          have hf := yb_e er31 hf
                          refine yz_callV (As := [.int (nI rn), .int (r29.1 + 1)]) (rest := []) ⟨hx, hb, hml, hown, hts⟩ (c_md_wish l D cI cJ cZ cN ma rn (r29.1 + 1) r29.2.1 r29.2.2 (0, mw.2.1, mw.2.2) mt mv mp (by (try dsimp only) <;> omega) (by (try dsimp only) <;> omega) r31 er31) ⟨callB_of 2 hts (yy_good wq_596) rfl rfl rfl (hw _ wq_39) (hw _ wq_593) (by decide +kernel) ⟨Nat.le_of_ble_eq_true rfl, Nat.le_of_ble_eq_true rfl⟩, hw _ wq_595, hw _ wq_20⟩ hK hN hP hD hS hA [0, 1, 2, 3, 4, 5, 6, 7, 8, 9, 10, 11, 12, 13, 14, 15, 16, 17, 18, 19] rfl (by decide) rfl 20 rfl (w2 := (mW cI cJ cZ ma r29.2.1 r29.2.2 r31 mt mv mp)) rfl 0 rfl rfl rfl hl.1 rfl (Nat.le_of_ble_eq_true rfl) dX5_commit_153 ⟨Nat.zero_le _, Nat.zero_le _⟩ (fun H locs hP hD hS => ?_)
                          refine W.eq (g2 := F0 m 156 ls []) rfl ?_
                          refine lv_aload_n hx hb dX5_commit_156 rfl (lv_at hl 2 rfl) ?_
                          refine lv_iload_n hx hb dX5_commit_157 rfl (lv_at hl 3 rfl) ?_
                          obtain ⟨r32, er32⟩ : ∃ r, r = md_transact nk r29.2.2 r31 := ⟨_, rfl⟩
                          have hf := yb_e er32 hf
                          refine yz_callV (As := [.int (nI nk)]) (rest := []) ⟨hx, hb, hml, hown, hts⟩ (c_md_transact l D cI cJ cZ cN ma nk r29.2.1 r29.2.2 r31 mt mv mp (by omega) (by first | omega | exact md_wish_le ‹_ = md_wish _ _ _› (by (try dsimp only) <;> omega)) r32 er32) ⟨callB_of 1 hts (yy_good wq_600) rfl rfl rfl (hw _ wq_39) (hw _ wq_597) (by decide +kernel) ⟨Nat.le_of_ble_eq_true rfl, Nat.le_of_ble_eq_true rfl⟩, hw _ wq_599, hw _ wq_21⟩ hK hN hP hD hS hA [0, 1, 2, 3, 4, 5, 6, 7, 8, 9, 10, 11, 12, 13, 14, 15, 16, 17, 18, 19] rfl (by decide) rfl 20 rfl (w2 := (mW cI cJ cZ ma r29.2.1 r32.2 r31 mt mv mp)) rfl 0 rfl rfl rfl hl.1 rfl (Nat.le_of_ble_eq_true rfl) dX5_commit_158 ⟨Nat.zero_le _, Nat.zero_le _⟩ (fun H locs hP hD hS => ?_)
                          refine W.eq (g2 := F0 m 161 ls [.int (yB r32.1)]) rfl ?_
                          refine lv_if_eq (tgt := 169) hx hb dX5_commit_161 (by decide) (fun h33 => ?_) (fun h33 => ?_)
                          · have h33 := yB_0.mp h33
                            have hf := yBf h33 hf
                            refine lv_bipush (v := (-2)) hx hb dX5_commit_169 (by decide) ?_
                            subst hf
                            exact yy_iret (v := (-2)) hx hb hr hP hK hS hlocks dX5_commit_171
                          · have h33 := yB_1 h33
                            have hf := yBt h33 hf
                            refine lv_iload hx hb dX5_commit_164 (lv_at hl 0 rfl) ?_
                            refine lv_goto (tgt := 171) hx hb dX5_commit_166 (by decide) ?_
                            subst hf
                            exact yy_iret (v := r29.1) hx hb hr hP hK hS hlocks dX5_commit_171
                        · have hf := yf h30 hf
                          refine lv_iload hx hb dX5_commit_139 (lv_at hl 0 rfl) ?_
                          subst hf
                          exact yy_iret (v := r29.1) hx hb hr hP hK hS hlocks dX5_commit_141
                      · have hf := yf h27 hf
                        refine lv_iload hx hb dX5_commit_111 (lv_at hl 0 rfl) ?_
                        refine lv_goto (tgt := 118) hx hb dX5_commit_113 (by decide) ?_
                        refine lv_iload hx hb dX5_commit_118 (lv_at hl 0 rfl) ?_
                        refine lv_if_lt (tgt := 128) hx hb dX5_commit_120 (by decide) (fun h => absurd h h27) (fun _ => ?_)
                        refine lv_iload hx hb dX5_commit_123 (lv_at hl 5 rfl) ?_
                        refine lv_goto (tgt := 129) hx hb dX5_commit_125 (by decide) ?_
                        obtain ⟨r35, er35⟩ : ∃ r, r = md_make nk 2 tree ((mn.2.1 ((8 * nk) + rn)) - 1) other mo mn := ⟨_, rfl⟩
                        have hf := yb_e er35 hf
                        refine yz_callV (As := [.int (nI nk), .int 2, .int tree, .int ((mn.2.1 ((8 * nk) + rn)) - 1), .int other]) (rest := []) ⟨hx, hb, hml, hown, hts⟩ (c_md_make l D cI cJ cZ cN ma nk 2 tree ((mn.2.1 ((8 * nk) + rn)) - 1) other mo mn mw mt mv mp (by (try dsimp only) <;> omega) (by (try dsimp only) <;> omega) r35 er35) ⟨callB_of 5 hts (yy_good wq_572) rfl rfl rfl (hw _ wq_39) (hw _ wq_569) (by decide +kernel) ⟨Nat.le_of_ble_eq_true rfl, Nat.le_of_ble_eq_true rfl⟩, hw _ wq_571, hw _ wq_16⟩ hK hN hP hD hS hA [0, 1, 2, 3, 4, 5, 6, 7, 8, 9, 10, 11, 12, 13, 14, 15, 16, 17, 18, 19] rfl (by decide) rfl 20 rfl (w2 := (mW cI cJ cZ ma r35.2.1 r35.2.2 mw mt mv mp)) rfl 0 rfl rfl rfl hl.1 rfl (Nat.le_of_ble_eq_true rfl) dX5_commit_129 ⟨Nat.zero_le _, Nat.zero_le _⟩ (fun H locs hP hD hS => ?_)
                        refine W.eq (g2 := F0 m 132 ls [.int r35.1]) rfl ?_
                        refine lv_istore (lv' := [(6, .int r35.1), (5, .int ((mn.2.1 ((8 * nk) + rn)) - 1)), (0, .ref (ma 0)), (1, .int (nI nk)), (2, .int (nI rn)), (3, .int tree), (4, .int other)]) hx hb dX5_commit_132 hl (by decide) rfl (fun ls hl => ?_)
                        refine lv_iload hx hb dX5_commit_134 (lv_at hl 0 rfl) ?_
                        refine lv_if_ge (tgt := 142) hx hb dX5_commit_136 (by decide) (fun h36 => ?_) (fun h36 => ?_)
                        · have hf := yt h36 hf
                          refine lv_aload_n hx hb dX5_commit_142 rfl (lv_at hl 2 rfl) ?_
                          refine lv_iconst (v := (nI 0)) hx hb dX5_commit_143 (by decide) ?_
                          refine va_put (D := D) (ci := 5) (v := .int (nI 0)) (ty := .int) (C := RX5) (T := TX5) (N := 25) hx hb hts (yy_tl inX5) tyX5 tyX5_ok nX5 hown hK hP hD hS 0 rfl rfl 13 (by decide) (hw _ wq_498) (fun _ h9 => h9) rfl (by decide +kernel) rfl rfl (Nat.le_of_ble_eq_true rfl) dX5_commit_144 (fun H locs hP hD hS => ?_)
                          have hP : va_P D vwCl (mW cI cJ cZ ma r35.2.1 r35.2.2 (0, mw.2.1, mw.2.2) mt mv mp) H := hP
                          have hD : va_D A (mW cI cJ cZ ma r35.2.1 r35.2.2 (0, mw.2.1, mw.2.2) mt mv mp) := hD
                          refine lv_aload_n hx hb dX5_commit_147 rfl (lv_at hl 2 rfl) ?_
                          refine lv_iload_n hx hb dX5_commit_148 rfl (lv_at hl 4 rfl) ?_
                          refine lv_iload hx hb dX5_commit_149 (lv_at hl 0 rfl) ?_
                          refine lv_iconst (v := 1) hx hb dX5_commit_151 (by decide) ?_
                          refine lv_iadd hx hb dX5_commit_152 ?_
                          obtain ⟨r37, er37⟩ : ∃ r, r = md_wish rn (r35.1 + 1) (0, mw.2.1, mw.2.2) := ⟨_, rfl⟩
                          have hf := yb_e er37 hf
                          refine yz_callV (As := [.int (nI rn), .int (r35.1 + 1)]) (rest := []) ⟨hx, hb, hml, hown, hts⟩ (c_md_wish l D cI cJ cZ cN ma rn (r35.1 + 1) r35.2.1 r35.2.2 (0, mw.2.1, mw.2.2) mt mv mp (by (try dsimp only) <;> omega) (by (try dsimp only) <;> omega) r37 er37) ⟨callB_of 2 hts (yy_good wq_596) rfl rfl rfl (hw _ wq_39) (hw _ wq_593) (by decide +kernel) ⟨Nat.le_of_ble_eq_true rfl, Nat.le_of_ble_eq_true rfl⟩, hw _ wq_595, hw _ wq_20⟩ hK hN hP hD hS hA [0, 1, 2, 3, 4, 5, 6, 7, 8, 9, 10, 11, 12, 13, 14, 15, 16, 17, 18, 19] rfl (by decide) rfl 20 rfl (w2 := (mW cI cJ cZ ma r35.2.1 r35.2.2 r37 mt mv mp)) rfl 0 rfl rfl rfl hl.1 rfl (Nat.le_of_ble_eq_true rfl) dX5_commit_153 ⟨Nat.zero_le _, Nat.zero_le _⟩ (fun H locs hP hD hS => ?_)
                          refine W.eq (g2 := F0 m 156 ls []) rfl ?_
                          refine lv_aload_n hx hb dX5_commit_156 rfl (lv_at hl 2 rfl) ?_
                          refine lv_iload_n hx hb dX5_commit_157 rfl (lv_at hl 3 rfl) ?_
                          obtain ⟨r38, er38⟩ : ∃ r, r = md_transact nk r35.2.2 r37 := ⟨_, rfl⟩
                          have hf := yb_e er38 hf
                          refine yz_callV (As := [.int (nI nk)]) (rest := []) ⟨hx, hb, hml, hown, hts⟩ (c_md_transact l D cI cJ cZ cN ma nk r35.2.1 r35.2.2 r37 mt mv mp (by omega) (by first | omega | exact md_wish_le ‹_ = md_wish _ _ _› (by (try dsimp only) <;> omega)) r38 er38) ⟨callB_of 1 hts (yy_good wq_600) rfl rfl rfl (hw _ wq_39) (hw _ wq_597) (by decide +kernel) ⟨Nat.le_of_ble_eq_true rfl, Nat.le_of_ble_eq_true rfl⟩, hw _ wq_599, hw _ wq_21⟩ hK hN hP hD hS hA [0, 1, 2, 3, 4, 5, 6, 7, 8, 9, 10, 11, 12, 13, 14, 15, 16, 17, 18, 19] rfl (by decide) rfl 20 rfl (w2 := (mW cI cJ cZ ma r35.2.1 r38.2 r37 mt mv mp)) rfl 0 rfl rfl rfl hl.1 rfl (Nat.le_of_ble_eq_true rfl) dX5_commit_158 ⟨Nat.zero_le _, Nat.zero_le _⟩ (fun H locs hP hD hS => ?_)
                          refine W.eq (g2 := F0 m 161 ls [.int (yB r38.1)]) rfl ?_
                          refine lv_if_eq (tgt := 169) hx hb dX5_commit_161 (by decide) (fun h39 => ?_) (fun h39 => ?_)
                          · have h39 := yB_0.mp h39
                            have hf := yBf h39 hf
                            refine lv_bipush (v := (-2)) hx hb dX5_commit_169 (by decide) ?_
                            subst hf
                            exact yy_iret (v := (-2)) hx hb hr hP hK hS hlocks dX5_commit_171
                          · have h39 := yB_1 h39
                            have hf := yBt h39 hf
                            refine lv_iload hx hb dX5_commit_164 (lv_at hl 0 rfl) ?_
                            refine lv_goto (tgt := 171) hx hb dX5_commit_166 (by decide) ?_
                            subst hf
                            exact yy_iret (v := r35.1) hx hb hr hP hK hS hlocks dX5_commit_171
                        · have hf := yf h36 hf
                          refine lv_iload hx hb dX5_commit_139 (lv_at hl 0 rfl) ?_
                          subst hf
                          exact yy_iret (v := r35.1) hx hb hr hP hK hS hlocks dX5_commit_141
                    · have hf := yt h26 hf
                      refine lv_iconst (v := (-1)) hx hb dX5_commit_100 (by decide) ?_
                      subst hf
                      exact yy_iret (v := (-1)) hx hb hr hP hK hS hlocks dX5_commit_101
            · have hf := yf h8 hf
              refine lv_iconst (v := (-1)) hx hb dX5_commit_64 (by decide) ?_
              subst hf
              exact yy_iret (v := (-1)) hx hb hr hP hK hS hlocks dX5_commit_65
        · have h5 := yB_1 h5
          have hf := yBt h5 hf
          refine lv_bipush (v := (-2)) hx hb dX5_commit_27 (by decide) ?_
          subst hf
          exact yy_iret (v := (-2)) hx hb hr hP hK hS hlocks dX5_commit_29
      · have hf := yf h4 hf
        refine lv_iconst (v := (-1)) hx hb dX5_commit_16 (by decide) ?_
        subst hf
        exact yy_iret (v := (-1)) hx hb hr hP hK hS hlocks dX5_commit_17

set_option maxHeartbeats 4000000 in
set_option maxRecDepth 100000 in
theorem c_md_point (l : Launch) (D : va_G) (cI cJ cZ cN : ClassId) (ma : Nat → Nat) (node : Int32) (rf : Int32) (cm : Int32) (mo : MO) (mn : MN) (mw : MW) (mt : MT) (mv : (Nat → Int32)) (mp : MP) (ho : mo.1 ≤ 60) (hp : mp.1 ≤ 60) (res : Int32 × MN × MW) (hf : res = md_point node rf cm mo mn mw) : yy_Met l yX5_point wsX5_point { frames := 4, cells := 0, slots := 0, locals := 87 } D vwCl (yT cI cJ cZ cN) [.ref (ma 0), .int node, .int rf, .int cm] (mW cI cJ cZ ma mo mn mw mt mv mp) (some (.int res.1)) (mW cI cJ cZ ma mo res.2.1 res.2.2 mt mv mp) := by
  intro sz
  refine Met.ofW (cc := cX5_point) (maxL := 4) (ret := (some .int)) (by decide) rfl ?_
  intro p e s m args below meth c s₁ B hml hv
  obtain ⟨rfl, hsz, hP, hK, hD0, hN⟩ := hv
  have hx := B.exec
  have hb := B.bytes
  have hr := B.returns
  have hts := atoms_spec (ws := wsX5_point) B.pre
  have hw : ∀ w ∈ yW, w.before _ s = true := fun w h => hts w (List.mem_cons_of_mem _ h)
  have hown : s.vm.findClass RX5 = some m.cls := findClass_of_methodNamed B.named
  have hlocks := B.notSynchronized
  subst hsz
  have hD := hD0.self (sz := s.heap.size)
  generalize hAe : va_A (mW cI cJ cZ ma mo mn mw mt mv mp) s.heap.size = A at hD ⊢
  have hA : ∀ q : Nat, s.heap.size ≤ q → A q := fun q h => by rw [← hAe]; exact Or.inr h
  have hS : va_S A s.heap s.heap [] := va_S.rf
  have hl := lv_entry ([.ref (ma 0), .int node, .int rf, .int cm]) (n := 4) (Nat.le_of_ble_eq_true rfl)
  rw [lg_entry_eq]
  generalize (lg_sl ([.ref (ma 0), .int node, .int rf, .int cm]) ++ List.replicate (4 - (lg_sl ([.ref (ma 0), .int node, .int rf, .int cm])).length) Slot.unset).toArray = ls at hl ⊢
  have hl : lv_has ls 4 [(0, .ref (ma 0)), (1, .int node), (2, .int rf), (3, .int cm)] := hl
  rw [md_point] at hf
  refine lv_iload_n hx hb dX5_point_0 rfl (lv_at hl 1 rfl) ?_
  obtain ⟨r1, er1⟩ : ∃ r, r = md_isNode node := ⟨_, rfl⟩
  have hf := yb_e er1 hf
  refine yz_callS (As := [.int node]) (rest := []) ⟨hx, hb, hml, hown, hts⟩ (c_md_isNode l D cI cJ cZ cN node  r1 er1) ⟨callB_of 1 hts (yy_good wq_568) rfl rfl rfl (hw _ wq_39) (hw _ wq_566) (by decide +kernel) ⟨Nat.le_of_ble_eq_true rfl, Nat.le_of_ble_eq_true rfl⟩, hw _ wq_567⟩ hK hN hP hD hS hA [] rfl (by decide) rfl 0 rfl (w2 := (mW cI cJ cZ ma mo mn mw mt mv mp)) rfl rfl hl.1 rfl (Nat.le_of_ble_eq_true rfl) dX5_point_1 ⟨Nat.zero_le _, Nat.zero_le _⟩ (fun H locs hP hD hS => ?_)
  refine W.eq (g2 := F0 m 4 ls [.int (yB r1)]) rfl ?_
  refine lv_if_eq (tgt := 16) hx hb dX5_point_4 (by decide) (fun h2 => ?_) (fun h2 => ?_)
  · have h2 := yB_0.mp h2
    have hf := yBf h2 hf
    refine lv_iconst (v := (-1)) hx hb dX5_point_16 (by decide) ?_
    subst hf
    exact yy_iret (v := (-1)) hx hb hr hP hK hS hlocks dX5_point_17
  · have h2 := yB_1 h2
    have hf := yBt h2 hf
    refine lv_iload_n hx hb dX5_point_7 rfl (lv_at hl 2 rfl) ?_
    refine lv_if_lt (tgt := 16) hx hb dX5_point_8 (by decide) (fun h3 => ?_) (fun h3 => ?_)
    · have hf := yt h3 hf
      refine lv_iconst (v := (-1)) hx hb dX5_point_16 (by decide) ?_
      subst hf
      exact yy_iret (v := (-1)) hx hb hr hP hK hS hlocks dX5_point_17
    · have hf := yf h3 hf
      refine lv_iload_n hx hb dX5_point_11 rfl (lv_at hl 2 rfl) ?_
      refine lv_iconst (v := 3) hx hb dX5_point_12 (by decide) ?_
      refine lv_icmp_le (tgt := 18) hx hb dX5_point_13 (by decide) (fun h4 => ?_) (fun h4 => ?_)
      · have hf := yt h4 hf
        obtain ⟨nk, hc_nk, h_nk, he_nk⟩ : ∃ k : Nat, node.toNatClampNeg = k ∧ k < 3 ∧ node = nI k := (md_isNode_nat ‹_ = md_isNode node› ‹_ = true›)
        have hf_nk := yn_e hc_nk hf
        subst he_nk
        have hf := hf_nk
        obtain ⟨rn, hc_rn, h_rn, he_rn⟩ : ∃ k : Nat, rf.toNatClampNeg = k ∧ k < 4 ∧ rf = nI k := (yy_nat4 ‹¬ rf < 0› ‹rf ≤ 3›)
        have hf_rn := yn_e hc_rn hf
        subst he_rn
        have hf := hf_rn
        refine lv_aload_n hx hb dX5_point_18 rfl (lv_at hl 0 rfl) ?_
        refine va_get (D := D) (ci := 5) (v := .ref (ma 7)) (C := RX5) (T := TX5) (N := 25) hx hb hts (yy_tl inX5) hown hK hP 0 rfl rfl 7 (by decide) (hw _ wq_492) (fun _ h9 => h9) rfl dX5_point_19 ?_
        refine lv_iload_n hx hb dX5_point_22 rfl (lv_at hl 1 rfl) ?_
        refine yr_zaldB hx hb hK hP 7 2 (g := mn.2.2.1) (j := nk) rfl rfl rfl (by omega) (by decide) dX5_point_23 ?_
        refine lv_if_eq (tgt := 30) hx hb dX5_point_24 (by decide) (fun h5 => ?_) (fun h5 => ?_)
        · have h5 := yB_0.mp h5
          have hf := yBf h5 hf
          refine lv_iload_n hx hb dX5_point_30 rfl (lv_at hl 3 rfl) ?_
          refine lv_iconst (v := (-1)) hx hb dX5_point_31 (by decide) ?_
          refine lv_icmp_eq (tgt := 56) hx hb dX5_point_32 (by decide) (fun h6 => ?_) (fun h6 => ?_)
          · have hf := yt h6 hf
            refine lv_aload_n hx hb dX5_point_56 rfl (lv_at hl 0 rfl) ?_
            refine va_get (D := D) (ci := 5) (v := .ref (ma 6)) (C := RX5) (T := TX5) (N := 25) hx hb hts (yy_tl inX5) hown hK hP 0 rfl rfl 6 (by decide) (hw _ wq_491) (fun _ h9 => h9) rfl dX5_point_57 ?_
            refine lv_bipush (v := (nI 8)) hx hb dX5_point_60 (by decide) ?_
            refine lv_iload_n hx hb dX5_point_62 rfl (lv_at hl 1 rfl) ?_
            refine yr_imulN hx hb dX5_point_63 ?_
            refine lv_iload_n hx hb dX5_point_64 rfl (lv_at hl 2 rfl) ?_
            refine yr_iaddN hx hb dX5_point_65 ?_
            refine yr_iald hx hb hK hP 6 0 (f := mn.2.1) (j := (8 * nk) + rn) rfl rfl rfl (by omega) (by decide) dX5_point_66 ?_
            refine lv_iload_n hx hb dX5_point_67 rfl (lv_at hl 3 rfl) ?_
            refine lv_iconst (v := 1) hx hb dX5_point_68 (by decide) ?_
            refine lv_iadd hx hb dX5_point_69 ?_
            refine lv_icmp_ne (tgt := 75) hx hb dX5_point_70 (by decide) (fun h7 => ?_) (fun h7 => ?_)
            · have hf := yf h7 hf
              refine lv_aload_n hx hb dX5_point_75 rfl (lv_at hl 0 rfl) ?_
              refine lv_iconst (v := (nI 0)) hx hb dX5_point_76 (by decide) ?_
              refine va_put (D := D) (ci := 5) (v := .int (nI 0)) (ty := .int) (C := RX5) (T := TX5) (N := 25) hx hb hts (yy_tl inX5) tyX5 tyX5_ok nX5 hown hK hP hD hS 0 rfl rfl 13 (by decide) (hw _ wq_498) (fun _ h9 => h9) rfl (by decide +kernel) rfl rfl (Nat.le_of_ble_eq_true rfl) dX5_point_77 (fun H locs hP hD hS => ?_)
              have hP : va_P D vwCl (mW cI cJ cZ ma mo mn (0, mw.2.1, mw.2.2) mt mv mp) H := hP
              have hD : va_D A (mW cI cJ cZ ma mo mn (0, mw.2.1, mw.2.2) mt mv mp) := hD
              refine lv_aload_n hx hb dX5_point_80 rfl (lv_at hl 0 rfl) ?_
              refine lv_iload_n hx hb dX5_point_81 rfl (lv_at hl 2 rfl) ?_
              refine lv_iload_n hx hb dX5_point_82 rfl (lv_at hl 3 rfl) ?_
              refine lv_iconst (v := 1) hx hb dX5_point_83 (by decide) ?_
              refine lv_iadd hx hb dX5_point_84 ?_
              obtain ⟨r8, er8⟩ : ∃ r, r = md_wish rn (cm + 1) (0, mw.2.1, mw.2.2) := ⟨_, rfl⟩
              have hf := yb_e er8 hf
              refine yz_callV (As := [.int (nI rn), .int (cm + 1)]) (rest := []) ⟨hx, hb, hml, hown, hts⟩ (c_md_wish l D cI cJ cZ cN ma rn (cm + 1) mo mn (0, mw.2.1, mw.2.2) mt mv mp (by (try dsimp only) <;> omega) (by (try dsimp only) <;> omega) r8 er8) ⟨callB_of 2 hts (yy_good wq_596) rfl rfl rfl (hw _ wq_39) (hw _ wq_593) (by decide +kernel) ⟨Nat.le_of_ble_eq_true rfl, Nat.le_of_ble_eq_true rfl⟩, hw _ wq_595, hw _ wq_20⟩ hK hN hP hD hS hA [0, 1, 2, 3, 4, 5, 6, 7, 8, 9, 10, 11, 12, 13, 14, 15, 16, 17, 18, 19] rfl (by decide) rfl 20 rfl (w2 := (mW cI cJ cZ ma mo mn r8 mt mv mp)) rfl 0 rfl rfl rfl hl.1 rfl (Nat.le_of_ble_eq_true rfl) dX5_point_85 ⟨Nat.zero_le _, Nat.zero_le _⟩ (fun H locs hP hD hS => ?_)
              refine W.eq (g2 := F0 m 88 ls []) rfl ?_
              refine lv_aload_n hx hb dX5_point_88 rfl (lv_at hl 0 rfl) ?_
              refine lv_iload_n hx hb dX5_point_89 rfl (lv_at hl 1 rfl) ?_
              obtain ⟨r9, er9⟩ : ∃ r, r = md_transact nk mn r8 := ⟨_, rfl⟩
              have hf := yb_e er9 hf
              refine yz_callV (As := [.int (nI nk)]) (rest := []) ⟨hx, hb, hml, hown, hts⟩ (c_md_transact l D cI cJ cZ cN ma nk mo mn r8 mt mv mp (by omega) (by first | omega | exact md_wish_le ‹_ = md_wish _ _ _› (by (try dsimp only) <;> omega)) r9 er9) ⟨callB_of 1 hts (yy_good wq_600) rfl rfl rfl (hw _ wq_39) (hw _ wq_597) (by decide +kernel) ⟨Nat.le_of_ble_eq_true rfl, Nat.le_of_ble_eq_true rfl⟩, hw _ wq_599, hw _ wq_21⟩ hK hN hP hD hS hA [0, 1, 2, 3, 4, 5, 6, 7, 8, 9, 10, 11, 12, 13, 14, 15, 16, 17, 18, 19] rfl (by decide) rfl 20 rfl (w2 := (mW cI cJ cZ ma mo r9.2 r8 mt mv mp)) rfl 0 rfl rfl rfl hl.1 rfl (Nat.le_of_ble_eq_true rfl) dX5_point_90 ⟨Nat.zero_le _, Nat.zero_le _⟩ (fun H locs hP hD hS => ?_)
              refine W.eq (g2 := F0 m 93 ls [.int (yB r9.1)]) rfl ?_
              refine lv_if_eq (tgt := 100) hx hb dX5_point_93 (by decide) (fun h10 => ?_) (fun h10 => ?_)
              · have h10 := yB_0.mp h10
                have hf := yBf h10 hf
                refine lv_bipush (v := (-2)) hx hb dX5_point_100 (by decide) ?_
                subst hf
                exact yy_iret (v := (-2)) hx hb hr hP hK hS hlocks dX5_point_102
              · have h10 := yB_1 h10
                have hf := yBt h10 hf
                refine lv_iconst (v := 1) hx hb dX5_point_96 (by decide) ?_
                refine lv_goto (tgt := 102) hx hb dX5_point_97 (by decide) ?_
                subst hf
                exact yy_iret (v := 1) hx hb hr hP hK hS hlocks dX5_point_102
            · have hf := yt h7 hf
              refine lv_iconst (v := 0) hx hb dX5_point_73 (by decide) ?_
              subst hf
              exact yy_iret (v := 0) hx hb hr hP hK hS hlocks dX5_point_74
          · have hf := yf h6 hf
            refine lv_aload_n hx hb dX5_point_35 rfl (lv_at hl 0 rfl) ?_
            refine lv_iload_n hx hb dX5_point_36 rfl (lv_at hl 1 rfl) ?_
            refine lv_iload_n hx hb dX5_point_37 rfl (lv_at hl 3 rfl) ?_
            obtain ⟨r11, er11⟩ : ∃ r, r = md_has nk cm mo mn := ⟨_, rfl⟩
            have hf := yb_e er11 hf
            refine yz_callV (As := [.int (nI nk), .int cm]) (rest := []) ⟨hx, hb, hml, hown, hts⟩ (c_md_has l D cI cJ cZ cN ma nk cm mo mn mw mt mv mp (by (try dsimp only) <;> omega) r11 er11) ⟨callB_of 2 hts (yy_good wq_576) rfl rfl rfl (hw _ wq_39) (hw _ wq_573) (by decide +kernel) ⟨Nat.le_of_ble_eq_true rfl, Nat.le_of_ble_eq_true rfl⟩, hw _ wq_575, hw _ wq_17⟩ hK hN hP hD hS hA [0, 1, 2, 3, 4, 5, 6, 7, 8, 9, 10, 11, 12, 13, 14, 15, 16, 17, 18, 19] rfl (by decide) rfl 20 rfl (w2 := (mW cI cJ cZ ma mo mn mw mt mv mp)) rfl 0 rfl rfl rfl hl.1 rfl (Nat.le_of_ble_eq_true rfl) dX5_point_38 ⟨Nat.zero_le _, Nat.zero_le _⟩ (fun H locs hP hD hS => ?_)
            refine W.eq (g2 := F0 m 41 ls [.int (yB r11)]) rfl ?_
            refine lv_if_eq (tgt := 54) hx hb dX5_point_41 (by decide) (fun h12 => ?_) (fun h12 => ?_)
            · have h12 := yB_0.mp h12
              have hf := yBf h12 hf
              refine lv_iconst (v := (-1)) hx hb dX5_point_54 (by decide) ?_
              subst hf
              exact yy_iret (v := (-1)) hx hb hr hP hK hS hlocks dX5_point_55
            · have h12 := yB_1 h12
              have hf := yBt h12 hf
              refine lv_aload_n hx hb dX5_point_44 rfl (lv_at hl 0 rfl) ?_
              refine va_get (D := D) (ci := 5) (v := .ref (ma 1)) (C := RX5) (T := TX5) (N := 25) hx hb hts (yy_tl inX5) hown hK hP 0 rfl rfl 1 (by decide) (hw _ wq_486) (fun _ h9 => h9) rfl dX5_point_45 ?_
              refine lv_iload_n hx hb dX5_point_48 rfl (lv_at hl 3 rfl) ?_
              refine va_iald hx hb hK hP 1 0 (f := mo.2.1) rfl rfl (md_has_in ‹_ = md_has nk cm _ _› ‹_ = true› ho) dX5_point_49 ?_
              refine lv_iconst (v := 2) hx hb dX5_point_50 (by decide) ?_
              refine lv_icmp_eq (tgt := 56) hx hb dX5_point_51 (by decide) (fun h13 => ?_) (fun h13 => ?_)
              · have hf := yt h13 hf
                refine lv_aload_n hx hb dX5_point_56 rfl (lv_at hl 0 rfl) ?_
                refine va_get (D := D) (ci := 5) (v := .ref (ma 6)) (C := RX5) (T := TX5) (N := 25) hx hb hts (yy_tl inX5) hown hK hP 0 rfl rfl 6 (by decide) (hw _ wq_491) (fun _ h9 => h9) rfl dX5_point_57 ?_
                refine lv_bipush (v := (nI 8)) hx hb dX5_point_60 (by decide) ?_
                refine lv_iload_n hx hb dX5_point_62 rfl (lv_at hl 1 rfl) ?_
                refine yr_imulN hx hb dX5_point_63 ?_
                refine lv_iload_n hx hb dX5_point_64 rfl (lv_at hl 2 rfl) ?_
                refine yr_iaddN hx hb dX5_point_65 ?_
                refine yr_iald hx hb hK hP 6 0 (f := mn.2.1) (j := (8 * nk) + rn) rfl rfl rfl (by omega) (by decide) dX5_point_66 ?_
                refine lv_iload_n hx hb dX5_point_67 rfl (lv_at hl 3 rfl) ?_
                refine lv_iconst (v := 1) hx hb dX5_point_68 (by decide) ?_
                refine lv_iadd hx hb dX5_point_69 ?_
                refine lv_icmp_ne (tgt := 75) hx hb dX5_point_70 (by decide) (fun h14 => ?_) (fun h14 => ?_)
                · have hf := yf h14 hf
                  refine lv_aload_n hx hb dX5_point_75 rfl (lv_at hl 0 rfl) ?_
                  refine lv_iconst (v := (nI 0)) hx hb dX5_point_76 (by decide) ?_
                  refine va_put (D := D) (ci := 5) (v := .int (nI 0)) (ty := .int) (C := RX5) (T := TX5) (N := 25) hx hb hts (yy_tl inX5) tyX5 tyX5_ok nX5 hown hK hP hD hS 0 rfl rfl 13 (by decide) (hw _ wq_498) (fun _ h9 => h9) rfl (by decide +kernel) rfl rfl (Nat.le_of_ble_eq_true rfl) dX5_point_77 (fun H locs hP hD hS => ?_)
                  have hP : va_P D vwCl (mW cI cJ cZ ma mo mn (0, mw.2.1, mw.2.2) mt mv mp) H := hP
                  have hD : va_D A (mW cI cJ cZ ma mo mn (0, mw.2.1, mw.2.2) mt mv mp) := hD
                  refine lv_aload_n hx hb dX5_point_80 rfl (lv_at hl 0 rfl) ?_
                  refine lv_iload_n hx hb dX5_point_81 rfl (lv_at hl 2 rfl) ?_
                  refine lv_iload_n hx hb dX5_point_82 rfl (lv_at hl 3 rfl) ?_
                  refine lv_iconst (v := 1) hx hb dX5_point_83 (by decide) ?_
                  refine lv_iadd hx hb dX5_point_84 ?_
                  obtain ⟨r15, er15⟩ : ∃ r, r = md_wish rn (cm + 1) (0, mw.2.1, mw.2.2) := ⟨_, rfl⟩
                  have hf := yb_e er15 hf
                  refine yz_callV (As := [.int (nI rn), .int (cm + 1)]) (rest := []) ⟨hx, hb, hml, hown, hts⟩ (c_md_wish l D cI cJ cZ cN ma rn (cm + 1) mo mn (0, mw.2.1, mw.2.2) mt mv mp (by (try dsimp only) <;> omega) (by (try dsimp only) <;> omega) r15 er15) ⟨callB_of 2 hts (yy_good wq_596) rfl rfl rfl (hw _ wq_39) (hw _ wq_593) (by decide +kernel) ⟨Nat.le_of_ble_eq_true rfl, Nat.le_of_ble_eq_true rfl⟩, hw _ wq_595, hw _ wq_20⟩ hK hN hP hD hS hA [0, 1, 2, 3, 4, 5, 6, 7, 8, 9, 10, 11, 12, 13, 14, 15, 16, 17, 18, 19] rfl (by decide) rfl 20 rfl (w2 := (mW cI cJ cZ ma mo mn r15 mt mv mp)) rfl 0 rfl rfl rfl hl.1 rfl (Nat.le_of_ble_eq_true rfl) dX5_point_85 ⟨Nat.zero_le _, Nat.zero_le _⟩ (fun H locs hP hD hS => ?_)
                  refine W.eq (g2 := F0 m 88 ls []) rfl ?_
                  refine lv_aload_n hx hb dX5_point_88 rfl (lv_at hl 0 rfl) ?_
                  refine lv_iload_n hx hb dX5_point_89 rfl (lv_at hl 1 rfl) ?_
                  obtain ⟨r16, er16⟩ : ∃ r, r = md_transact nk mn r15 := ⟨_, rfl⟩
                  have hf := yb_e er16 hf
                  refine yz_callV (As := [.int (nI nk)]) (rest := []) ⟨hx, hb, hml, hown, hts⟩ (c_md_transact l D cI cJ cZ cN ma nk mo mn r15 mt mv mp (by omega) (by first | omega | exact md_wish_le ‹_ = md_wish _ _ _› (by (try dsimp only) <;> omega)) r16 er16) ⟨callB_of 1 hts (yy_good wq_600) rfl rfl rfl (hw _ wq_39) (hw _ wq_597) (by decide +kernel) ⟨Nat.le_of_ble_eq_true rfl, Nat.le_of_ble_eq_true rfl⟩, hw _ wq_599, hw _ wq_21⟩ hK hN hP hD hS hA [0, 1, 2, 3, 4, 5, 6, 7, 8, 9, 10, 11, 12, 13, 14, 15, 16, 17, 18, 19] rfl (by decide) rfl 20 rfl (w2 := (mW cI cJ cZ ma mo r16.2 r15 mt mv mp)) rfl 0 rfl rfl rfl hl.1 rfl (Nat.le_of_ble_eq_true rfl) dX5_point_90 ⟨Nat.zero_le _, Nat.zero_le _⟩ (fun H locs hP hD hS => ?_)
                  refine W.eq (g2 := F0 m 93 ls [.int (yB r16.1)]) rfl ?_
                  refine lv_if_eq (tgt := 100) hx hb dX5_point_93 (by decide) (fun h17 => ?_) (fun h17 => ?_)
                  · have h17 := yB_0.mp h17
                    have hf := yBf h17 hf
                    refine lv_bipush (v := (-2)) hx hb dX5_point_100 (by decide) ?_
                    subst hf
                    exact yy_iret (v := (-2)) hx hb hr hP hK hS hlocks dX5_point_102
                  · have h17 := yB_1 h17
                    have hf := yBt h17 hf
                    refine lv_iconst (v := 1) hx hb dX5_point_96 (by decide) ?_
                    refine lv_goto (tgt := 102) hx hb dX5_point_97 (by decide) ?_
                    subst hf
                    exact yy_iret (v := 1) hx hb hr hP hK hS hlocks dX5_point_102
                · have hf := yt h14 hf
                  refine lv_iconst (v := 0) hx hb dX5_point_73 (by decide) ?_
                  subst hf
                  exact yy_iret (v := 0) hx hb hr hP hK hS hlocks dX5_point_74
              · have hf := yf h13 hf
                refine lv_iconst (v := (-1)) hx hb dX5_point_54 (by decide) ?_
                subst hf
                exact yy_iret (v := (-1)) hx hb hr hP hK hS hlocks dX5_point_55
        · have h5 := yB_1 h5
          have hf := yBt h5 hf
          refine lv_bipush (v := (-2)) hx hb dX5_point_27 (by decide) ?_
          subst hf
          exact yy_iret (v := (-2)) hx hb hr hP hK hS hlocks dX5_point_29
      · have hf := yf h4 hf
        refine lv_iconst (v := (-1)) hx hb dX5_point_16 (by decide) ?_
        subst hf
        exact yy_iret (v := (-1)) hx hb hr hP hK hS hlocks dX5_point_17

set_option maxHeartbeats 4000000 in
set_option maxRecDepth 100000 in
theorem c_md_arm (l : Launch) (D : va_G) (cI cJ cZ cN : ClassId) (ma : Nat → Nat) (node : Int32) (n : Int32) (mo : MO) (mn : MN) (mw : MW) (mt : MT) (mv : (Nat → Int32)) (mp : MP) (ho : mo.1 ≤ 60) (hp : mp.1 ≤ 60) (res : Bool × MN) (hf : res = md_arm node n mn) : yy_Met l yX5_arm wsX5_arm { frames := 1, cells := 0, slots := 0, locals := 20 } D vwCl (yT cI cJ cZ cN) [.ref (ma 0), .int node, .int n] (mW cI cJ cZ ma mo mn mw mt mv mp) (some (.int (yB res.1))) (mW cI cJ cZ ma mo res.2 mw mt mv mp) := by
  intro sz
  refine Met.ofW (cc := cX5_arm) (maxL := 3) (ret := (some .boolean)) (by decide) rfl ?_
  intro p e s m args below meth c s₁ B hml hv
  obtain ⟨rfl, hsz, hP, hK, hD0, hN⟩ := hv
  have hx := B.exec
  have hb := B.bytes
  have hr := B.returns
  have hts := atoms_spec (ws := wsX5_arm) B.pre
  have hw : ∀ w ∈ yW, w.before _ s = true := fun w h => hts w (List.mem_cons_of_mem _ h)
  have hown : s.vm.findClass RX5 = some m.cls := findClass_of_methodNamed B.named
  have hlocks := B.notSynchronized
  subst hsz
  have hD := hD0.self (sz := s.heap.size)
  generalize hAe : va_A (mW cI cJ cZ ma mo mn mw mt mv mp) s.heap.size = A at hD ⊢
  have hA : ∀ q : Nat, s.heap.size ≤ q → A q := fun q h => by rw [← hAe]; exact Or.inr h
  have hS : va_S A s.heap s.heap [] := va_S.rf
  have hl := lv_entry ([.ref (ma 0), .int node, .int n]) (n := 3) (Nat.le_of_ble_eq_true rfl)
  rw [lg_entry_eq]
  generalize (lg_sl ([.ref (ma 0), .int node, .int n]) ++ List.replicate (3 - (lg_sl ([.ref (ma 0), .int node, .int n])).length) Slot.unset).toArray = ls at hl ⊢
  have hl : lv_has ls 3 [(0, .ref (ma 0)), (1, .int node), (2, .int n)] := hl
  rw [md_arm] at hf
  refine lv_iload_n hx hb dX5_arm_0 rfl (lv_at hl 1 rfl) ?_
  obtain ⟨r1, er1⟩ : ∃ r, r = md_isNode node := ⟨_, rfl⟩
  have hf := yb_e er1 hf
  refine yz_callS (As := [.int node]) (rest := []) ⟨hx, hb, hml, hown, hts⟩ (c_md_isNode l D cI cJ cZ cN node  r1 er1) ⟨callB_of 1 hts (yy_good wq_568) rfl rfl rfl (hw _ wq_39) (hw _ wq_566) (by decide +kernel) ⟨Nat.le_of_ble_eq_true rfl, Nat.le_of_ble_eq_true rfl⟩, hw _ wq_567⟩ hK hN hP hD hS hA [] rfl (by decide) rfl 0 rfl (w2 := (mW cI cJ cZ ma mo mn mw mt mv mp)) rfl rfl hl.1 rfl (Nat.le_of_ble_eq_true rfl) dX5_arm_1 ⟨Nat.zero_le _, Nat.zero_le _⟩ (fun H locs hP hD hS => ?_)
  refine W.eq (g2 := F0 m 4 ls [.int (yB r1)]) rfl ?_
  refine lv_if_eq (tgt := 18) hx hb dX5_arm_4 (by decide) (fun h2 => ?_) (fun h2 => ?_)
  · have h2 := yB_0.mp h2
    have hf := yBf h2 hf
    refine lv_iconst (v := 0) hx hb dX5_arm_18 (by decide) ?_
    subst hf
    exact yy_zret (v := yB false) hx hb hr (yB_n _) hP hK hS hlocks dX5_arm_19
  · have h2 := yB_1 h2
    have hf := yBt h2 hf
    refine lv_iload_n hx hb dX5_arm_7 rfl (lv_at hl 2 rfl) ?_
    refine lv_iconst (v := (-1)) hx hb dX5_arm_8 (by decide) ?_
    refine lv_icmp_lt (tgt := 18) hx hb dX5_arm_9 (by decide) (fun h3 => ?_) (fun h3 => ?_)
    · have hf := yt h3 hf
      refine lv_iconst (v := 0) hx hb dX5_arm_18 (by decide) ?_
      subst hf
      exact yy_zret (v := yB false) hx hb hr (yB_n _) hP hK hS hlocks dX5_arm_19
    · have hf := yf h3 hf
      refine lv_iload_n hx hb dX5_arm_12 rfl (lv_at hl 2 rfl) ?_
      refine lv_bipush (v := 100) hx hb dX5_arm_13 (by decide) ?_
      refine lv_icmp_le (tgt := 20) hx hb dX5_arm_15 (by decide) (fun h4 => ?_) (fun h4 => ?_)
      · have hf := yt h4 hf
        obtain ⟨nk, hc_nk, h_nk, he_nk⟩ : ∃ k : Nat, node.toNatClampNeg = k ∧ k < 3 ∧ node = nI k := (md_isNode_nat ‹_ = md_isNode node› ‹_ = true›)
        have hf_nk := yn_e hc_nk hf
        subst he_nk
        have hf := hf_nk
        refine lv_aload_n hx hb dX5_arm_20 rfl (lv_at hl 0 rfl) ?_
        refine va_get (D := D) (ci := 5) (v := .ref (ma 8)) (C := RX5) (T := TX5) (N := 25) hx hb hts (yy_tl inX5) hown hK hP 0 rfl rfl 8 (by decide) (hw _ wq_493) (fun _ h9 => h9) rfl dX5_arm_21 ?_
        refine lv_iload_n hx hb dX5_arm_24 rfl (lv_at hl 1 rfl) ?_
        refine lv_iload_n hx hb dX5_arm_25 rfl (lv_at hl 2 rfl) ?_
        refine lv_iconst (v := 1) hx hb dX5_arm_26 (by decide) ?_
        refine lv_iadd hx hb dX5_arm_27 ?_
        refine yr_iast hx hb hK hP hD hS 8 0 (f := mn.2.2.2.1) (j := nk) rfl rfl rfl (by omega) (by decide) dX5_arm_28 (fun H locs hP hD hS => ?_)
        have hP : va_P D vwCl (mW cI cJ cZ ma mo (mn.1, mn.2.1, mn.2.2.1, upd mn.2.2.2.1 nk (n + 1), mn.2.2.2.2.1, mn.2.2.2.2.2.1, mn.2.2.2.2.2.2.1, mn.2.2.2.2.2.2.2) mw mt mv mp) H := hP
        have hD : va_D A (mW cI cJ cZ ma mo (mn.1, mn.2.1, mn.2.2.1, upd mn.2.2.2.1 nk (n + 1), mn.2.2.2.2.1, mn.2.2.2.2.2.1, mn.2.2.2.2.2.2.1, mn.2.2.2.2.2.2.2) mw mt mv mp) := hD
        refine lv_iconst (v := 1) hx hb dX5_arm_29 (by decide) ?_
        subst hf
        exact yy_zret (v := yB true) hx hb hr (yB_n _) hP hK hS hlocks dX5_arm_30
      · have hf := yf h4 hf
        refine lv_iconst (v := 0) hx hb dX5_arm_18 (by decide) ?_
        subst hf
        exact yy_zret (v := yB false) hx hb hr (yB_n _) hP hK hS hlocks dX5_arm_19

set_option maxHeartbeats 4000000 in
set_option maxRecDepth 100000 in
theorem c_md_recover (l : Launch) (D : va_G) (cI cJ cZ cN : ClassId) (ma : Nat → Nat) (node : Int32) (mo : MO) (mn : MN) (mw : MW) (mt : MT) (mv : (Nat → Int32)) (mp : MP) (ho : mo.1 ≤ 60) (hp : mp.1 ≤ 60) (res : Int32 × MN) (hf : res = md_recover node mn) : yy_Met l yX5_recover wsX5_recover { frames := 3, cells := 0, slots := 0, locals := 64 } D vwCl (yT cI cJ cZ cN) [.ref (ma 0), .int node] (mW cI cJ cZ ma mo mn mw mt mv mp) (some (.int res.1)) (mW cI cJ cZ ma mo res.2 mw mt mv mp) := by
  intro sz
  refine Met.ofW (cc := cX5_recover) (maxL := 4) (ret := (some .int)) (by decide) rfl ?_
  intro p e s m args below meth c s₁ B hml hv
  obtain ⟨rfl, hsz, hP, hK, hD0, hN⟩ := hv
  have hx := B.exec
  have hb := B.bytes
  have hr := B.returns
  have hts := atoms_spec (ws := wsX5_recover) B.pre
  have hw : ∀ w ∈ yW, w.before _ s = true := fun w h => hts w (List.mem_cons_of_mem _ h)
  have hown : s.vm.findClass RX5 = some m.cls := findClass_of_methodNamed B.named
  have hlocks := B.notSynchronized
  subst hsz
  have hD := hD0.self (sz := s.heap.size)
  generalize hAe : va_A (mW cI cJ cZ ma mo mn mw mt mv mp) s.heap.size = A at hD ⊢
  have hA : ∀ q : Nat, s.heap.size ≤ q → A q := fun q h => by rw [← hAe]; exact Or.inr h
  have hS : va_S A s.heap s.heap [] := va_S.rf
  have hl := lv_entry ([.ref (ma 0), .int node]) (n := 4) (Nat.le_of_ble_eq_true rfl)
  rw [lg_entry_eq]
  generalize (lg_sl ([.ref (ma 0), .int node]) ++ List.replicate (4 - (lg_sl ([.ref (ma 0), .int node])).length) Slot.unset).toArray = ls at hl ⊢
  have hl : lv_has ls 4 [(0, .ref (ma 0)), (1, .int node)] := hl
  rw [md_recover] at hf
  refine lv_iload_n hx hb dX5_recover_0 rfl (lv_at hl 1 rfl) ?_
  obtain ⟨r1, er1⟩ : ∃ r, r = md_isNode node := ⟨_, rfl⟩
  have hf := yb_e er1 hf
  refine yz_callS (As := [.int node]) (rest := []) ⟨hx, hb, hml, hown, hts⟩ (c_md_isNode l D cI cJ cZ cN node  r1 er1) ⟨callB_of 1 hts (yy_good wq_568) rfl rfl rfl (hw _ wq_39) (hw _ wq_566) (by decide +kernel) ⟨Nat.le_of_ble_eq_true rfl, Nat.le_of_ble_eq_true rfl⟩, hw _ wq_567⟩ hK hN hP hD hS hA [] rfl (by decide) rfl 0 rfl (w2 := (mW cI cJ cZ ma mo mn mw mt mv mp)) rfl rfl hl.1 rfl (Nat.le_of_ble_eq_true rfl) dX5_recover_1 ⟨Nat.zero_le _, Nat.zero_le _⟩ (fun H locs hP hD hS => ?_)
  refine W.eq (g2 := F0 m 4 ls [.int (yB r1)]) rfl ?_
  refine lv_if_eq (tgt := 16) hx hb dX5_recover_4 (by decide) (fun h2 => ?_) (fun h2 => ?_)
  · have h2 := yB_0.mp h2
    have hf := yBf h2 hf
    refine lv_iconst (v := (-1)) hx hb dX5_recover_16 (by decide) ?_
    subst hf
    exact yy_iret (v := (-1)) hx hb hr hP hK hS hlocks dX5_recover_17
  · have h2 := yB_1 h2
    have hf := yBt h2 hf
    obtain ⟨nk, hc_nk, h_nk, he_nk⟩ : ∃ k : Nat, node.toNatClampNeg = k ∧ k < 3 ∧ node = nI k := (md_isNode_nat ‹_ = md_isNode node› ‹_ = true›)
    have hf_nk := yn_e hc_nk hf
    subst he_nk
    have hf := hf_nk
    refine lv_aload_n hx hb dX5_recover_7 rfl (lv_at hl 0 rfl) ?_
    refine va_get (D := D) (ci := 5) (v := .ref (ma 7)) (C := RX5) (T := TX5) (N := 25) hx hb hts (yy_tl inX5) hown hK hP 0 rfl rfl 7 (by decide) (hw _ wq_492) (fun _ h9 => h9) rfl dX5_recover_8 ?_
    refine lv_iload_n hx hb dX5_recover_11 rfl (lv_at hl 1 rfl) ?_
    refine yr_zaldB hx hb hK hP 7 2 (g := mn.2.2.1) (j := nk) rfl rfl rfl (by omega) (by decide) dX5_recover_12 ?_
    refine lv_if_ne (tgt := 18) hx hb dX5_recover_13 (by decide) (fun h3 => ?_) (fun h3 => ?_)
    · have h3 := yB_1 h3
      have hf := yBt h3 hf
      refine lv_aload_n hx hb dX5_recover_18 rfl (lv_at hl 0 rfl) ?_
      refine va_get (D := D) (ci := 5) (v := .ref (ma 10)) (C := RX5) (T := TX5) (N := 25) hx hb hts (yy_tl inX5) hown hK hP 0 rfl rfl 10 (by decide) (hw _ wq_495) (fun _ h9 => h9) rfl dX5_recover_19 ?_
      refine lv_iload_n hx hb dX5_recover_22 rfl (lv_at hl 1 rfl) ?_
      refine yr_zaldB hx hb hK hP 10 2 (g := mn.2.2.2.2.2.1) (j := nk) rfl rfl rfl (by omega) (by decide) dX5_recover_23 ?_
      refine lv_if_eq (tgt := 36) hx hb dX5_recover_24 (by decide) (fun h4 => ?_) (fun h4 => ?_)
      · have h4 := yB_0.mp h4
        have hf := yBf h4 hf
        refine lv_iconst (v := 0) hx hb dX5_recover_36 (by decide) ?_
        refine lv_istore_n (lv' := [(2, .int 0), (0, .ref (ma 0)), (1, .int (nI nk))]) hx hb dX5_recover_37 rfl hl (by decide) rfl (fun ls hl => ?_)
        refine lv_aload_n hx hb dX5_recover_38 rfl (lv_at hl 1 rfl) ?_
        refine va_get (D := D) (ci := 5) (v := .ref (ma 10)) (C := RX5) (T := TX5) (N := 25) hx hb hts (yy_tl inX5) hown hK hP 0 rfl rfl 10 (by decide) (hw _ wq_495) (fun _ h9 => h9) rfl dX5_recover_39 ?_
        refine lv_iload_n hx hb dX5_recover_42 rfl (lv_at hl 2 rfl) ?_
        refine yr_zaldB hx hb hK hP 10 2 (g := mn.2.2.2.2.2.1) (j := nk) rfl rfl rfl (by omega) (by decide) dX5_recover_43 ?_
        refine lv_if_eq (tgt := 55) hx hb dX5_recover_44 (by decide) (fun _ => ?_) (fun h => absurd (by rw [h4]; decide) h)
        refine lv_aload_n hx hb dX5_recover_55 rfl (lv_at hl 1 rfl) ?_
        refine va_get (D := D) (ci := 5) (v := .ref (ma 9)) (C := RX5) (T := TX5) (N := 25) hx hb hts (yy_tl inX5) hown hK hP 0 rfl rfl 9 (by decide) (hw _ wq_494) (fun _ h9 => h9) rfl dX5_recover_56 ?_
        refine lv_iload_n hx hb dX5_recover_59 rfl (lv_at hl 2 rfl) ?_
        refine yr_ialdN hx hb hK hP 9 0 (g := mn.2.2.2.2.1) (M := 5) (j := nk) rfl rfl rfl (by omega) (by decide) dX5_recover_60 ?_
        refine lv_if_eq (tgt := 72) hx hb dX5_recover_61 (by decide) (fun h6 => ?_) (fun h6 => ?_)
        · have hf := yt h6 hf
          refine lv_iconst (v := 1) hx hb dX5_recover_72 (by decide) ?_
          refine lv_goto (tgt := 77) hx hb dX5_recover_73 (by decide) ?_
          refine lv_istore_n (lv' := [(3, .int 1), (2, .int 0), (0, .ref (ma 0)), (1, .int (nI nk))]) hx hb dX5_recover_77 rfl hl (by decide) rfl (fun ls hl => ?_)
          refine lv_iload_n hx hb dX5_recover_78 rfl (lv_at hl 0 rfl) ?_
          refine lv_if_ne (tgt := 85) hx hb dX5_recover_79 (by decide) (fun _ => ?_) (fun h => absurd h (by decide))
          refine lv_aload_n hx hb dX5_recover_85 rfl (lv_at hl 2 rfl) ?_
          refine va_get (D := D) (ci := 5) (v := .ref (ma 7)) (C := RX5) (T := TX5) (N := 25) hx hb hts (yy_tl inX5) hown hK hP 0 rfl rfl 7 (by decide) (hw _ wq_492) (fun _ h9 => h9) rfl dX5_recover_86 ?_
          refine lv_iload_n hx hb dX5_recover_89 rfl (lv_at hl 3 rfl) ?_
          refine lv_iconst (v := 0) hx hb dX5_recover_90 (by decide) ?_
          refine yr_zastB (g := mn.2.2.1) (b := false) hx hb hK hP hD hS 7 2 (j := nk) rfl rfl rfl (by omega) (by decide) dX5_recover_91 (fun H locs hP hD hS => ?_)
          have hP : va_P D vwCl (mW cI cJ cZ ma mo (mn.1, mn.2.1, yupB mn.2.2.1 nk false, mn.2.2.2.1, mn.2.2.2.2.1, mn.2.2.2.2.2.1, mn.2.2.2.2.2.2.1, mn.2.2.2.2.2.2.2) mw mt mv mp) H := hP
          have hD : va_D A (mW cI cJ cZ ma mo (mn.1, mn.2.1, yupB mn.2.2.1 nk false, mn.2.2.2.1, mn.2.2.2.2.1, mn.2.2.2.2.2.1, mn.2.2.2.2.2.2.1, mn.2.2.2.2.2.2.2) mw mt mv mp) := hD
          refine lv_iload_n hx hb dX5_recover_92 rfl (lv_at hl 1 rfl) ?_
          subst hf
          exact yy_iret (v := 0) hx hb hr hP hK hS hlocks dX5_recover_93
        · have hf := yf h6 hf
          refine lv_aload_n hx hb dX5_recover_64 rfl (lv_at hl 1 rfl) ?_
          refine lv_iload_n hx hb dX5_recover_65 rfl (lv_at hl 2 rfl) ?_
          obtain ⟨r8, er8⟩ : ∃ r, r = md_wipe nk mn := ⟨_, rfl⟩
          have hf := yb_e er8 hf
          refine yz_callV (As := [.int (nI nk)]) (rest := []) ⟨hx, hb, hml, hown, hts⟩ (c_md_wipe l D cI cJ cZ cN ma nk mo mn mw mt mv mp (by (try dsimp only) <;> omega) r8 er8) ⟨callB_of 1 hts (yy_good wq_608) rfl rfl rfl (hw _ wq_39) (hw _ wq_605) (by decide +kernel) ⟨Nat.le_of_ble_eq_true rfl, Nat.le_of_ble_eq_true rfl⟩, hw _ wq_607, hw _ wq_23⟩ hK hN hP hD hS hA [0, 1, 2, 3, 4, 5, 6, 7, 8, 9, 10, 11, 12, 13, 14, 15, 16, 17, 18, 19] rfl (by decide) rfl 20 rfl (w2 := (mW cI cJ cZ ma mo r8.2 mw mt mv mp)) rfl 0 rfl rfl rfl hl.1 rfl (Nat.le_of_ble_eq_true rfl) dX5_recover_66 ⟨Nat.zero_le _, Nat.zero_le _⟩ (fun H locs hP hD hS => ?_)
          refine W.eq (g2 := F0 m 69 ls [.int (yB r8.1)]) rfl ?_
          refine lv_if_eq (tgt := 76) hx hb dX5_recover_69 (by decide) (fun h9 => ?_) (fun h9 => ?_)
          · have h9 := yB_0.mp h9
            have hf := yBf h9 hf
            refine lv_iconst (v := 0) hx hb dX5_recover_76 (by decide) ?_
            refine lv_istore_n (lv' := [(3, .int 0), (2, .int 0), (0, .ref (ma 0)), (1, .int (nI nk))]) hx hb dX5_recover_77 rfl hl (by decide) rfl (fun ls hl => ?_)
            refine lv_iload_n hx hb dX5_recover_78 rfl (lv_at hl 0 rfl) ?_
            refine lv_if_ne (tgt := 85) hx hb dX5_recover_79 (by decide) (fun h => absurd h (by decide)) (fun _ => ?_)
            refine lv_bipush (v := (-2)) hx hb dX5_recover_82 (by decide) ?_
            subst hf
            exact yy_iret (v := (-2)) hx hb hr hP hK hS hlocks dX5_recover_84
          · have h9 := yB_1 h9
            have hf := yBt h9 hf
            refine lv_iconst (v := 1) hx hb dX5_recover_72 (by decide) ?_
            refine lv_goto (tgt := 77) hx hb dX5_recover_73 (by decide) ?_
            refine lv_istore_n (lv' := [(3, .int 1), (2, .int 0), (0, .ref (ma 0)), (1, .int (nI nk))]) hx hb dX5_recover_77 rfl hl (by decide) rfl (fun ls hl => ?_)
            refine lv_iload_n hx hb dX5_recover_78 rfl (lv_at hl 0 rfl) ?_
            refine lv_if_ne (tgt := 85) hx hb dX5_recover_79 (by decide) (fun _ => ?_) (fun h => absurd h (by decide))
            refine lv_aload_n hx hb dX5_recover_85 rfl (lv_at hl 2 rfl) ?_
            refine va_get (D := D) (ci := 5) (v := .ref (ma 7)) (C := RX5) (T := TX5) (N := 25) hx hb hts (yy_tl inX5) hown hK hP 0 rfl rfl 7 (by decide) (hw _ wq_492) (fun _ h9 => h9) rfl dX5_recover_86 ?_
            refine lv_iload_n hx hb dX5_recover_89 rfl (lv_at hl 3 rfl) ?_
            refine lv_iconst (v := 0) hx hb dX5_recover_90 (by decide) ?_
            refine yr_zastB (g := r8.2.2.2.1) (b := false) hx hb hK hP hD hS 7 2 (j := nk) rfl rfl rfl (by omega) (by decide) dX5_recover_91 (fun H locs hP hD hS => ?_)
            have hP : va_P D vwCl (mW cI cJ cZ ma mo (r8.2.1, r8.2.2.1, yupB r8.2.2.2.1 nk false, r8.2.2.2.2.1, r8.2.2.2.2.2.1, r8.2.2.2.2.2.2.1, r8.2.2.2.2.2.2.2.1, r8.2.2.2.2.2.2.2.2) mw mt mv mp) H := hP
            have hD : va_D A (mW cI cJ cZ ma mo (r8.2.1, r8.2.2.1, yupB r8.2.2.2.1 nk false, r8.2.2.2.2.1, r8.2.2.2.2.2.1, r8.2.2.2.2.2.2.1, r8.2.2.2.2.2.2.2.1, r8.2.2.2.2.2.2.2.2) mw mt mv mp) := hD
            refine lv_iload_n hx hb dX5_recover_92 rfl (lv_at hl 1 rfl) ?_
            subst hf
            exact yy_iret (v := 0) hx hb hr hP hK hS hlocks dX5_recover_93
      · have h4 := yB_1 h4
        have hf := yBt h4 hf
        refine lv_aload_n hx hb dX5_recover_27 rfl (lv_at hl 0 rfl) ?_
        refine va_get (D := D) (ci := 5) (v := .ref (ma 9)) (C := RX5) (T := TX5) (N := 25) hx hb hts (yy_tl inX5) hown hK hP 0 rfl rfl 9 (by decide) (hw _ wq_494) (fun _ h9 => h9) rfl dX5_recover_28 ?_
        refine lv_iload_n hx hb dX5_recover_31 rfl (lv_at hl 1 rfl) ?_
        refine yr_ialdN hx hb hK hP 9 0 (g := mn.2.2.2.2.1) (M := 5) (j := nk) rfl rfl rfl (by omega) (by decide) dX5_recover_32 ?_
        refine lv_goto (tgt := 37) hx hb dX5_recover_33 (by decide) ?_
        refine lv_istore_n (lv' := [(2, .int (nI (mn.2.2.2.2.1 nk % 5))), (0, .ref (ma 0)), (1, .int (nI nk))]) hx hb dX5_recover_37 rfl hl (by decide) rfl (fun ls hl => ?_)
        refine lv_aload_n hx hb dX5_recover_38 rfl (lv_at hl 1 rfl) ?_
        refine va_get (D := D) (ci := 5) (v := .ref (ma 10)) (C := RX5) (T := TX5) (N := 25) hx hb hts (yy_tl inX5) hown hK hP 0 rfl rfl 10 (by decide) (hw _ wq_495) (fun _ h9 => h9) rfl dX5_recover_39 ?_
        refine lv_iload_n hx hb dX5_recover_42 rfl (lv_at hl 2 rfl) ?_
        refine yr_zaldB hx hb hK hP 10 2 (g := mn.2.2.2.2.2.1) (j := nk) rfl rfl rfl (by omega) (by decide) dX5_recover_43 ?_
        refine lv_if_eq (tgt := 55) hx hb dX5_recover_44 (by decide) (fun h => absurd h (by rw [h4]; decide)) (fun _ => ?_)
        refine lv_aload_n hx hb dX5_recover_47 rfl (lv_at hl 1 rfl) ?_
        refine lv_iload_n hx hb dX5_recover_48 rfl (lv_at hl 2 rfl) ?_
        obtain ⟨r13, er13⟩ : ∃ r, r = md_replay nk mn := ⟨_, rfl⟩
        have hf := yb_e er13 hf
        refine yz_callV (As := [.int (nI nk)]) (rest := []) ⟨hx, hb, hml, hown, hts⟩ (c_md_replay l D cI cJ cZ cN ma nk mo mn mw mt mv mp (by (try dsimp only) <;> omega) r13 er13) ⟨callB_of 1 hts (yy_good wq_604) rfl rfl rfl (hw _ wq_39) (hw _ wq_601) (by decide +kernel) ⟨Nat.le_of_ble_eq_true rfl, Nat.le_of_ble_eq_true rfl⟩, hw _ wq_603, hw _ wq_22⟩ hK hN hP hD hS hA [0, 1, 2, 3, 4, 5, 6, 7, 8, 9, 10, 11, 12, 13, 14, 15, 16, 17, 18, 19] rfl (by decide) rfl 20 rfl (w2 := (mW cI cJ cZ ma mo r13.2 mw mt mv mp)) rfl 0 rfl rfl rfl hl.1 rfl (Nat.le_of_ble_eq_true rfl) dX5_recover_49 ⟨Nat.zero_le _, Nat.zero_le _⟩ (fun H locs hP hD hS => ?_)
        refine W.eq (g2 := F0 m 52 ls [.int (yB r13.1)]) rfl ?_
        refine lv_goto (tgt := 77) hx hb dX5_recover_52 (by decide) ?_
        refine lv_istore_n (lv' := [(3, .int (yB r13.1)), (2, .int (nI (mn.2.2.2.2.1 nk % 5))), (0, .ref (ma 0)), (1, .int (nI nk))]) hx hb dX5_recover_77 rfl hl (by decide) rfl (fun ls hl => ?_)
        refine lv_iload_n hx hb dX5_recover_78 rfl (lv_at hl 0 rfl) ?_
        refine lv_if_ne (tgt := 85) hx hb dX5_recover_79 (by decide) (fun h14 => ?_) (fun h14 => ?_)
        · have h14 := yB_1 h14
          have hf := yBt h14 hf
          refine lv_aload_n hx hb dX5_recover_85 rfl (lv_at hl 2 rfl) ?_
          refine va_get (D := D) (ci := 5) (v := .ref (ma 7)) (C := RX5) (T := TX5) (N := 25) hx hb hts (yy_tl inX5) hown hK hP 0 rfl rfl 7 (by decide) (hw _ wq_492) (fun _ h9 => h9) rfl dX5_recover_86 ?_
          refine lv_iload_n hx hb dX5_recover_89 rfl (lv_at hl 3 rfl) ?_
          refine lv_iconst (v := 0) hx hb dX5_recover_90 (by decide) ?_
          refine yr_zastB (g := r13.2.2.2.1) (b := false) hx hb hK hP hD hS 7 2 (j := nk) rfl rfl rfl (by omega) (by decide) dX5_recover_91 (fun H locs hP hD hS => ?_)
          have hP : va_P D vwCl (mW cI cJ cZ ma mo (r13.2.1, r13.2.2.1, yupB r13.2.2.2.1 nk false, r13.2.2.2.2.1, r13.2.2.2.2.2.1, r13.2.2.2.2.2.2.1, r13.2.2.2.2.2.2.2.1, r13.2.2.2.2.2.2.2.2) mw mt mv mp) H := hP
          have hD : va_D A (mW cI cJ cZ ma mo (r13.2.1, r13.2.2.1, yupB r13.2.2.2.1 nk false, r13.2.2.2.2.1, r13.2.2.2.2.2.1, r13.2.2.2.2.2.2.1, r13.2.2.2.2.2.2.2.1, r13.2.2.2.2.2.2.2.2) mw mt mv mp) := hD
          refine lv_iload_n hx hb dX5_recover_92 rfl (lv_at hl 1 rfl) ?_
          subst hf
          exact yy_iret (v := (nI (mn.2.2.2.2.1 nk % 5))) hx hb hr hP hK hS hlocks dX5_recover_93
        · have h14 := yB_0.mp h14
          have hf := yBf h14 hf
          refine lv_bipush (v := (-2)) hx hb dX5_recover_82 (by decide) ?_
          subst hf
          exact yy_iret (v := (-2)) hx hb hr hP hK hS hlocks dX5_recover_84
    · have h3 := yB_0.mp h3
      have hf := yBf h3 hf
      refine lv_iconst (v := (-1)) hx hb dX5_recover_16 (by decide) ?_
      subst hf
      exact yy_iret (v := (-1)) hx hb hr hP hK hS hlocks dX5_recover_17

set_option maxHeartbeats 4000000 in
set_option maxRecDepth 100000 in
theorem c_md_collect (l : Launch) (D : va_G) (cI cJ cZ cN : ClassId) (ma : Nat → Nat) (node : Int32) (mo : MO) (mn : MN) (mw : MW) (mt : MT) (mv : (Nat → Int32)) (mp : MP) (ho : mo.1 ≤ 60) (hp : mp.1 ≤ 60) (res : Int32 × MN) (hf : res = md_collect node mo mn) : yy_Met l yX5_collect wsX5_collect { frames := 1, cells := 0, slots := 0, locals := 26 } D vwCl (yT cI cJ cZ cN) [.ref (ma 0), .int node] (mW cI cJ cZ ma mo mn mw mt mv mp) (some (.int res.1)) (mW cI cJ cZ ma mo res.2 mw mt mv mp) := by
  intro sz
  refine Met.ofW (cc := cX5_collect) (maxL := 5) (ret := (some .int)) (by decide) rfl ?_
  intro p e s m args below meth c s₁ B hml hv
  obtain ⟨rfl, hsz, hP, hK, hD0, hN⟩ := hv
  have hx := B.exec
  have hb := B.bytes
  have hr := B.returns
  have hts := atoms_spec (ws := wsX5_collect) B.pre
  have hw : ∀ w ∈ yW, w.before _ s = true := fun w h => hts w (List.mem_cons_of_mem _ h)
  have hown : s.vm.findClass RX5 = some m.cls := findClass_of_methodNamed B.named
  have hlocks := B.notSynchronized
  subst hsz
  have hD := hD0.self (sz := s.heap.size)
  generalize hAe : va_A (mW cI cJ cZ ma mo mn mw mt mv mp) s.heap.size = A at hD ⊢
  have hA : ∀ q : Nat, s.heap.size ≤ q → A q := fun q h => by rw [← hAe]; exact Or.inr h
  have hS : va_S A s.heap s.heap [] := va_S.rf
  have hl := lv_entry ([.ref (ma 0), .int node]) (n := 5) (Nat.le_of_ble_eq_true rfl)
  rw [lg_entry_eq]
  generalize (lg_sl ([.ref (ma 0), .int node]) ++ List.replicate (5 - (lg_sl ([.ref (ma 0), .int node])).length) Slot.unset).toArray = ls at hl ⊢
  have hl : lv_has ls 5 [(0, .ref (ma 0)), (1, .int node)] := hl
  rw [md_collect] at hf
  refine lv_iload_n hx hb dX5_collect_0 rfl (lv_at hl 1 rfl) ?_
  obtain ⟨r1, er1⟩ : ∃ r, r = md_isNode node := ⟨_, rfl⟩
  have hf := yb_e er1 hf
  refine yz_callS (As := [.int node]) (rest := []) ⟨hx, hb, hml, hown, hts⟩ (c_md_isNode l D cI cJ cZ cN node  r1 er1) ⟨callB_of 1 hts (yy_good wq_568) rfl rfl rfl (hw _ wq_39) (hw _ wq_566) (by decide +kernel) ⟨Nat.le_of_ble_eq_true rfl, Nat.le_of_ble_eq_true rfl⟩, hw _ wq_567⟩ hK hN hP hD hS hA [] rfl (by decide) rfl 0 rfl (w2 := (mW cI cJ cZ ma mo mn mw mt mv mp)) rfl rfl hl.1 rfl (Nat.le_of_ble_eq_true rfl) dX5_collect_1 ⟨Nat.zero_le _, Nat.zero_le _⟩ (fun H locs hP hD hS => ?_)
  refine W.eq (g2 := F0 m 4 ls [.int (yB r1)]) rfl ?_
  refine lv_if_ne (tgt := 9) hx hb dX5_collect_4 (by decide) (fun h2 => ?_) (fun h2 => ?_)
  · have h2 := yB_1 h2
    have hf := yBt h2 hf
    obtain ⟨nk, hc_nk, h_nk, he_nk⟩ : ∃ k : Nat, node.toNatClampNeg = k ∧ k < 3 ∧ node = nI k := (md_isNode_nat ‹_ = md_isNode node› ‹_ = true›)
    have hf_nk := yn_e hc_nk hf
    subst he_nk
    have hf := hf_nk
    refine lv_aload_n hx hb dX5_collect_9 rfl (lv_at hl 0 rfl) ?_
    refine va_get (D := D) (ci := 5) (v := .ref (ma 7)) (C := RX5) (T := TX5) (N := 25) hx hb hts (yy_tl inX5) hown hK hP 0 rfl rfl 7 (by decide) (hw _ wq_492) (fun _ h9 => h9) rfl dX5_collect_10 ?_
    refine lv_iload_n hx hb dX5_collect_13 rfl (lv_at hl 1 rfl) ?_
    refine yr_zaldB hx hb hK hP 7 2 (g := mn.2.2.1) (j := nk) rfl rfl rfl (by omega) (by decide) dX5_collect_14 ?_
    refine lv_if_eq (tgt := 21) hx hb dX5_collect_15 (by decide) (fun h3 => ?_) (fun h3 => ?_)
    · have h3 := yB_0.mp h3
      have hf := yBf h3 hf
      refine lv_aload_n hx hb dX5_collect_21 rfl (lv_at hl 0 rfl) ?_
      refine va_get (D := D) (ci := 5) (v := .ref (ma 5)) (C := RX5) (T := TX5) (N := 25) hx hb hts (yy_tl inX5) hown hK hP 0 rfl rfl 5 (by decide) (hw _ wq_490) (fun _ h9 => h9) rfl dX5_collect_22 ?_
      refine lv_iload_n hx hb dX5_collect_25 rfl (lv_at hl 1 rfl) ?_
      refine yr_lald hx hb hK hP 5 1 (f := mn.1) (j := nk) rfl rfl rfl (by omega) (by decide) dX5_collect_26 ?_
      refine lv_aload_n hx hb dX5_collect_27 rfl (lv_at hl 0 rfl) ?_
      refine lv_aload_n hx hb dX5_collect_28 rfl (lv_at hl 0 rfl) ?_
      refine lv_iload_n hx hb dX5_collect_29 rfl (lv_at hl 1 rfl) ?_
      refine lv_iconst (v := (nI 0)) hx hb dX5_collect_30 (by decide) ?_
      refine lv_bipush (v := (nI 7)) hx hb dX5_collect_31 (by decide) ?_
      obtain ⟨r4, er4⟩ : ∃ r, r = md_tips nk 0 7 mn := ⟨_, rfl⟩
      have hf := yb_e er4 hf
      refine yz_callV (As := [.int (nI nk), .int (nI 0), .int (nI 7)]) (rest := [.ref (ma 0), .long (mn.1 nk)]) ⟨hx, hb, hml, hown, hts⟩ (c_md_tips l D cI cJ cZ cN ma nk 0 7 mo mn mw mt mv mp (by (try dsimp only) <;> omega) (by (try dsimp only) <;> omega) (by (try dsimp only) <;> omega) r4 er4) ⟨callB_of 3 hts (yy_good wq_624) rfl rfl rfl (hw _ wq_39) (hw _ wq_621) (by decide +kernel) ⟨Nat.le_of_ble_eq_true rfl, Nat.le_of_ble_eq_true rfl⟩, hw _ wq_623, hw _ wq_25⟩ hK hN hP hD hS hA [0, 1, 2, 3, 4, 5, 6, 7, 8, 9, 10, 11, 12, 13, 14, 15, 16, 17, 18, 19] rfl (by decide) rfl 20 rfl (w2 := (mW cI cJ cZ ma mo mn mw mt mv mp)) rfl 0 rfl rfl rfl hl.1 rfl (Nat.le_of_ble_eq_true rfl) dX5_collect_33 ⟨Nat.zero_le _, Nat.zero_le _⟩ (fun H locs hP hD hS => ?_)
      refine W.eq (g2 := F0 m 36 ls [.long r4, .ref (ma 0), .long (mn.1 nk)]) rfl ?_
      obtain ⟨r5, er5⟩ : ∃ r, r = md_reach r4 mo := ⟨_, rfl⟩
      have hf := yb_e er5 hf
      refine yz_callV (As := [.long r4]) (rest := [.long (mn.1 nk)]) ⟨hx, hb, hml, hown, hts⟩ (c_md_reach l D cI cJ cZ cN ma r4 mo mn mw mt mv mp (by (try dsimp only) <;> omega) r5 er5) ⟨callB_of 1 hts (yy_good wq_628) rfl rfl rfl (hw _ wq_39) (hw _ wq_625) (by decide +kernel) ⟨Nat.le_of_ble_eq_true rfl, Nat.le_of_ble_eq_true rfl⟩, hw _ wq_627, hw _ wq_26⟩ hK hN hP hD hS hA [0, 1, 2, 3, 4, 5, 6, 7, 8, 9, 10, 11, 12, 13, 14, 15, 16, 17, 18, 19] rfl (by decide) rfl 20 rfl (w2 := (mW cI cJ cZ ma mo mn mw mt mv mp)) rfl 0 rfl rfl rfl hl.1 rfl (Nat.le_of_ble_eq_true rfl) dX5_collect_36 ⟨Nat.zero_le _, Nat.zero_le _⟩ (fun H locs hP hD hS => ?_)
      refine W.eq (g2 := F0 m 39 ls [.long r5, .long (mn.1 nk)]) rfl ?_
      refine lv_land hx hb dX5_collect_39 ?_
      refine lv_lstore_n (lv' := [(2, .long ((mn.1 nk) &&& r5)), (0, .ref (ma 0)), (1, .int (nI nk))]) hx hb dX5_collect_40 rfl hl (by decide) rfl (fun ls hl => ?_)
      refine lv_aload_n hx hb dX5_collect_41 rfl (lv_at hl 1 rfl) ?_
      refine va_get (D := D) (ci := 5) (v := .ref (ma 5)) (C := RX5) (T := TX5) (N := 25) hx hb hts (yy_tl inX5) hown hK hP 0 rfl rfl 5 (by decide) (hw _ wq_490) (fun _ h9 => h9) rfl dX5_collect_42 ?_
      refine lv_iload_n hx hb dX5_collect_45 rfl (lv_at hl 2 rfl) ?_
      refine yr_lald hx hb hK hP 5 1 (f := mn.1) (j := nk) rfl rfl rfl (by omega) (by decide) dX5_collect_46 ?_
      obtain ⟨r6, er6⟩ : ∃ r, r = md_many (mn.1 nk) := ⟨_, rfl⟩
      have hf := yb_e er6 hf
      refine yz_callS (As := [.long (mn.1 nk)]) (rest := []) ⟨hx, hb, hml, hown, hts⟩ (c_md_many l D cI cJ cZ cN (mn.1 nk)  r6 er6) ⟨callB_of 1 hts (yy_good wq_632) rfl rfl rfl (hw _ wq_39) (hw _ wq_630) (by decide +kernel) ⟨Nat.le_of_ble_eq_true rfl, Nat.le_of_ble_eq_true rfl⟩, hw _ wq_631⟩ hK hN hP hD hS hA [] rfl (by decide) rfl 0 rfl (w2 := (mW cI cJ cZ ma mo mn mw mt mv mp)) rfl rfl hl.1 rfl (Nat.le_of_ble_eq_true rfl) dX5_collect_47 ⟨Nat.zero_le _, Nat.zero_le _⟩ (fun H locs hP hD hS => ?_)
      refine W.eq (g2 := F0 m 50 ls [.int r6]) rfl ?_
      refine lv_lload_n hx hb dX5_collect_50 rfl (lv_at hl 0 rfl) ?_
      obtain ⟨r7, er7⟩ : ∃ r, r = md_many ((mn.1 nk) &&& r5) := ⟨_, rfl⟩
      have hf := yb_e er7 hf
      refine yz_callS (As := [.long ((mn.1 nk) &&& r5)]) (rest := [.int r6]) ⟨hx, hb, hml, hown, hts⟩ (c_md_many l D cI cJ cZ cN ((mn.1 nk) &&& r5)  r7 er7) ⟨callB_of 1 hts (yy_good wq_632) rfl rfl rfl (hw _ wq_39) (hw _ wq_630) (by decide +kernel) ⟨Nat.le_of_ble_eq_true rfl, Nat.le_of_ble_eq_true rfl⟩, hw _ wq_631⟩ hK hN hP hD hS hA [] rfl (by decide) rfl 0 rfl (w2 := (mW cI cJ cZ ma mo mn mw mt mv mp)) rfl rfl hl.1 rfl (Nat.le_of_ble_eq_true rfl) dX5_collect_51 ⟨Nat.zero_le _, Nat.zero_le _⟩ (fun H locs hP hD hS => ?_)
      refine W.eq (g2 := F0 m 54 ls [.int r7, .int r6]) rfl ?_
      refine lv_isub hx hb dX5_collect_54 ?_
      refine lv_istore (lv' := [(4, .int (r6 - r7)), (2, .long ((mn.1 nk) &&& r5)), (0, .ref (ma 0)), (1, .int (nI nk))]) hx hb dX5_collect_55 hl (by decide) rfl (fun ls hl => ?_)
      refine lv_aload_n hx hb dX5_collect_57 rfl (lv_at hl 2 rfl) ?_
      refine va_get (D := D) (ci := 5) (v := .ref (ma 5)) (C := RX5) (T := TX5) (N := 25) hx hb hts (yy_tl inX5) hown hK hP 0 rfl rfl 5 (by decide) (hw _ wq_490) (fun _ h9 => h9) rfl dX5_collect_58 ?_
      refine lv_iload_n hx hb dX5_collect_61 rfl (lv_at hl 3 rfl) ?_
      refine lv_lload_n hx hb dX5_collect_62 rfl (lv_at hl 1 rfl) ?_
      refine yr_last hx hb hK hP hD hS 5 1 (f := mn.1) (j := nk) rfl rfl rfl (by omega) (by decide) dX5_collect_63 (fun H locs hP hD hS => ?_)
      have hP : va_P D vwCl (mW cI cJ cZ ma mo (vp_updL mn.1 nk ((mn.1 nk) &&& r5), mn.2.1, mn.2.2.1, mn.2.2.2.1, mn.2.2.2.2.1, mn.2.2.2.2.2.1, mn.2.2.2.2.2.2.1, mn.2.2.2.2.2.2.2) mw mt mv mp) H := hP
      have hD : va_D A (mW cI cJ cZ ma mo (vp_updL mn.1 nk ((mn.1 nk) &&& r5), mn.2.1, mn.2.2.1, mn.2.2.2.1, mn.2.2.2.2.1, mn.2.2.2.2.2.1, mn.2.2.2.2.2.2.1, mn.2.2.2.2.2.2.2) mw mt mv mp) := hD
      refine lv_iload hx hb dX5_collect_64 (lv_at hl 0 rfl) ?_
      subst hf
      exact yy_iret (v := (r6 - r7)) hx hb hr hP hK hS hlocks dX5_collect_66
    · have h3 := yB_1 h3
      have hf := yBt h3 hf
      refine lv_bipush (v := (-2)) hx hb dX5_collect_18 (by decide) ?_
      subst hf
      exact yy_iret (v := (-2)) hx hb hr hP hK hS hlocks dX5_collect_20
  · have h2 := yB_0.mp h2
    have hf := yBf h2 hf
    refine lv_iconst (v := (-1)) hx hb dX5_collect_7 (by decide) ?_
    subst hf
    exact yy_iret (v := (-1)) hx hb hr hP hK hS hlocks dX5_collect_8

set_option maxHeartbeats 4000000 in
set_option maxRecDepth 100000 in
theorem c_md_up (l : Launch) (D : va_G) (cI cJ cZ cN : ClassId) (ma : Nat → Nat) (node : Int32) (mo : MO) (mn : MN) (mw : MW) (mt : MT) (mv : (Nat → Int32)) (mp : MP) (ho : mo.1 ≤ 60) (hp : mp.1 ≤ 60) (res : Bool) (hf : res = md_up node mn) : yy_Met l yX5_up wsX5_up { frames := 1, cells := 0, slots := 0, locals := 20 } D vwCl (yT cI cJ cZ cN) [.ref (ma 0), .int node] (mW cI cJ cZ ma mo mn mw mt mv mp) (some (.int (yB res))) (mW cI cJ cZ ma mo mn mw mt mv mp) := by
  intro sz
  refine Met.ofW (cc := cX5_up) (maxL := 2) (ret := (some .boolean)) (by decide) rfl ?_
  intro p e s m args below meth c s₁ B hml hv
  obtain ⟨rfl, hsz, hP, hK, hD0, hN⟩ := hv
  have hx := B.exec
  have hb := B.bytes
  have hr := B.returns
  have hts := atoms_spec (ws := wsX5_up) B.pre
  have hw : ∀ w ∈ yW, w.before _ s = true := fun w h => hts w (List.mem_cons_of_mem _ h)
  have hown : s.vm.findClass RX5 = some m.cls := findClass_of_methodNamed B.named
  have hlocks := B.notSynchronized
  subst hsz
  have hD := hD0.self (sz := s.heap.size)
  generalize hAe : va_A (mW cI cJ cZ ma mo mn mw mt mv mp) s.heap.size = A at hD ⊢
  have hA : ∀ q : Nat, s.heap.size ≤ q → A q := fun q h => by rw [← hAe]; exact Or.inr h
  have hS : va_S A s.heap s.heap [] := va_S.rf
  have hl := lv_entry ([.ref (ma 0), .int node]) (n := 2) (Nat.le_of_ble_eq_true rfl)
  rw [lg_entry_eq]
  generalize (lg_sl ([.ref (ma 0), .int node]) ++ List.replicate (2 - (lg_sl ([.ref (ma 0), .int node])).length) Slot.unset).toArray = ls at hl ⊢
  have hl : lv_has ls 2 [(0, .ref (ma 0)), (1, .int node)] := hl
  rw [md_up] at hf
  refine lv_iload_n hx hb dX5_up_0 rfl (lv_at hl 1 rfl) ?_
  obtain ⟨r1, er1⟩ : ∃ r, r = md_isNode node := ⟨_, rfl⟩
  have hf := yb_e er1 hf
  refine yz_callS (As := [.int node]) (rest := []) ⟨hx, hb, hml, hown, hts⟩ (c_md_isNode l D cI cJ cZ cN node  r1 er1) ⟨callB_of 1 hts (yy_good wq_568) rfl rfl rfl (hw _ wq_39) (hw _ wq_566) (by decide +kernel) ⟨Nat.le_of_ble_eq_true rfl, Nat.le_of_ble_eq_true rfl⟩, hw _ wq_567⟩ hK hN hP hD hS hA [] rfl (by decide) rfl 0 rfl (w2 := (mW cI cJ cZ ma mo mn mw mt mv mp)) rfl rfl hl.1 rfl (Nat.le_of_ble_eq_true rfl) dX5_up_1 ⟨Nat.zero_le _, Nat.zero_le _⟩ (fun H locs hP hD hS => ?_)
  refine W.eq (g2 := F0 m 4 ls [.int (yB r1)]) rfl ?_
  refine lv_if_eq (tgt := 20) hx hb dX5_up_4 (by decide) (fun h2 => ?_) (fun h2 => ?_)
  · have h2 := yB_0.mp h2
    have hf := yBf h2 hf
    refine lv_iconst (v := 0) hx hb dX5_up_20 (by decide) ?_
    subst hf
    exact yy_zret (v := yB false) hx hb hr (yB_n _) hP hK hS hlocks dX5_up_21
  · have h2 := yB_1 h2
    have hf := yBt h2 hf
    obtain ⟨nk, hc_nk, h_nk, he_nk⟩ : ∃ k : Nat, node.toNatClampNeg = k ∧ k < 3 ∧ node = nI k := (md_isNode_nat ‹_ = md_isNode node› ‹_ = true›)
    have hf_nk := yn_e hc_nk hf
    subst he_nk
    have hf := hf_nk
    refine lv_aload_n hx hb dX5_up_7 rfl (lv_at hl 0 rfl) ?_
    refine va_get (D := D) (ci := 5) (v := .ref (ma 7)) (C := RX5) (T := TX5) (N := 25) hx hb hts (yy_tl inX5) hown hK hP 0 rfl rfl 7 (by decide) (hw _ wq_492) (fun _ h9 => h9) rfl dX5_up_8 ?_
    refine lv_iload_n hx hb dX5_up_11 rfl (lv_at hl 1 rfl) ?_
    refine yr_zaldB hx hb hK hP 7 2 (g := mn.2.2.1) (j := nk) rfl rfl rfl (by omega) (by decide) dX5_up_12 ?_
    refine lv_if_ne (tgt := 20) hx hb dX5_up_13 (by decide) (fun h3 => ?_) (fun h3 => ?_)
    · have h3 := yB_1 h3
      have hf := yBt h3 hf
      refine lv_iconst (v := 0) hx hb dX5_up_20 (by decide) ?_
      subst hf
      exact yy_zret (v := yB false) hx hb hr (yB_n _) hP hK hS hlocks dX5_up_21
    · have h3 := yB_0.mp h3
      have hf := yBf h3 hf
      refine lv_iconst (v := 1) hx hb dX5_up_16 (by decide) ?_
      refine lv_goto (tgt := 21) hx hb dX5_up_17 (by decide) ?_
      subst hf
      exact yy_zret (v := yB true) hx hb hr (yB_n _) hP hK hS hlocks dX5_up_21

set_option maxHeartbeats 4000000 in
set_option maxRecDepth 100000 in
theorem c_md_reference (l : Launch) (D : va_G) (cI cJ cZ cN : ClassId) (ma : Nat → Nat) (node : Int32) (rf : Int32) (mo : MO) (mn : MN) (mw : MW) (mt : MT) (mv : (Nat → Int32)) (mp : MP) (ho : mo.1 ≤ 60) (hp : mp.1 ≤ 60) (res : Int32) (hf : res = md_reference node rf mn) : yy_Met l yX5_reference wsX5_reference { frames := 1, cells := 0, slots := 0, locals := 20 } D vwCl (yT cI cJ cZ cN) [.ref (ma 0), .int node, .int rf] (mW cI cJ cZ ma mo mn mw mt mv mp) (some (.int res)) (mW cI cJ cZ ma mo mn mw mt mv mp) := by
  intro sz
  refine Met.ofW (cc := cX5_reference) (maxL := 4) (ret := (some .int)) (by decide) rfl ?_
  intro p e s m args below meth c s₁ B hml hv
  obtain ⟨rfl, hsz, hP, hK, hD0, hN⟩ := hv
  have hx := B.exec
  have hb := B.bytes
  have hr := B.returns
  have hts := atoms_spec (ws := wsX5_reference) B.pre
  have hw : ∀ w ∈ yW, w.before _ s = true := fun w h => hts w (List.mem_cons_of_mem _ h)
  have hown : s.vm.findClass RX5 = some m.cls := findClass_of_methodNamed B.named
  have hlocks := B.notSynchronized
  subst hsz
  have hD := hD0.self (sz := s.heap.size)
  generalize hAe : va_A (mW cI cJ cZ ma mo mn mw mt mv mp) s.heap.size = A at hD ⊢
  have hA : ∀ q : Nat, s.heap.size ≤ q → A q := fun q h => by rw [← hAe]; exact Or.inr h
  have hS : va_S A s.heap s.heap [] := va_S.rf
  have hl := lv_entry ([.ref (ma 0), .int node, .int rf]) (n := 4) (Nat.le_of_ble_eq_true rfl)
  rw [lg_entry_eq]
  generalize (lg_sl ([.ref (ma 0), .int node, .int rf]) ++ List.replicate (4 - (lg_sl ([.ref (ma 0), .int node, .int rf])).length) Slot.unset).toArray = ls at hl ⊢
  have hl : lv_has ls 4 [(0, .ref (ma 0)), (1, .int node), (2, .int rf)] := hl
  rw [md_reference] at hf
  refine lv_iload_n hx hb dX5_reference_0 rfl (lv_at hl 1 rfl) ?_
  obtain ⟨r1, er1⟩ : ∃ r, r = md_isNode node := ⟨_, rfl⟩
  have hf := yb_e er1 hf
  refine yz_callS (As := [.int node]) (rest := []) ⟨hx, hb, hml, hown, hts⟩ (c_md_isNode l D cI cJ cZ cN node  r1 er1) ⟨callB_of 1 hts (yy_good wq_568) rfl rfl rfl (hw _ wq_39) (hw _ wq_566) (by decide +kernel) ⟨Nat.le_of_ble_eq_true rfl, Nat.le_of_ble_eq_true rfl⟩, hw _ wq_567⟩ hK hN hP hD hS hA [] rfl (by decide) rfl 0 rfl (w2 := (mW cI cJ cZ ma mo mn mw mt mv mp)) rfl rfl hl.1 rfl (Nat.le_of_ble_eq_true rfl) dX5_reference_1 ⟨Nat.zero_le _, Nat.zero_le _⟩ (fun H locs hP hD hS => ?_)
  refine W.eq (g2 := F0 m 4 ls [.int (yB r1)]) rfl ?_
  refine lv_if_eq (tgt := 17) hx hb dX5_reference_4 (by decide) (fun h2 => ?_) (fun h2 => ?_)
  · have h2 := yB_0.mp h2
    have hf := yBf h2 hf
    refine lv_iconst (v := (-1)) hx hb dX5_reference_17 (by decide) ?_
    subst hf
    exact yy_iret (v := (-1)) hx hb hr hP hK hS hlocks dX5_reference_18
  · have h2 := yB_1 h2
    have hf := yBt h2 hf
    refine lv_iload_n hx hb dX5_reference_7 rfl (lv_at hl 2 rfl) ?_
    refine lv_if_lt (tgt := 17) hx hb dX5_reference_8 (by decide) (fun h3 => ?_) (fun h3 => ?_)
    · have hf := yt h3 hf
      refine lv_iconst (v := (-1)) hx hb dX5_reference_17 (by decide) ?_
      subst hf
      exact yy_iret (v := (-1)) hx hb hr hP hK hS hlocks dX5_reference_18
    · have hf := yf h3 hf
      refine lv_iload_n hx hb dX5_reference_11 rfl (lv_at hl 2 rfl) ?_
      refine lv_bipush (v := 7) hx hb dX5_reference_12 (by decide) ?_
      refine lv_icmp_le (tgt := 19) hx hb dX5_reference_14 (by decide) (fun h4 => ?_) (fun h4 => ?_)
      · have hf := yt h4 hf
        obtain ⟨nk, hc_nk, h_nk, he_nk⟩ : ∃ k : Nat, node.toNatClampNeg = k ∧ k < 3 ∧ node = nI k := (md_isNode_nat ‹_ = md_isNode node› ‹_ = true›)
        have hf_nk := yn_e hc_nk hf
        subst he_nk
        have hf := hf_nk
        obtain ⟨rn, hc_rn, h_rn, he_rn⟩ : ∃ k : Nat, rf.toNatClampNeg = k ∧ k < 8 ∧ rf = nI k := (yy_nat8 ‹¬ rf < 0› ‹rf ≤ 7›)
        have hf_rn := yn_e hc_rn hf
        subst he_rn
        have hf := hf_rn
        refine lv_aload_n hx hb dX5_reference_19 rfl (lv_at hl 0 rfl) ?_
        refine va_get (D := D) (ci := 5) (v := .ref (ma 7)) (C := RX5) (T := TX5) (N := 25) hx hb hts (yy_tl inX5) hown hK hP 0 rfl rfl 7 (by decide) (hw _ wq_492) (fun _ h9 => h9) rfl dX5_reference_20 ?_
        refine lv_iload_n hx hb dX5_reference_23 rfl (lv_at hl 1 rfl) ?_
        refine yr_zaldB hx hb hK hP 7 2 (g := mn.2.2.1) (j := nk) rfl rfl rfl (by omega) (by decide) dX5_reference_24 ?_
        refine lv_if_eq (tgt := 31) hx hb dX5_reference_25 (by decide) (fun h5 => ?_) (fun h5 => ?_)
        · have h5 := yB_0.mp h5
          have hf := yBf h5 hf
          refine lv_aload_n hx hb dX5_reference_31 rfl (lv_at hl 0 rfl) ?_
          refine va_get (D := D) (ci := 5) (v := .ref (ma 6)) (C := RX5) (T := TX5) (N := 25) hx hb hts (yy_tl inX5) hown hK hP 0 rfl rfl 6 (by decide) (hw _ wq_491) (fun _ h9 => h9) rfl dX5_reference_32 ?_
          refine lv_bipush (v := (nI 8)) hx hb dX5_reference_35 (by decide) ?_
          refine lv_iload_n hx hb dX5_reference_37 rfl (lv_at hl 1 rfl) ?_
          refine yr_imulN hx hb dX5_reference_38 ?_
          refine lv_iload_n hx hb dX5_reference_39 rfl (lv_at hl 2 rfl) ?_
          refine yr_iaddN hx hb dX5_reference_40 ?_
          refine yr_iald hx hb hK hP 6 0 (f := mn.2.1) (j := (8 * nk) + rn) rfl rfl rfl (by omega) (by decide) dX5_reference_41 ?_
          refine lv_istore_n (lv' := [(3, .int (mn.2.1 ((8 * nk) + rn))), (0, .ref (ma 0)), (1, .int (nI nk)), (2, .int (nI rn))]) hx hb dX5_reference_42 rfl hl (by decide) rfl (fun ls hl => ?_)
          refine lv_iload_n hx hb dX5_reference_43 rfl (lv_at hl 0 rfl) ?_
          refine lv_if_ne (tgt := 52) hx hb dX5_reference_44 (by decide) (fun h6 => ?_) (fun h6 => ?_)
          · have hf := yf h6 hf
            refine lv_iload_n hx hb dX5_reference_52 rfl (lv_at hl 0 rfl) ?_
            refine lv_iconst (v := 1) hx hb dX5_reference_53 (by decide) ?_
            refine lv_isub hx hb dX5_reference_54 ?_
            subst hf
            exact yy_iret (v := ((mn.2.1 ((8 * nk) + rn)) - 1)) hx hb hr hP hK hS hlocks dX5_reference_55
          · have hf := yt h6 hf
            refine lv_bipush (v := (-4)) hx hb dX5_reference_47 (by decide) ?_
            refine lv_goto (tgt := 55) hx hb dX5_reference_49 (by decide) ?_
            subst hf
            exact yy_iret (v := (-4)) hx hb hr hP hK hS hlocks dX5_reference_55
        · have h5 := yB_1 h5
          have hf := yBt h5 hf
          refine lv_bipush (v := (-2)) hx hb dX5_reference_28 (by decide) ?_
          subst hf
          exact yy_iret (v := (-2)) hx hb hr hP hK hS hlocks dX5_reference_30
      · have hf := yf h4 hf
        refine lv_iconst (v := (-1)) hx hb dX5_reference_17 (by decide) ?_
        subst hf
        exact yy_iret (v := (-1)) hx hb hr hP hK hS hlocks dX5_reference_18

set_option maxHeartbeats 4000000 in
set_option maxRecDepth 100000 in
theorem c_md_holds (l : Launch) (D : va_G) (cI cJ cZ cN : ClassId) (ma : Nat → Nat) (node : Int32) (num : Int32) (mo : MO) (mn : MN) (mw : MW) (mt : MT) (mv : (Nat → Int32)) (mp : MP) (ho : mo.1 ≤ 60) (hp : mp.1 ≤ 60) (res : Int32) (hf : res = md_holds node num mo mn) : yy_Met l yX5_holds wsX5_holds { frames := 1, cells := 0, slots := 0, locals := 22 } D vwCl (yT cI cJ cZ cN) [.ref (ma 0), .int node, .int num] (mW cI cJ cZ ma mo mn mw mt mv mp) (some (.int res)) (mW cI cJ cZ ma mo mn mw mt mv mp) := by
  intro sz
  refine Met.ofW (cc := cX5_holds) (maxL := 3) (ret := (some .int)) (by decide) rfl ?_
  intro p e s m args below meth c s₁ B hml hv
  obtain ⟨rfl, hsz, hP, hK, hD0, hN⟩ := hv
  have hx := B.exec
  have hb := B.bytes
  have hr := B.returns
  have hts := atoms_spec (ws := wsX5_holds) B.pre
  have hw : ∀ w ∈ yW, w.before _ s = true := fun w h => hts w (List.mem_cons_of_mem _ h)
  have hown : s.vm.findClass RX5 = some m.cls := findClass_of_methodNamed B.named
  have hlocks := B.notSynchronized
  subst hsz
  have hD := hD0.self (sz := s.heap.size)
  generalize hAe : va_A (mW cI cJ cZ ma mo mn mw mt mv mp) s.heap.size = A at hD ⊢
  have hA : ∀ q : Nat, s.heap.size ≤ q → A q := fun q h => by rw [← hAe]; exact Or.inr h
  have hS : va_S A s.heap s.heap [] := va_S.rf
  have hl := lv_entry ([.ref (ma 0), .int node, .int num]) (n := 3) (Nat.le_of_ble_eq_true rfl)
  rw [lg_entry_eq]
  generalize (lg_sl ([.ref (ma 0), .int node, .int num]) ++ List.replicate (3 - (lg_sl ([.ref (ma 0), .int node, .int num])).length) Slot.unset).toArray = ls at hl ⊢
  have hl : lv_has ls 3 [(0, .ref (ma 0)), (1, .int node), (2, .int num)] := hl
  rw [md_holds] at hf
  refine lv_iload_n hx hb dX5_holds_0 rfl (lv_at hl 1 rfl) ?_
  obtain ⟨r1, er1⟩ : ∃ r, r = md_isNode node := ⟨_, rfl⟩
  have hf := yb_e er1 hf
  refine yz_callS (As := [.int node]) (rest := []) ⟨hx, hb, hml, hown, hts⟩ (c_md_isNode l D cI cJ cZ cN node  r1 er1) ⟨callB_of 1 hts (yy_good wq_568) rfl rfl rfl (hw _ wq_39) (hw _ wq_566) (by decide +kernel) ⟨Nat.le_of_ble_eq_true rfl, Nat.le_of_ble_eq_true rfl⟩, hw _ wq_567⟩ hK hN hP hD hS hA [] rfl (by decide) rfl 0 rfl (w2 := (mW cI cJ cZ ma mo mn mw mt mv mp)) rfl rfl hl.1 rfl (Nat.le_of_ble_eq_true rfl) dX5_holds_1 ⟨Nat.zero_le _, Nat.zero_le _⟩ (fun H locs hP hD hS => ?_)
  refine W.eq (g2 := F0 m 4 ls [.int (yB r1)]) rfl ?_
  refine lv_if_ne (tgt := 9) hx hb dX5_holds_4 (by decide) (fun h2 => ?_) (fun h2 => ?_)
  · have h2 := yB_1 h2
    have hf := yBt h2 hf
    obtain ⟨nk, hc_nk, h_nk, he_nk⟩ : ∃ k : Nat, node.toNatClampNeg = k ∧ k < 3 ∧ node = nI k := (md_isNode_nat ‹_ = md_isNode node› ‹_ = true›)
    have hf_nk := yn_e hc_nk hf
    subst he_nk
    have hf := hf_nk
    refine lv_aload_n hx hb dX5_holds_9 rfl (lv_at hl 0 rfl) ?_
    refine va_get (D := D) (ci := 5) (v := .ref (ma 7)) (C := RX5) (T := TX5) (N := 25) hx hb hts (yy_tl inX5) hown hK hP 0 rfl rfl 7 (by decide) (hw _ wq_492) (fun _ h9 => h9) rfl dX5_holds_10 ?_
    refine lv_iload_n hx hb dX5_holds_13 rfl (lv_at hl 1 rfl) ?_
    refine yr_zaldB hx hb hK hP 7 2 (g := mn.2.2.1) (j := nk) rfl rfl rfl (by omega) (by decide) dX5_holds_14 ?_
    refine lv_if_eq (tgt := 23) hx hb dX5_holds_15 (by decide) (fun h3 => ?_) (fun h3 => ?_)
    · have h3 := yB_0.mp h3
      have hf := yBf h3 hf
      refine lv_aload_n hx hb dX5_holds_23 rfl (lv_at hl 0 rfl) ?_
      refine lv_iload_n hx hb dX5_holds_24 rfl (lv_at hl 1 rfl) ?_
      refine lv_iload_n hx hb dX5_holds_25 rfl (lv_at hl 2 rfl) ?_
      obtain ⟨r4, er4⟩ : ∃ r, r = md_has nk num mo mn := ⟨_, rfl⟩
      have hf := yb_e er4 hf
      refine yz_callV (As := [.int (nI nk), .int num]) (rest := []) ⟨hx, hb, hml, hown, hts⟩ (c_md_has l D cI cJ cZ cN ma nk num mo mn mw mt mv mp (by (try dsimp only) <;> omega) r4 er4) ⟨callB_of 2 hts (yy_good wq_576) rfl rfl rfl (hw _ wq_39) (hw _ wq_573) (by decide +kernel) ⟨Nat.le_of_ble_eq_true rfl, Nat.le_of_ble_eq_true rfl⟩, hw _ wq_575, hw _ wq_17⟩ hK hN hP hD hS hA [0, 1, 2, 3, 4, 5, 6, 7, 8, 9, 10, 11, 12, 13, 14, 15, 16, 17, 18, 19] rfl (by decide) rfl 20 rfl (w2 := (mW cI cJ cZ ma mo mn mw mt mv mp)) rfl 0 rfl rfl rfl hl.1 rfl (Nat.le_of_ble_eq_true rfl) dX5_holds_26 ⟨Nat.zero_le _, Nat.zero_le _⟩ (fun H locs hP hD hS => ?_)
      refine W.eq (g2 := F0 m 29 ls [.int (yB r4)]) rfl ?_
      refine lv_if_eq (tgt := 36) hx hb dX5_holds_29 (by decide) (fun h5 => ?_) (fun h5 => ?_)
      · have h5 := yB_0.mp h5
        have hf := yBf h5 hf
        refine lv_iconst (v := 0) hx hb dX5_holds_36 (by decide) ?_
        subst hf
        exact yy_iret (v := 0) hx hb hr hP hK hS hlocks dX5_holds_37
      · have h5 := yB_1 h5
        have hf := yBt h5 hf
        refine lv_iconst (v := 1) hx hb dX5_holds_32 (by decide) ?_
        refine lv_goto (tgt := 37) hx hb dX5_holds_33 (by decide) ?_
        subst hf
        exact yy_iret (v := 1) hx hb hr hP hK hS hlocks dX5_holds_37
    · have h3 := yB_1 h3
      have hf := yBt h3 hf
      refine lv_bipush (v := (-2)) hx hb dX5_holds_18 (by decide) ?_
      refine lv_goto (tgt := 37) hx hb dX5_holds_20 (by decide) ?_
      subst hf
      exact yy_iret (v := (-2)) hx hb hr hP hK hS hlocks dX5_holds_37
  · have h2 := yB_0.mp h2
    have hf := yBf h2 hf
    refine lv_iconst (v := (-1)) hx hb dX5_holds_7 (by decide) ?_
    subst hf
    exact yy_iret (v := (-1)) hx hb hr hP hK hS hlocks dX5_holds_8

set_option maxHeartbeats 4000000 in
set_option maxRecDepth 100000 in
theorem c_md_count (l : Launch) (D : va_G) (cI cJ cZ cN : ClassId) (ma : Nat → Nat) (node : Int32) (mo : MO) (mn : MN) (mw : MW) (mt : MT) (mv : (Nat → Int32)) (mp : MP) (ho : mo.1 ≤ 60) (hp : mp.1 ≤ 60) (res : Int32) (hf : res = md_count node mn) : yy_Met l yX5_count wsX5_count { frames := 1, cells := 0, slots := 0, locals := 23 } D vwCl (yT cI cJ cZ cN) [.ref (ma 0), .int node] (mW cI cJ cZ ma mo mn mw mt mv mp) (some (.int res)) (mW cI cJ cZ ma mo mn mw mt mv mp) := by
  intro sz
  refine Met.ofW (cc := cX5_count) (maxL := 2) (ret := (some .int)) (by decide) rfl ?_
  intro p e s m args below meth c s₁ B hml hv
  obtain ⟨rfl, hsz, hP, hK, hD0, hN⟩ := hv
  have hx := B.exec
  have hb := B.bytes
  have hr := B.returns
  have hts := atoms_spec (ws := wsX5_count) B.pre
  have hw : ∀ w ∈ yW, w.before _ s = true := fun w h => hts w (List.mem_cons_of_mem _ h)
  have hown : s.vm.findClass RX5 = some m.cls := findClass_of_methodNamed B.named
  have hlocks := B.notSynchronized
  subst hsz
  have hD := hD0.self (sz := s.heap.size)
  generalize hAe : va_A (mW cI cJ cZ ma mo mn mw mt mv mp) s.heap.size = A at hD ⊢
  have hA : ∀ q : Nat, s.heap.size ≤ q → A q := fun q h => by rw [← hAe]; exact Or.inr h
  have hS : va_S A s.heap s.heap [] := va_S.rf
  have hl := lv_entry ([.ref (ma 0), .int node]) (n := 2) (Nat.le_of_ble_eq_true rfl)
  rw [lg_entry_eq]
  generalize (lg_sl ([.ref (ma 0), .int node]) ++ List.replicate (2 - (lg_sl ([.ref (ma 0), .int node])).length) Slot.unset).toArray = ls at hl ⊢
  have hl : lv_has ls 2 [(0, .ref (ma 0)), (1, .int node)] := hl
  rw [md_count] at hf
  refine lv_iload_n hx hb dX5_count_0 rfl (lv_at hl 1 rfl) ?_
  obtain ⟨r1, er1⟩ : ∃ r, r = md_isNode node := ⟨_, rfl⟩
  have hf := yb_e er1 hf
  refine yz_callS (As := [.int node]) (rest := []) ⟨hx, hb, hml, hown, hts⟩ (c_md_isNode l D cI cJ cZ cN node  r1 er1) ⟨callB_of 1 hts (yy_good wq_568) rfl rfl rfl (hw _ wq_39) (hw _ wq_566) (by decide +kernel) ⟨Nat.le_of_ble_eq_true rfl, Nat.le_of_ble_eq_true rfl⟩, hw _ wq_567⟩ hK hN hP hD hS hA [] rfl (by decide) rfl 0 rfl (w2 := (mW cI cJ cZ ma mo mn mw mt mv mp)) rfl rfl hl.1 rfl (Nat.le_of_ble_eq_true rfl) dX5_count_1 ⟨Nat.zero_le _, Nat.zero_le _⟩ (fun H locs hP hD hS => ?_)
  refine W.eq (g2 := F0 m 4 ls [.int (yB r1)]) rfl ?_
  refine lv_if_ne (tgt := 9) hx hb dX5_count_4 (by decide) (fun h2 => ?_) (fun h2 => ?_)
  · have h2 := yB_1 h2
    have hf := yBt h2 hf
    obtain ⟨nk, hc_nk, h_nk, he_nk⟩ : ∃ k : Nat, node.toNatClampNeg = k ∧ k < 3 ∧ node = nI k := (md_isNode_nat ‹_ = md_isNode node› ‹_ = true›)
    have hf_nk := yn_e hc_nk hf
    subst he_nk
    have hf := hf_nk
    refine lv_aload_n hx hb dX5_count_9 rfl (lv_at hl 0 rfl) ?_
    refine va_get (D := D) (ci := 5) (v := .ref (ma 7)) (C := RX5) (T := TX5) (N := 25) hx hb hts (yy_tl inX5) hown hK hP 0 rfl rfl 7 (by decide) (hw _ wq_492) (fun _ h9 => h9) rfl dX5_count_10 ?_
    refine lv_iload_n hx hb dX5_count_13 rfl (lv_at hl 1 rfl) ?_
    refine yr_zaldB hx hb hK hP 7 2 (g := mn.2.2.1) (j := nk) rfl rfl rfl (by omega) (by decide) dX5_count_14 ?_
    refine lv_if_eq (tgt := 23) hx hb dX5_count_15 (by decide) (fun h3 => ?_) (fun h3 => ?_)
    · have h3 := yB_0.mp h3
      have hf := yBf h3 hf
      refine lv_aload_n hx hb dX5_count_23 rfl (lv_at hl 0 rfl) ?_
      refine va_get (D := D) (ci := 5) (v := .ref (ma 5)) (C := RX5) (T := TX5) (N := 25) hx hb hts (yy_tl inX5) hown hK hP 0 rfl rfl 5 (by decide) (hw _ wq_490) (fun _ h9 => h9) rfl dX5_count_24 ?_
      refine lv_iload_n hx hb dX5_count_27 rfl (lv_at hl 1 rfl) ?_
      refine yr_lald hx hb hK hP 5 1 (f := mn.1) (j := nk) rfl rfl rfl (by omega) (by decide) dX5_count_28 ?_
      obtain ⟨r4, er4⟩ : ∃ r, r = md_many (mn.1 nk) := ⟨_, rfl⟩
      have hf := yb_e er4 hf
      refine yz_callS (As := [.long (mn.1 nk)]) (rest := []) ⟨hx, hb, hml, hown, hts⟩ (c_md_many l D cI cJ cZ cN (mn.1 nk)  r4 er4) ⟨callB_of 1 hts (yy_good wq_632) rfl rfl rfl (hw _ wq_39) (hw _ wq_630) (by decide +kernel) ⟨Nat.le_of_ble_eq_true rfl, Nat.le_of_ble_eq_true rfl⟩, hw _ wq_631⟩ hK hN hP hD hS hA [] rfl (by decide) rfl 0 rfl (w2 := (mW cI cJ cZ ma mo mn mw mt mv mp)) rfl rfl hl.1 rfl (Nat.le_of_ble_eq_true rfl) dX5_count_29 ⟨Nat.zero_le _, Nat.zero_le _⟩ (fun H locs hP hD hS => ?_)
      refine W.eq (g2 := F0 m 32 ls [.int r4]) rfl ?_
      subst hf
      exact yy_iret hx hb hr hP hK hS hlocks dX5_count_32
    · have h3 := yB_1 h3
      have hf := yBt h3 hf
      refine lv_bipush (v := (-2)) hx hb dX5_count_18 (by decide) ?_
      refine lv_goto (tgt := 32) hx hb dX5_count_20 (by decide) ?_
      subst hf
      exact yy_iret (v := (-2)) hx hb hr hP hK hS hlocks dX5_count_32
  · have h2 := yB_0.mp h2
    have hf := yBf h2 hf
    refine lv_iconst (v := (-1)) hx hb dX5_count_7 (by decide) ?_
    subst hf
    exact yy_iret (v := (-1)) hx hb hr hP hK hS hlocks dX5_count_8

set_option maxHeartbeats 4000000 in
set_option maxRecDepth 100000 in
theorem c_md_talk (l : Launch) (D : va_G) (cI cJ cZ cN : ClassId) (ma : Nat → Nat) (w : Int32) (mo : MO) (mn : MN) (mw : MW) (mt : MT) (mv : (Nat → Int32)) (mp : MP) (ho : mo.1 ≤ 60) (hp : mp.1 ≤ 60) (res : Int32) (hf : res = md_talk w mt) : yy_Met l yX5_talk wsX5_talk { frames := 0, cells := 0, slots := 0, locals := 0 } D vwCl (yT cI cJ cZ cN) [.ref (ma 0), .int w] (mW cI cJ cZ ma mo mn mw mt mv mp) (some (.int res)) (mW cI cJ cZ ma mo mn mw mt mv mp) := by
  intro sz
  refine Met.ofW (cc := cX5_talk) (maxL := 2) (ret := (some .int)) (by decide) rfl ?_
  intro p e s m args below meth c s₁ B hml hv
  obtain ⟨rfl, hsz, hP, hK, hD0, hN⟩ := hv
  have hx := B.exec
  have hb := B.bytes
  have hr := B.returns
  have hts := atoms_spec (ws := wsX5_talk) B.pre
  have hw : ∀ w ∈ yW, w.before _ s = true := fun w h => hts w (List.mem_cons_of_mem _ h)
  have hown : s.vm.findClass RX5 = some m.cls := findClass_of_methodNamed B.named
  have hlocks := B.notSynchronized
  subst hsz
  have hD := hD0.self (sz := s.heap.size)
  generalize hAe : va_A (mW cI cJ cZ ma mo mn mw mt mv mp) s.heap.size = A at hD ⊢
  have hA : ∀ q : Nat, s.heap.size ≤ q → A q := fun q h => by rw [← hAe]; exact Or.inr h
  have hS : va_S A s.heap s.heap [] := va_S.rf
  have hl := lv_entry ([.ref (ma 0), .int w]) (n := 2) (Nat.le_of_ble_eq_true rfl)
  rw [lg_entry_eq]
  generalize (lg_sl ([.ref (ma 0), .int w]) ++ List.replicate (2 - (lg_sl ([.ref (ma 0), .int w])).length) Slot.unset).toArray = ls at hl ⊢
  have hl : lv_has ls 2 [(0, .ref (ma 0)), (1, .int w)] := hl
  rw [md_talk] at hf
  refine lv_iload_n hx hb dX5_talk_0 rfl (lv_at hl 1 rfl) ?_
  refine lv_if_lt (tgt := 9) hx hb dX5_talk_1 (by decide) (fun h1 => ?_) (fun h1 => ?_)
  · have hf := yt h1 hf
    refine lv_iconst (v := (-1)) hx hb dX5_talk_9 (by decide) ?_
    subst hf
    exact yy_iret (v := (-1)) hx hb hr hP hK hS hlocks dX5_talk_10
  · have hf := yf h1 hf
    refine lv_iload_n hx hb dX5_talk_4 rfl (lv_at hl 1 rfl) ?_
    refine lv_iconst (v := 2) hx hb dX5_talk_5 (by decide) ?_
    refine lv_icmp_le (tgt := 11) hx hb dX5_talk_6 (by decide) (fun h2 => ?_) (fun h2 => ?_)
    · have hf := yt h2 hf
      refine lv_iload_n hx hb dX5_talk_11 rfl (lv_at hl 1 rfl) ?_
      refine lv_if_ne (tgt := 22) hx hb dX5_talk_12 (by decide) (fun h3 => ?_) (fun h3 => ?_)
      · have hf := yf h3 hf
        refine lv_iload_n hx hb dX5_talk_22 rfl (lv_at hl 1 rfl) ?_
        refine lv_iconst (v := 1) hx hb dX5_talk_23 (by decide) ?_
        refine lv_icmp_ne (tgt := 34) hx hb dX5_talk_24 (by decide) (fun h4 => ?_) (fun h4 => ?_)
        · have hf := yf h4 hf
          refine lv_aload_n hx hb dX5_talk_34 rfl (lv_at hl 0 rfl) ?_
          refine va_get (D := D) (ci := 5) (v := .int mt.2.2) (C := RX5) (T := TX5) (N := 25) hx hb hts (yy_tl inX5) hown hK hP 0 rfl rfl 18 (by decide) (hw _ wq_503) (fun _ h9 => h9) rfl dX5_talk_35 ?_
          subst hf
          exact yy_iret (v := mt.2.2) hx hb hr hP hK hS hlocks dX5_talk_38
        · have hf := yt h4 hf
          refine lv_aload_n hx hb dX5_talk_27 rfl (lv_at hl 0 rfl) ?_
          refine va_get (D := D) (ci := 5) (v := .int mt.2.1) (C := RX5) (T := TX5) (N := 25) hx hb hts (yy_tl inX5) hown hK hP 0 rfl rfl 17 (by decide) (hw _ wq_502) (fun _ h9 => h9) rfl dX5_talk_28 ?_
          refine lv_goto (tgt := 38) hx hb dX5_talk_31 (by decide) ?_
          subst hf
          exact yy_iret (v := mt.2.1) hx hb hr hP hK hS hlocks dX5_talk_38
      · have hf := yt h3 hf
        refine lv_aload_n hx hb dX5_talk_15 rfl (lv_at hl 0 rfl) ?_
        refine va_get (D := D) (ci := 5) (v := .int mt.1) (C := RX5) (T := TX5) (N := 25) hx hb hts (yy_tl inX5) hown hK hP 0 rfl rfl 16 (by decide) (hw _ wq_501) (fun _ h9 => h9) rfl dX5_talk_16 ?_
        refine lv_goto (tgt := 38) hx hb dX5_talk_19 (by decide) ?_
        subst hf
        exact yy_iret (v := mt.1) hx hb hr hP hK hS hlocks dX5_talk_38
    · have hf := yf h2 hf
      refine lv_iconst (v := (-1)) hx hb dX5_talk_9 (by decide) ?_
      subst hf
      exact yy_iret (v := (-1)) hx hb hr hP hK hS hlocks dX5_talk_10

set_option maxHeartbeats 4000000 in
set_option maxRecDepth 100000 in
theorem c_md_packed (l : Launch) (D : va_G) (cI cJ cZ cN : ClassId) (ma : Nat → Nat) (mo : MO) (mn : MN) (mw : MW) (mt : MT) (mv : (Nat → Int32)) (mp : MP) (ho : mo.1 ≤ 60) (hp : mp.1 ≤ 60) (res : Nat) (hf : res = md_packed mp) : yy_Met l yX5_packed wsX5_packed { frames := 0, cells := 0, slots := 0, locals := 0 } D vwCl (yT cI cJ cZ cN) [.ref (ma 0)] (mW cI cJ cZ ma mo mn mw mt mv mp) (some (.int (nI res))) (mW cI cJ cZ ma mo mn mw mt mv mp) := by
  intro sz
  refine Met.ofW (cc := cX5_packed) (maxL := 1) (ret := (some .int)) (by decide) rfl ?_
  intro p e s m args below meth c s₁ B hml hv
  obtain ⟨rfl, hsz, hP, hK, hD0, hN⟩ := hv
  have hx := B.exec
  have hb := B.bytes
  have hr := B.returns
  have hts := atoms_spec (ws := wsX5_packed) B.pre
  have hw : ∀ w ∈ yW, w.before _ s = true := fun w h => hts w (List.mem_cons_of_mem _ h)
  have hown : s.vm.findClass RX5 = some m.cls := findClass_of_methodNamed B.named
  have hlocks := B.notSynchronized
  subst hsz
  have hD := hD0.self (sz := s.heap.size)
  generalize hAe : va_A (mW cI cJ cZ ma mo mn mw mt mv mp) s.heap.size = A at hD ⊢
  have hA : ∀ q : Nat, s.heap.size ≤ q → A q := fun q h => by rw [← hAe]; exact Or.inr h
  have hS : va_S A s.heap s.heap [] := va_S.rf
  have hl := lv_entry ([.ref (ma 0)]) (n := 1) (Nat.le_of_ble_eq_true rfl)
  rw [lg_entry_eq]
  generalize (lg_sl ([.ref (ma 0)]) ++ List.replicate (1 - (lg_sl ([.ref (ma 0)])).length) Slot.unset).toArray = ls at hl ⊢
  have hl : lv_has ls 1 [(0, .ref (ma 0))] := hl
  rw [md_packed] at hf
  refine lv_aload_n hx hb dX5_packed_0 rfl (lv_at hl 0 rfl) ?_
  refine va_get (D := D) (ci := 5) (v := .int (nI mp.1)) (C := RX5) (T := TX5) (N := 25) hx hb hts (yy_tl inX5) hown hK hP 0 rfl rfl 20 (by decide) (hw _ wq_505) (fun _ h9 => h9) rfl dX5_packed_1 ?_
  subst hf
  exact yy_iret (v := (nI mp.1)) hx hb hr hP hK hS hlocks dX5_packed_4

set_option maxHeartbeats 4000000 in
set_option maxRecDepth 100000 in
theorem c_md_packAt (l : Launch) (D : va_G) (cI cJ cZ cN : ClassId) (ma : Nat → Nat) (pl : Int32) (mo : MO) (mn : MN) (mw : MW) (mt : MT) (mv : (Nat → Int32)) (mp : MP) (ho : mo.1 ≤ 60) (hp : mp.1 ≤ 60) (res : Int32) (hf : res = md_packAt pl mp) : yy_Met l yX5_packAt wsX5_packAt { frames := 0, cells := 0, slots := 0, locals := 0 } D vwCl (yT cI cJ cZ cN) [.ref (ma 0), .int pl] (mW cI cJ cZ ma mo mn mw mt mv mp) (some (.int res)) (mW cI cJ cZ ma mo mn mw mt mv mp) := by
  intro sz
  refine Met.ofW (cc := cX5_packAt) (maxL := 2) (ret := (some .int)) (by decide) rfl ?_
  intro p e s m args below meth c s₁ B hml hv
  obtain ⟨rfl, hsz, hP, hK, hD0, hN⟩ := hv
  have hx := B.exec
  have hb := B.bytes
  have hr := B.returns
  have hts := atoms_spec (ws := wsX5_packAt) B.pre
  have hw : ∀ w ∈ yW, w.before _ s = true := fun w h => hts w (List.mem_cons_of_mem _ h)
  have hown : s.vm.findClass RX5 = some m.cls := findClass_of_methodNamed B.named
  have hlocks := B.notSynchronized
  subst hsz
  have hD := hD0.self (sz := s.heap.size)
  generalize hAe : va_A (mW cI cJ cZ ma mo mn mw mt mv mp) s.heap.size = A at hD ⊢
  have hA : ∀ q : Nat, s.heap.size ≤ q → A q := fun q h => by rw [← hAe]; exact Or.inr h
  have hS : va_S A s.heap s.heap [] := va_S.rf
  have hl := lv_entry ([.ref (ma 0), .int pl]) (n := 2) (Nat.le_of_ble_eq_true rfl)
  rw [lg_entry_eq]
  generalize (lg_sl ([.ref (ma 0), .int pl]) ++ List.replicate (2 - (lg_sl ([.ref (ma 0), .int pl])).length) Slot.unset).toArray = ls at hl ⊢
  have hl : lv_has ls 2 [(0, .ref (ma 0)), (1, .int pl)] := hl
  rw [md_packAt] at hf
  refine lv_iload_n hx hb dX5_packAt_0 rfl (lv_at hl 1 rfl) ?_
  refine lv_if_lt (tgt := 12) hx hb dX5_packAt_1 (by decide) (fun h1 => ?_) (fun h1 => ?_)
  · have hf := yt h1 hf
    refine lv_bipush (v := (-4)) hx hb dX5_packAt_12 (by decide) ?_
    refine lv_goto (tgt := 23) hx hb dX5_packAt_14 (by decide) ?_
    subst hf
    exact yy_iret (v := (-4)) hx hb hr hP hK hS hlocks dX5_packAt_23
  · have hf := yf h1 hf
    refine lv_iload_n hx hb dX5_packAt_4 rfl (lv_at hl 1 rfl) ?_
    refine lv_aload_n hx hb dX5_packAt_5 rfl (lv_at hl 0 rfl) ?_
    refine va_get (D := D) (ci := 5) (v := .int (nI mp.1)) (C := RX5) (T := TX5) (N := 25) hx hb hts (yy_tl inX5) hown hK hP 0 rfl rfl 20 (by decide) (hw _ wq_505) (fun _ h9 => h9) rfl dX5_packAt_6 ?_
    refine lv_icmp_lt (tgt := 17) hx hb dX5_packAt_9 (by decide) (fun h2 => ?_) (fun h2 => ?_)
    · have hf := yt h2 hf
      refine lv_aload_n hx hb dX5_packAt_17 rfl (lv_at hl 0 rfl) ?_
      refine va_get (D := D) (ci := 5) (v := .ref (ma 16)) (C := RX5) (T := TX5) (N := 25) hx hb hts (yy_tl inX5) hown hK hP 0 rfl rfl 21 (by decide) (hw _ wq_506) (fun _ h9 => h9) rfl dX5_packAt_18 ?_
      refine lv_iload_n hx hb dX5_packAt_21 rfl (lv_at hl 1 rfl) ?_
      refine va_iald hx hb hK hP 16 0 (f := (fun j => nI (mp.2.1 j % 60))) rfl rfl (yy_in3 ‹¬ pl < 0› ‹pl < nI mp.1› hp (by decide)) dX5_packAt_22 ?_
      subst hf
      exact yy_iret (v := (nI (mp.2.1 pl.toNatClampNeg % 60))) hx hb hr hP hK hS hlocks dX5_packAt_23
    · have hf := yf h2 hf
      refine lv_bipush (v := (-4)) hx hb dX5_packAt_12 (by decide) ?_
      refine lv_goto (tgt := 23) hx hb dX5_packAt_14 (by decide) ?_
      subst hf
      exact yy_iret (v := (-4)) hx hb hr hP hK hS hlocks dX5_packAt_23

set_option maxHeartbeats 4000000 in
set_option maxRecDepth 100000 in
theorem c_md_base (l : Launch) (D : va_G) (cI cJ cZ cN : ClassId) (ma : Nat → Nat) (pl : Int32) (mo : MO) (mn : MN) (mw : MW) (mt : MT) (mv : (Nat → Int32)) (mp : MP) (ho : mo.1 ≤ 60) (hp : mp.1 ≤ 60) (res : Int32) (hf : res = md_base pl mp) : yy_Met l yX5_base wsX5_base { frames := 0, cells := 0, slots := 0, locals := 0 } D vwCl (yT cI cJ cZ cN) [.ref (ma 0), .int pl] (mW cI cJ cZ ma mo mn mw mt mv mp) (some (.int res)) (mW cI cJ cZ ma mo mn mw mt mv mp) := by
  intro sz
  refine Met.ofW (cc := cX5_base) (maxL := 2) (ret := (some .int)) (by decide) rfl ?_
  intro p e s m args below meth c s₁ B hml hv
  obtain ⟨rfl, hsz, hP, hK, hD0, hN⟩ := hv
  have hx := B.exec
  have hb := B.bytes
  have hr := B.returns
  have hts := atoms_spec (ws := wsX5_base) B.pre
  have hw : ∀ w ∈ yW, w.before _ s = true := fun w h => hts w (List.mem_cons_of_mem _ h)
  have hown : s.vm.findClass RX5 = some m.cls := findClass_of_methodNamed B.named
  have hlocks := B.notSynchronized
  subst hsz
  have hD := hD0.self (sz := s.heap.size)
  generalize hAe : va_A (mW cI cJ cZ ma mo mn mw mt mv mp) s.heap.size = A at hD ⊢
  have hA : ∀ q : Nat, s.heap.size ≤ q → A q := fun q h => by rw [← hAe]; exact Or.inr h
  have hS : va_S A s.heap s.heap [] := va_S.rf
  have hl := lv_entry ([.ref (ma 0), .int pl]) (n := 2) (Nat.le_of_ble_eq_true rfl)
  rw [lg_entry_eq]
  generalize (lg_sl ([.ref (ma 0), .int pl]) ++ List.replicate (2 - (lg_sl ([.ref (ma 0), .int pl])).length) Slot.unset).toArray = ls at hl ⊢
  have hl : lv_has ls 2 [(0, .ref (ma 0)), (1, .int pl)] := hl
  rw [md_base] at hf
  refine lv_iload_n hx hb dX5_base_0 rfl (lv_at hl 1 rfl) ?_
  refine lv_if_lt (tgt := 12) hx hb dX5_base_1 (by decide) (fun h1 => ?_) (fun h1 => ?_)
  · have hf := yt h1 hf
    refine lv_bipush (v := (-4)) hx hb dX5_base_12 (by decide) ?_
    refine lv_goto (tgt := 23) hx hb dX5_base_14 (by decide) ?_
    subst hf
    exact yy_iret (v := (-4)) hx hb hr hP hK hS hlocks dX5_base_23
  · have hf := yf h1 hf
    refine lv_iload_n hx hb dX5_base_4 rfl (lv_at hl 1 rfl) ?_
    refine lv_aload_n hx hb dX5_base_5 rfl (lv_at hl 0 rfl) ?_
    refine va_get (D := D) (ci := 5) (v := .int (nI mp.1)) (C := RX5) (T := TX5) (N := 25) hx hb hts (yy_tl inX5) hown hK hP 0 rfl rfl 20 (by decide) (hw _ wq_505) (fun _ h9 => h9) rfl dX5_base_6 ?_
    refine lv_icmp_lt (tgt := 17) hx hb dX5_base_9 (by decide) (fun h2 => ?_) (fun h2 => ?_)
    · have hf := yt h2 hf
      refine lv_aload_n hx hb dX5_base_17 rfl (lv_at hl 0 rfl) ?_
      refine va_get (D := D) (ci := 5) (v := .ref (ma 17)) (C := RX5) (T := TX5) (N := 25) hx hb hts (yy_tl inX5) hown hK hP 0 rfl rfl 22 (by decide) (hw _ wq_507) (fun _ h9 => h9) rfl dX5_base_18 ?_
      refine lv_iload_n hx hb dX5_base_21 rfl (lv_at hl 1 rfl) ?_
      refine va_iald hx hb hK hP 17 0 (f := mp.2.2.1) rfl rfl (yy_in3 ‹¬ pl < 0› ‹pl < nI mp.1› hp (by decide)) dX5_base_22 ?_
      subst hf
      exact yy_iret (v := (mp.2.2.1 pl.toNatClampNeg)) hx hb hr hP hK hS hlocks dX5_base_23
    · have hf := yf h2 hf
      refine lv_bipush (v := (-4)) hx hb dX5_base_12 (by decide) ?_
      refine lv_goto (tgt := 23) hx hb dX5_base_14 (by decide) ?_
      subst hf
      exact yy_iret (v := (-4)) hx hb hr hP hK hS hlocks dX5_base_23

set_option maxHeartbeats 4000000 in
set_option maxRecDepth 100000 in
theorem c_md_weight (l : Launch) (D : va_G) (cI cJ cZ cN : ClassId) (ma : Nat → Nat) (mo : MO) (mn : MN) (mw : MW) (mt : MT) (mv : (Nat → Int32)) (mp : MP) (ho : mo.1 ≤ 60) (hp : mp.1 ≤ 60) (res : Int32) (hf : res = md_weight mp) : yy_Met l yX5_weight wsX5_weight { frames := 0, cells := 0, slots := 0, locals := 0 } D vwCl (yT cI cJ cZ cN) [.ref (ma 0)] (mW cI cJ cZ ma mo mn mw mt mv mp) (some (.int res)) (mW cI cJ cZ ma mo mn mw mt mv mp) := by
  intro sz
  refine Met.ofW (cc := cX5_weight) (maxL := 3) (ret := (some .int)) (by decide) rfl ?_
  intro p e s m args below meth c s₁ B hml hv
  obtain ⟨rfl, hsz, hP, hK, hD0, hN⟩ := hv
  have hx := B.exec
  have hb := B.bytes
  have hr := B.returns
  have hts := atoms_spec (ws := wsX5_weight) B.pre
  have hw : ∀ w ∈ yW, w.before _ s = true := fun w h => hts w (List.mem_cons_of_mem _ h)
  have hown : s.vm.findClass RX5 = some m.cls := findClass_of_methodNamed B.named
  have hlocks := B.notSynchronized
  subst hsz
  have hD := hD0.self (sz := s.heap.size)
  generalize hAe : va_A (mW cI cJ cZ ma mo mn mw mt mv mp) s.heap.size = A at hD ⊢
  have hA : ∀ q : Nat, s.heap.size ≤ q → A q := fun q h => by rw [← hAe]; exact Or.inr h
  have hS : va_S A s.heap s.heap [] := va_S.rf
  have hl := lv_entry ([.ref (ma 0)]) (n := 3) (Nat.le_of_ble_eq_true rfl)
  rw [lg_entry_eq]
  generalize (lg_sl ([.ref (ma 0)]) ++ List.replicate (3 - (lg_sl ([.ref (ma 0)])).length) Slot.unset).toArray = ls at hl ⊢
  have hl : lv_has ls 3 [(0, .ref (ma 0))] := hl
  have hL4 : ∀ (k : Nat) (i : Nat) (sum : Int32) (ls : Array Slot) (H : Heap) (locs : List Loc), i + k = mp.1 → res = md_weight_L4 mp k i sum → lv_has ls 3 [(0, .ref (ma 0)), (1, .int sum), (2, .int (nI i))] → va_P D vwCl (mW cI cJ cZ ma mo mn mw mt mv mp) H → va_D A (mW cI cJ cZ ma mo mn mw mt mv mp) → va_S A s.heap H locs → W p l e (headSpec wsX5_weight { frames := 0, cells := 0, slots := 0, locals := 0 }).room s m ([.ref (ma 0)] : List Value).toArray below meth c H locs 0 0 (MQ below (yy_Q A D vwCl (yT cI cJ cZ cN) (mW cI cJ cZ ma mo mn mw mt mv mp) (some (.int res))) ([.ref (ma 0)] : List Value).toArray s 0 0 A) (F0 m 4 ls []) := by
    intro k
    induction k with
    | zero =>
      intro i sum ls H locs hi hf hl hP hD hS
      rw [md_weight_L4] at hf
      refine lv_iload_n hx hb dX5_weight_4 rfl (lv_at hl 2 rfl) ?_
      refine lv_aload_n hx hb dX5_weight_5 rfl (lv_at hl 0 rfl) ?_
      refine va_get (D := D) (ci := 5) (v := .int (nI mp.1)) (C := RX5) (T := TX5) (N := 25) hx hb hts (yy_tl inX5) hown hK hP 0 rfl rfl 20 (by decide) (hw _ wq_505) (fun _ h9 => h9) rfl dX5_weight_6 ?_
      refine lv_icmp_ge (tgt := 27) hx hb dX5_weight_9 (by decide) (fun _ => ?_) (fun h => absurd (nI_le (by omega) (by omega)) h)
      refine lv_iload_n hx hb dX5_weight_27 rfl (lv_at hl 1 rfl) ?_
      subst hf
      exact yy_iret hx hb hr hP hK hS hlocks dX5_weight_28
    | succ k ih =>
      intro i sum ls H locs hi hf hl hP hD hS
      rw [md_weight_L4] at hf
      refine lv_iload_n hx hb dX5_weight_4 rfl (lv_at hl 2 rfl) ?_
      refine lv_aload_n hx hb dX5_weight_5 rfl (lv_at hl 0 rfl) ?_
      refine va_get (D := D) (ci := 5) (v := .int (nI mp.1)) (C := RX5) (T := TX5) (N := 25) hx hb hts (yy_tl inX5) hown hK hP 0 rfl rfl 20 (by decide) (hw _ wq_505) (fun _ h9 => h9) rfl dX5_weight_6 ?_
      refine lv_icmp_ge (tgt := 27) hx hb dX5_weight_9 (by decide) (fun h => absurd h (nI_ge (by omega) (by omega))) (fun _ => ?_)
      refine lv_iload_n hx hb dX5_weight_12 rfl (lv_at hl 1 rfl) ?_
      refine lv_aload_n hx hb dX5_weight_13 rfl (lv_at hl 0 rfl) ?_
      refine va_get (D := D) (ci := 5) (v := .ref (ma 19)) (C := RX5) (T := TX5) (N := 25) hx hb hts (yy_tl inX5) hown hK hP 0 rfl rfl 24 (by decide) (hw _ wq_509) (fun _ h9 => h9) rfl dX5_weight_14 ?_
      refine lv_iload_n hx hb dX5_weight_17 rfl (lv_at hl 2 rfl) ?_
      refine yr_iald hx hb hK hP 19 0 (f := mp.2.2.2.2) (j := i) rfl rfl rfl (by omega) (by decide) dX5_weight_18 ?_
      refine lv_iadd hx hb dX5_weight_19 ?_
      refine lv_istore_n (lv' := [(1, .int (sum + (mp.2.2.2.2 i))), (0, .ref (ma 0)), (2, .int (nI i))]) hx hb dX5_weight_20 rfl hl (by decide) rfl (fun ls hl => ?_)
      refine lv_iinc (k := 2) (v := (nI (i + 1))) (lv' := [(2, .int (nI (i + 1))), (1, .int (sum + (mp.2.2.2.2 i))), (0, .ref (ma 0))]) hx hb dX5_weight_21 hl rfl (yy_inc _) (by decide) rfl (fun ls hl => ?_)
      refine lv_goto (tgt := 4) hx hb dX5_weight_24 (by decide) ?_
      exact ih (i + 1) (sum + (mp.2.2.2.2 i)) _ _ _ (by omega) hf (lv_sub hl [2, 1, 0] rfl) hP hD hS
  rw [md_weight] at hf
  refine lv_iconst (v := 0) hx hb dX5_weight_0 (by decide) ?_
  refine lv_istore_n (lv' := [(1, .int 0), (0, .ref (ma 0))]) hx hb dX5_weight_1 rfl hl (by decide) rfl (fun ls hl => ?_)
  refine lv_iconst (v := (nI 0)) hx hb dX5_weight_2 (by decide) ?_
  refine lv_istore_n (lv' := [(2, .int (nI 0)), (1, .int 0), (0, .ref (ma 0))]) hx hb dX5_weight_3 rfl hl (by decide) rfl (fun ls hl => ?_)
  exact hL4 mp.1 0 0 _ _ _ (by omega) hf (lv_sub hl [2, 1, 0] rfl) hP hD hS

set_option maxHeartbeats 4000000 in
set_option maxRecDepth 100000 in
theorem c_md_verdict (l : Launch) (D : va_G) (cI cJ cZ cN : ClassId) (ma : Nat → Nat) (r : Int32) (mo : MO) (mn : MN) (mw : MW) (mt : MT) (mv : (Nat → Int32)) (mp : MP) (ho : mo.1 ≤ 60) (hp : mp.1 ≤ 60) (res : Int32) (hf : res = md_verdict r mv) : yy_Met l yX5_verdict wsX5_verdict { frames := 0, cells := 0, slots := 0, locals := 0 } D vwCl (yT cI cJ cZ cN) [.ref (ma 0), .int r] (mW cI cJ cZ ma mo mn mw mt mv mp) (some (.int res)) (mW cI cJ cZ ma mo mn mw mt mv mp) := by
  intro sz
  refine Met.ofW (cc := cX5_verdict) (maxL := 2) (ret := (some .int)) (by decide) rfl ?_
  intro p e s m args below meth c s₁ B hml hv
  obtain ⟨rfl, hsz, hP, hK, hD0, hN⟩ := hv
  have hx := B.exec
  have hb := B.bytes
  have hr := B.returns
  have hts := atoms_spec (ws := wsX5_verdict) B.pre
  have hw : ∀ w ∈ yW, w.before _ s = true := fun w h => hts w (List.mem_cons_of_mem _ h)
  have hown : s.vm.findClass RX5 = some m.cls := findClass_of_methodNamed B.named
  have hlocks := B.notSynchronized
  subst hsz
  have hD := hD0.self (sz := s.heap.size)
  generalize hAe : va_A (mW cI cJ cZ ma mo mn mw mt mv mp) s.heap.size = A at hD ⊢
  have hA : ∀ q : Nat, s.heap.size ≤ q → A q := fun q h => by rw [← hAe]; exact Or.inr h
  have hS : va_S A s.heap s.heap [] := va_S.rf
  have hl := lv_entry ([.ref (ma 0), .int r]) (n := 2) (Nat.le_of_ble_eq_true rfl)
  rw [lg_entry_eq]
  generalize (lg_sl ([.ref (ma 0), .int r]) ++ List.replicate (2 - (lg_sl ([.ref (ma 0), .int r])).length) Slot.unset).toArray = ls at hl ⊢
  have hl : lv_has ls 2 [(0, .ref (ma 0)), (1, .int r)] := hl
  rw [md_verdict] at hf
  refine lv_iload_n hx hb dX5_verdict_0 rfl (lv_at hl 1 rfl) ?_
  refine lv_if_lt (tgt := 9) hx hb dX5_verdict_1 (by decide) (fun h1 => ?_) (fun h1 => ?_)
  · have hf := yt h1 hf
    refine lv_iconst (v := 0) hx hb dX5_verdict_9 (by decide) ?_
    refine lv_goto (tgt := 19) hx hb dX5_verdict_10 (by decide) ?_
    subst hf
    exact yy_iret (v := 0) hx hb hr hP hK hS hlocks dX5_verdict_19
  · have hf := yf h1 hf
    refine lv_iload_n hx hb dX5_verdict_4 rfl (lv_at hl 1 rfl) ?_
    refine lv_iconst (v := 3) hx hb dX5_verdict_5 (by decide) ?_
    refine lv_icmp_le (tgt := 13) hx hb dX5_verdict_6 (by decide) (fun h2 => ?_) (fun h2 => ?_)
    · have hf := yt h2 hf
      refine lv_aload_n hx hb dX5_verdict_13 rfl (lv_at hl 0 rfl) ?_
      refine va_get (D := D) (ci := 5) (v := .ref (ma 15)) (C := RX5) (T := TX5) (N := 25) hx hb hts (yy_tl inX5) hown hK hP 0 rfl rfl 19 (by decide) (hw _ wq_504) (fun _ h9 => h9) rfl dX5_verdict_14 ?_
      refine lv_iload_n hx hb dX5_verdict_17 rfl (lv_at hl 1 rfl) ?_
      refine va_iald hx hb hK hP 15 0 (f := mv) rfl rfl (yy_in4 ‹¬ r < 0› ‹r ≤ 3›) dX5_verdict_18 ?_
      subst hf
      exact yy_iret (v := (mv r.toNatClampNeg)) hx hb hr hP hK hS hlocks dX5_verdict_19
    · have hf := yf h2 hf
      refine lv_iconst (v := 0) hx hb dX5_verdict_9 (by decide) ?_
      refine lv_goto (tgt := 19) hx hb dX5_verdict_10 (by decide) ?_
      subst hf
      exact yy_iret (v := 0) hx hb hr hP hK hS hlocks dX5_verdict_19
