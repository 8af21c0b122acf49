set_option maxHeartbeats 4000000 in
set_option maxRecDepth 100000 in
theorem c_px_holdsKind (l : Launch) (D : va_G) (cI cJ cZ cN : ClassId) (xa : Nat → Nat) (sa : Nat → Nat) (ta : Nat → Nat) (pa : Nat → Nat) (na : Nat → Nat) (num : Int32) (kd : Int32) (so : SS) (nd : NS) (hs : so.2.2.2.2.2 ≤ 60) (res : Bool) (hf : res = px_holdsKind num kd so nd) : yy_Met l yX4_holdsKind wsX4_holdsKind { frames := 2, cells := 0, slots := 0, locals := 43 } D vwCl (yT cI cJ cZ cN) [.ref (xa 0), .ref (na 0), .int num, .int kd] (xcW xa sa ta pa ++ stW cI cJ sa so ++ ndW cI na nd) (some (.int (yB res))) (xcW xa sa ta pa ++ stW cI cJ sa so ++ ndW cI na nd) := by
  intro sz
  refine Met.ofW (cc := cX4_holdsKind) (maxL := 4) (ret := (some .boolean)) (by decide) rfl ?_
  intro p e s m args below meth c s₁ B hml hv
  obtain ⟨rfl, hsz, hP, hK, hD0, hN⟩ := hv
  have hx := B.exec
  have hb := B.bytes
  have hr := B.returns
  have hts := atoms_spec (ws := wsX4_holdsKind) B.pre
  have hw : ∀ w ∈ yW, w.before _ s = true := fun w h => hts w (List.mem_cons_of_mem _ h)
  have hown : s.vm.findClass RX4 = some m.cls := findClass_of_methodNamed B.named
  have hlocks := B.notSynchronized
  subst hsz
  have hD := hD0.self (sz := s.heap.size)
  generalize hAe : va_A (xcW xa sa ta pa ++ stW cI cJ sa so ++ ndW cI na nd) s.heap.size = A at hD ⊢
  have hA : ∀ q : Nat, s.heap.size ≤ q → A q := fun q h => by rw [← hAe]; exact Or.inr h
  have hS : va_S A s.heap s.heap [] := va_S.rf
  have hl := lv_entry ([.ref (xa 0), .ref (na 0), .int num, .int kd]) (n := 4) (Nat.le_of_ble_eq_true rfl)
  rw [lg_entry_eq]
  generalize (lg_sl ([.ref (xa 0), .ref (na 0), .int num, .int kd]) ++ List.replicate (4 - (lg_sl ([.ref (xa 0), .ref (na 0), .int num, .int kd])).length) Slot.unset).toArray = ls at hl ⊢
  have hl : lv_has ls 4 [(0, .ref (xa 0)), (1, .ref (na 0)), (2, .int num), (3, .int kd)] := hl
  rw [px_holdsKind] at hf
  refine lv_aload_n hx hb dX4_holdsKind_0 rfl (lv_at hl 1 rfl) ?_
  obtain ⟨r1, er1⟩ : ∃ r, r = nd_heldSet nd := ⟨_, rfl⟩
  have hf := yb_e er1 hf
  refine yz_callV (As := []) (rest := []) ⟨hx, hb, hml, hown, hts⟩ (c_nd_heldSet l D cI cJ cZ cN na nd  r1 er1) ⟨callB_of 0 hts (yy_good wq_191) rfl rfl rfl (hw _ wq_36) (hw _ wq_188) (by decide +kernel) ⟨Nat.le_of_ble_eq_true rfl, Nat.le_of_ble_eq_true rfl⟩, hw _ wq_189, hw _ wq_190⟩ hK hN hP hD hS hA [7, 8, 9] rfl (by decide) rfl 10 rfl (w2 := (xcW xa sa ta pa ++ stW cI cJ sa so ++ ndW cI na nd)) rfl 7 rfl rfl rfl hl.1 rfl (Nat.le_of_ble_eq_true rfl) dX4_holdsKind_1 ⟨Nat.zero_le _, Nat.zero_le _⟩ (fun H locs hP hD hS => ?_)
  refine W.eq (g2 := F0 m 4 ls [.long r1]) rfl ?_
  refine lv_iload_n hx hb dX4_holdsKind_4 rfl (lv_at hl 2 rfl) ?_
  obtain ⟨r2, er2⟩ : ∃ r, r = px_isIn r1 num := ⟨_, rfl⟩
  have hf := yb_e er2 hf
  refine yz_callS (As := [.long r1, .int num]) (rest := []) ⟨hx, hb, hml, hown, hts⟩ (c_px_isIn l D cI cJ cZ cN r1 num  r2 er2) ⟨callB_of 2 hts (yy_good wq_194) rfl rfl rfl (hw _ wq_34) (hw _ wq_192) (by decide +kernel) ⟨Nat.le_of_ble_eq_true rfl, Nat.le_of_ble_eq_true rfl⟩, hw _ wq_193⟩ hK hN hP hD hS hA [] rfl (by decide) rfl 0 rfl (w2 := (xcW xa sa ta pa ++ stW cI cJ sa so ++ ndW cI na nd)) rfl rfl hl.1 rfl (Nat.le_of_ble_eq_true rfl) dX4_holdsKind_5 ⟨Nat.zero_le _, Nat.zero_le _⟩ (fun H locs hP hD hS => ?_)
  refine W.eq (g2 := F0 m 8 ls [.int (yB r2)]) rfl ?_
  refine lv_if_eq (tgt := 27) hx hb dX4_holdsKind_8 (by decide) (fun h3 => ?_) (fun h3 => ?_)
  · have h3 := yB_0.mp h3
    have hf := yBf h3 hf
    refine lv_iconst (v := 0) hx hb dX4_holdsKind_27 (by decide) ?_
    subst hf
    exact yy_zret (v := yB false) hx hb hr (yB_n _) hP hK hS hlocks dX4_holdsKind_28
  · have h3 := yB_1 h3
    have hf := yBt h3 hf
    refine lv_aload_n hx hb dX4_holdsKind_11 rfl (lv_at hl 0 rfl) ?_
    refine va_get (D := D) (ci := 4) (v := .ref (sa 0)) (C := RX4) (T := TX4) (N := 6) hx hb hts (yy_tl inX4) hown hK hP 0 rfl rfl 0 (by decide) (hw _ wq_146) (fun _ h9 => h9) rfl dX4_holdsKind_12 ?_
    refine lv_iload_n hx hb dX4_holdsKind_15 rfl (lv_at hl 2 rfl) ?_
    refine lv_iload_n hx hb dX4_holdsKind_16 rfl (lv_at hl 3 rfl) ?_
    obtain ⟨r4, er4⟩ : ∃ r, r = st_isOfKind num kd so := ⟨_, rfl⟩
    have hf := yb_e er4 hf
    refine yz_callV (As := [.int num, .int kd]) (rest := []) ⟨hx, hb, hml, hown, hts⟩ (c_st_isOfKind l D cI cJ cZ cN sa num kd so (by (try dsimp only) <;> omega) r4 er4) ⟨callB_of 2 hts (yy_good wq_231) rfl rfl rfl (hw _ wq_35) (hw _ wq_228) (by decide +kernel) ⟨Nat.le_of_ble_eq_true rfl, Nat.le_of_ble_eq_true rfl⟩, hw _ wq_229, hw _ wq_230⟩ hK hN hP hD hS hA [1, 2, 3, 4, 5, 6] rfl (by decide) rfl 7 rfl (w2 := (xcW xa sa ta pa ++ stW cI cJ sa so ++ ndW cI na nd)) rfl 1 rfl rfl rfl hl.1 rfl (Nat.le_of_ble_eq_true rfl) dX4_holdsKind_17 ⟨Nat.zero_le _, Nat.zero_le _⟩ (fun H locs hP hD hS => ?_)
    refine W.eq (g2 := F0 m 20 ls [.int (yB r4)]) rfl ?_
    refine lv_if_eq (tgt := 27) hx hb dX4_holdsKind_20 (by decide) (fun h5 => ?_) (fun h5 => ?_)
    · have h5 := yB_0.mp h5
      have hf := yBf h5 hf
      refine lv_iconst (v := 0) hx hb dX4_holdsKind_27 (by decide) ?_
      subst hf
      exact yy_zret (v := yB false) hx hb hr (yB_n _) hP hK hS hlocks dX4_holdsKind_28
    · have h5 := yB_1 h5
      have hf := yBt h5 hf
      refine lv_iconst (v := 1) hx hb dX4_holdsKind_23 (by decide) ?_
      refine lv_goto (tgt := 28) hx hb dX4_holdsKind_24 (by decide) ?_
      subst hf
      exact yy_zret (v := yB true) hx hb hr (yB_n _) hP hK hS hlocks dX4_holdsKind_28

set_option maxHeartbeats 4000000 in
set_option maxRecDepth 100000 in
theorem c_px_isEntry (l : Launch) (D : va_G) (cI cJ cZ cN : ClassId) (xa : Nat → Nat) (sa : Nat → Nat) (ta : Nat → Nat) (pa : Nat → Nat) (na : Nat → Nat) (num : Int32) (so : SS) (nd : NS) (hs : so.2.2.2.2.2 ≤ 60) (res : Bool) (hf : res = px_isEntry num so nd) : yy_Met l yX4_isEntry wsX4_isEntry { frames := 3, cells := 0, slots := 0, locals := 66 } D vwCl (yT cI cJ cZ cN) [.ref (xa 0), .ref (na 0), .int num] (xcW xa sa ta pa ++ stW cI cJ sa so ++ ndW cI na nd) (some (.int (yB res))) (xcW xa sa ta pa ++ stW cI cJ sa so ++ ndW cI na nd) := by
  intro sz
  refine Met.ofW (cc := cX4_isEntry) (maxL := 3) (ret := (some .boolean)) (by decide) rfl ?_
  intro p e s m args below meth c s₁ B hml hv
  obtain ⟨rfl, hsz, hP, hK, hD0, hN⟩ := hv
  have hx := B.exec
  have hb := B.bytes
  have hr := B.returns
  have hts := atoms_spec (ws := wsX4_isEntry) B.pre
  have hw : ∀ w ∈ yW, w.before _ s = true := fun w h => hts w (List.mem_cons_of_mem _ h)
  have hown : s.vm.findClass RX4 = some m.cls := findClass_of_methodNamed B.named
  have hlocks := B.notSynchronized
  subst hsz
  have hD := hD0.self (sz := s.heap.size)
  generalize hAe : va_A (xcW xa sa ta pa ++ stW cI cJ sa so ++ ndW cI na nd) s.heap.size = A at hD ⊢
  have hA : ∀ q : Nat, s.heap.size ≤ q → A q := fun q h => by rw [← hAe]; exact Or.inr h
  have hS : va_S A s.heap s.heap [] := va_S.rf
  have hl := lv_entry ([.ref (xa 0), .ref (na 0), .int num]) (n := 3) (Nat.le_of_ble_eq_true rfl)
  rw [lg_entry_eq]
  generalize (lg_sl ([.ref (xa 0), .ref (na 0), .int num]) ++ List.replicate (3 - (lg_sl ([.ref (xa 0), .ref (na 0), .int num])).length) Slot.unset).toArray = ls at hl ⊢
  have hl : lv_has ls 3 [(0, .ref (xa 0)), (1, .ref (na 0)), (2, .int num)] := hl
  rw [px_isEntry] at hf
  refine lv_aload_n hx hb dX4_isEntry_0 rfl (lv_at hl 0 rfl) ?_
  refine lv_aload_n hx hb dX4_isEntry_1 rfl (lv_at hl 1 rfl) ?_
  refine lv_iload_n hx hb dX4_isEntry_2 rfl (lv_at hl 2 rfl) ?_
  refine lv_iconst (v := 0) hx hb dX4_isEntry_3 (by decide) ?_
  obtain ⟨r1, er1⟩ : ∃ r, r = px_holdsKind num 0 so nd := ⟨_, rfl⟩
  have hf := yb_e er1 hf
  refine yz_callV (As := [.ref (na 0), .int num, .int 0]) (rest := []) ⟨hx, hb, hml, hown, hts⟩ (c_px_holdsKind l D cI cJ cZ cN xa sa ta pa na num 0 so nd (by (try dsimp only) <;> omega) r1 er1) ⟨callB_of 3 hts (yy_good wq_227) rfl rfl rfl (hw _ wq_34) (hw _ wq_224) (by decide +kernel) ⟨Nat.le_of_ble_eq_true rfl, Nat.le_of_ble_eq_true rfl⟩, hw _ wq_226, hw _ wq_3⟩ hK hN hP hD hS hA [0, 1, 2, 3, 4, 5, 6, 7, 8, 9] rfl (by decide) rfl 10 rfl (w2 := (xcW xa sa ta pa ++ stW cI cJ sa so ++ ndW cI na nd)) rfl 0 rfl rfl rfl hl.1 rfl (Nat.le_of_ble_eq_true rfl) dX4_isEntry_4 ⟨Nat.zero_le _, Nat.zero_le _⟩ (fun H locs hP hD hS => ?_)
  refine W.eq (g2 := F0 m 7 ls [.int (yB r1)]) rfl ?_
  refine lv_if_ne (tgt := 20) hx hb dX4_isEntry_7 (by decide) (fun h2 => ?_) (fun h2 => ?_)
  · have h2 := yB_1 h2
    have hf := yBt h2 hf
    refine lv_iconst (v := 1) hx hb dX4_isEntry_20 (by decide) ?_
    refine lv_goto (tgt := 25) hx hb dX4_isEntry_21 (by decide) ?_
    subst hf
    exact yy_zret (v := yB true) hx hb hr (yB_n _) hP hK hS hlocks dX4_isEntry_25
  · have h2 := yB_0.mp h2
    have hf := yBf h2 hf
    refine lv_aload_n hx hb dX4_isEntry_10 rfl (lv_at hl 0 rfl) ?_
    refine lv_aload_n hx hb dX4_isEntry_11 rfl (lv_at hl 1 rfl) ?_
    refine lv_iload_n hx hb dX4_isEntry_12 rfl (lv_at hl 2 rfl) ?_
    refine lv_iconst (v := 1) hx hb dX4_isEntry_13 (by decide) ?_
    obtain ⟨r3, er3⟩ : ∃ r, r = px_holdsKind num 1 so nd := ⟨_, rfl⟩
    have hf := yb_e er3 hf
    refine yz_callV (As := [.ref (na 0), .int num, .int 1]) (rest := []) ⟨hx, hb, hml, hown, hts⟩ (c_px_holdsKind l D cI cJ cZ cN xa sa ta pa na num 1 so nd (by (try dsimp only) <;> omega) r3 er3) ⟨callB_of 3 hts (yy_good wq_227) rfl rfl rfl (hw _ wq_34) (hw _ wq_224) (by decide +kernel) ⟨Nat.le_of_ble_eq_true rfl, Nat.le_of_ble_eq_true rfl⟩, hw _ wq_226, hw _ wq_3⟩ hK hN hP hD hS hA [0, 1, 2, 3, 4, 5, 6, 7, 8, 9] rfl (by decide) rfl 10 rfl (w2 := (xcW xa sa ta pa ++ stW cI cJ sa so ++ ndW cI na nd)) rfl 0 rfl rfl rfl hl.1 rfl (Nat.le_of_ble_eq_true rfl) dX4_isEntry_14 ⟨Nat.zero_le _, Nat.zero_le _⟩ (fun H locs hP hD hS => ?_)
    refine W.eq (g2 := F0 m 17 ls [.int (yB r3)]) rfl ?_
    refine lv_if_eq (tgt := 24) hx hb dX4_isEntry_17 (by decide) (fun h4 => ?_) (fun h4 => ?_)
    · have h4 := yB_0.mp h4
      have hf := yBf h4 hf
      refine lv_iconst (v := 0) hx hb dX4_isEntry_24 (by decide) ?_
      subst hf
      exact yy_zret (v := yB false) hx hb hr (yB_n _) hP hK hS hlocks dX4_isEntry_25
    · have h4 := yB_1 h4
      have hf := yBt h4 hf
      refine lv_iconst (v := 1) hx hb dX4_isEntry_20 (by decide) ?_
      refine lv_goto (tgt := 25) hx hb dX4_isEntry_21 (by decide) ?_
      subst hf
      exact yy_zret (v := yB true) hx hb hr (yB_n _) hP hK hS hlocks dX4_isEntry_25

set_option maxHeartbeats 4000000 in
set_option maxRecDepth 100000 in
theorem c_px_isCommitOrAbsent (l : Launch) (D : va_G) (cI cJ cZ cN : ClassId) (xa : Nat → Nat) (sa : Nat → Nat) (ta : Nat → Nat) (pa : Nat → Nat) (na : Nat → Nat) (num : Int32) (so : SS) (nd : NS) (hs : so.2.2.2.2.2 ≤ 60) (res : Bool) (hf : res = px_isCommitOrAbsent num so nd) : yy_Met l yX4_isCommitOrAbsent wsX4_isCommitOrAbsent { frames := 3, cells := 0, slots := 0, locals := 66 } D vwCl (yT cI cJ cZ cN) [.ref (xa 0), .ref (na 0), .int num] (xcW xa sa ta pa ++ stW cI cJ sa so ++ ndW cI na nd) (some (.int (yB res))) (xcW xa sa ta pa ++ stW cI cJ sa so ++ ndW cI na nd) := by
  intro sz
  refine Met.ofW (cc := cX4_isCommitOrAbsent) (maxL := 3) (ret := (some .boolean)) (by decide) rfl ?_
  intro p e s m args below meth c s₁ B hml hv
  obtain ⟨rfl, hsz, hP, hK, hD0, hN⟩ := hv
  have hx := B.exec
  have hb := B.bytes
  have hr := B.returns
  have hts := atoms_spec (ws := wsX4_isCommitOrAbsent) B.pre
  have hw : ∀ w ∈ yW, w.before _ s = true := fun w h => hts w (List.mem_cons_of_mem _ h)
  have hown : s.vm.findClass RX4 = some m.cls := findClass_of_methodNamed B.named
  have hlocks := B.notSynchronized
  subst hsz
  have hD := hD0.self (sz := s.heap.size)
  generalize hAe : va_A (xcW xa sa ta pa ++ stW cI cJ sa so ++ ndW cI na nd) s.heap.size = A at hD ⊢
  have hA : ∀ q : Nat, s.heap.size ≤ q → A q := fun q h => by rw [← hAe]; exact Or.inr h
  have hS : va_S A s.heap s.heap [] := va_S.rf
  have hl := lv_entry ([.ref (xa 0), .ref (na 0), .int num]) (n := 3) (Nat.le_of_ble_eq_true rfl)
  rw [lg_entry_eq]
  generalize (lg_sl ([.ref (xa 0), .ref (na 0), .int num]) ++ List.replicate (3 - (lg_sl ([.ref (xa 0), .ref (na 0), .int num])).length) Slot.unset).toArray = ls at hl ⊢
  have hl : lv_has ls 3 [(0, .ref (xa 0)), (1, .ref (na 0)), (2, .int num)] := hl
  rw [px_isCommitOrAbsent] at hf
  refine lv_iload_n hx hb dX4_isCommitOrAbsent_0 rfl (lv_at hl 2 rfl) ?_
  refine lv_iconst (v := (-1)) hx hb dX4_isCommitOrAbsent_1 (by decide) ?_
  refine lv_icmp_eq (tgt := 15) hx hb dX4_isCommitOrAbsent_2 (by decide) (fun h1 => ?_) (fun h1 => ?_)
  · have hf := yt h1 hf
    refine lv_iconst (v := 1) hx hb dX4_isCommitOrAbsent_15 (by decide) ?_
    refine lv_goto (tgt := 20) hx hb dX4_isCommitOrAbsent_16 (by decide) ?_
    subst hf
    exact yy_zret (v := yB true) hx hb hr (yB_n _) hP hK hS hlocks dX4_isCommitOrAbsent_20
  · have hf := yf h1 hf
    refine lv_aload_n hx hb dX4_isCommitOrAbsent_5 rfl (lv_at hl 0 rfl) ?_
    refine lv_aload_n hx hb dX4_isCommitOrAbsent_6 rfl (lv_at hl 1 rfl) ?_
    refine lv_iload_n hx hb dX4_isCommitOrAbsent_7 rfl (lv_at hl 2 rfl) ?_
    refine lv_iconst (v := 2) hx hb dX4_isCommitOrAbsent_8 (by decide) ?_
    obtain ⟨r2, er2⟩ : ∃ r, r = px_holdsKind num 2 so nd := ⟨_, rfl⟩
    have hf := yb_e er2 hf
    refine yz_callV (As := [.ref (na 0), .int num, .int 2]) (rest := []) ⟨hx, hb, hml, hown, hts⟩ (c_px_holdsKind l D cI cJ cZ cN xa sa ta pa na num 2 so nd (by (try dsimp only) <;> omega) r2 er2) ⟨callB_of 3 hts (yy_good wq_227) rfl rfl rfl (hw _ wq_34) (hw _ wq_224) (by decide +kernel) ⟨Nat.le_of_ble_eq_true rfl, Nat.le_of_ble_eq_true rfl⟩, hw _ wq_226, hw _ wq_3⟩ hK hN hP hD hS hA [0, 1, 2, 3, 4, 5, 6, 7, 8, 9] rfl (by decide) rfl 10 rfl (w2 := (xcW xa sa ta pa ++ stW cI cJ sa so ++ ndW cI na nd)) rfl 0 rfl rfl rfl hl.1 rfl (Nat.le_of_ble_eq_true rfl) dX4_isCommitOrAbsent_9 ⟨Nat.zero_le _, Nat.zero_le _⟩ (fun H locs hP hD hS => ?_)
    refine W.eq (g2 := F0 m 12 ls [.int (yB r2)]) rfl ?_
    refine lv_if_eq (tgt := 19) hx hb dX4_isCommitOrAbsent_12 (by decide) (fun h3 => ?_) (fun h3 => ?_)
    · have h3 := yB_0.mp h3
      have hf := yBf h3 hf
      refine lv_iconst (v := 0) hx hb dX4_isCommitOrAbsent_19 (by decide) ?_
      subst hf
      exact yy_zret (v := yB false) hx hb hr (yB_n _) hP hK hS hlocks dX4_isCommitOrAbsent_20
    · have h3 := yB_1 h3
      have hf := yBt h3 hf
      refine lv_iconst (v := 1) hx hb dX4_isCommitOrAbsent_15 (by decide) ?_
      refine lv_goto (tgt := 20) hx hb dX4_isCommitOrAbsent_16 (by decide) ?_
      subst hf
      exact yy_zret (v := yB true) hx hb hr (yB_n _) hP hK hS hlocks dX4_isCommitOrAbsent_20

set_option maxHeartbeats 4000000 in
set_option maxRecDepth 100000 in
theorem c_px_writeObject (l : Launch) (D : va_G) (cI cJ cZ cN : ClassId) (xa : Nat → Nat) (sa : Nat → Nat) (ta : Nat → Nat) (pa : Nat → Nat) (na : Nat → Nat) (kd : Int32) (f1 : Int32) (f2 : Int32) (f3 : Int32) (so : SS) (nd : NS) (hs : so.2.2.2.2.2 ≤ 60) (res : Int32 × SS × NS) (hf : res = px_writeObject kd f1 f2 f3 so nd) : yy_Met l yX4_writeObject wsX4_writeObject { frames := 3, cells := 0, slots := 0, locals := 69 } D vwCl (yT cI cJ cZ cN) [.ref (xa 0), .ref (na 0), .int kd, .int f1, .int f2, .int f3] (xcW xa sa ta pa ++ stW cI cJ sa so ++ ndW cI na nd) (some (.int res.1)) (xcW xa sa ta pa ++ stW cI cJ sa res.2.1 ++ ndW cI na res.2.2) := by
  intro sz
  refine Met.ofW (cc := cX4_writeObject) (maxL := 7) (ret := (some .int)) (by decide) rfl ?_
  intro p e s m args below meth c s₁ B hml hv
  obtain ⟨rfl, hsz, hP, hK, hD0, hN⟩ := hv
  have hx := B.exec
  have hb := B.bytes
  have hr := B.returns
  have hts := atoms_spec (ws := wsX4_writeObject) B.pre
  have hw : ∀ w ∈ yW, w.before _ s = true := fun w h => hts w (List.mem_cons_of_mem _ h)
  have hown : s.vm.findClass RX4 = some m.cls := findClass_of_methodNamed B.named
  have hlocks := B.notSynchronized
  subst hsz
  have hD := hD0.self (sz := s.heap.size)
  generalize hAe : va_A (xcW xa sa ta pa ++ stW cI cJ sa so ++ ndW cI na nd) s.heap.size = A at hD ⊢
  have hA : ∀ q : Nat, s.heap.size ≤ q → A q := fun q h => by rw [← hAe]; exact Or.inr h
  have hS : va_S A s.heap s.heap [] := va_S.rf
  have hl := lv_entry ([.ref (xa 0), .ref (na 0), .int kd, .int f1, .int f2, .int f3]) (n := 7) (Nat.le_of_ble_eq_true rfl)
  rw [lg_entry_eq]
  generalize (lg_sl ([.ref (xa 0), .ref (na 0), .int kd, .int f1, .int f2, .int f3]) ++ List.replicate (7 - (lg_sl ([.ref (xa 0), .ref (na 0), .int kd, .int f1, .int f2, .int f3])).length) Slot.unset).toArray = ls at hl ⊢
  have hl : lv_has ls 7 [(0, .ref (xa 0)), (1, .ref (na 0)), (2, .int kd), (3, .int f1), (4, .int f2), (5, .int f3)] := hl
  rw [px_writeObject] at hf
  refine lv_aload_n hx hb dX4_writeObject_0 rfl (lv_at hl 0 rfl) ?_
  refine va_get (D := D) (ci := 4) (v := .ref (sa 0)) (C := RX4) (T := TX4) (N := 6) hx hb hts (yy_tl inX4) hown hK hP 0 rfl rfl 0 (by decide) (hw _ wq_146) (fun _ h9 => h9) rfl dX4_writeObject_1 ?_
  refine lv_iload_n hx hb dX4_writeObject_4 rfl (lv_at hl 2 rfl) ?_
  refine lv_iload_n hx hb dX4_writeObject_5 rfl (lv_at hl 3 rfl) ?_
  refine lv_iload hx hb dX4_writeObject_6 (lv_at hl 4 rfl) ?_
  refine lv_iload hx hb dX4_writeObject_8 (lv_at hl 5 rfl) ?_
  obtain ⟨r1, er1⟩ : ∃ r, r = st_find kd f1 f2 f3 so := ⟨_, rfl⟩
  have hf := yb_e er1 hf
  refine yz_callV (As := [.int kd, .int f1, .int f2, .int f3]) (rest := []) ⟨hx, hb, hml, hown, hts⟩ (c_st_find l D cI cJ cZ cN sa kd f1 f2 f3 so (by (try dsimp only) <;> omega) r1 er1) ⟨callB_of 4 hts (yy_good wq_183) rfl rfl rfl (hw _ wq_35) (hw _ wq_180) (by decide +kernel) ⟨Nat.le_of_ble_eq_true rfl, Nat.le_of_ble_eq_true rfl⟩, hw _ wq_181, hw _ wq_182⟩ hK hN hP hD hS hA [1, 2, 3, 4, 5, 6] rfl (by decide) rfl 7 rfl (w2 := (xcW xa sa ta pa ++ stW cI cJ sa so ++ ndW cI na nd)) rfl 1 rfl rfl rfl hl.1 rfl (Nat.le_of_ble_eq_true rfl) dX4_writeObject_10 ⟨Nat.zero_le _, Nat.zero_le _⟩ (fun H locs hP hD hS => ?_)
  refine W.eq (g2 := F0 m 13 ls [.int r1]) rfl ?_
  refine lv_istore (lv' := [(6, .int r1), (0, .ref (xa 0)), (1, .ref (na 0)), (2, .int kd), (3, .int f1), (4, .int f2), (5, .int f3)]) hx hb dX4_writeObject_13 hl (by decide) rfl (fun ls hl => ?_)
  refine lv_iload hx hb dX4_writeObject_15 (lv_at hl 0 rfl) ?_
  refine lv_iconst (v := (-1)) hx hb dX4_writeObject_17 (by decide) ?_
  refine lv_icmp_ne (tgt := 34) hx hb dX4_writeObject_18 (by decide) (fun h2 => ?_) (fun h2 => ?_)
  · have hf := yf h2 hf
    refine lv_aload_n hx hb dX4_writeObject_34 rfl (lv_at hl 2 rfl) ?_
    obtain ⟨r3, er3⟩ : ∃ r, r = nd_heldSet nd := ⟨_, rfl⟩
    have hf := yb_e er3 hf
    refine yz_callV (As := []) (rest := []) ⟨hx, hb, hml, hown, hts⟩ (c_nd_heldSet l D cI cJ cZ cN na nd  r3 er3) ⟨callB_of 0 hts (yy_good wq_191) rfl rfl rfl (hw _ wq_36) (hw _ wq_188) (by decide +kernel) ⟨Nat.le_of_ble_eq_true rfl, Nat.le_of_ble_eq_true rfl⟩, hw _ wq_189, hw _ wq_190⟩ hK hN hP hD hS hA [7, 8, 9] rfl (by decide) rfl 10 rfl (w2 := (xcW xa sa ta pa ++ stW cI cJ sa so ++ ndW cI na nd)) rfl 7 rfl rfl rfl hl.1 rfl (Nat.le_of_ble_eq_true rfl) dX4_writeObject_35 ⟨Nat.zero_le _, Nat.zero_le _⟩ (fun H locs hP hD hS => ?_)
    refine W.eq (g2 := F0 m 38 ls [.long r3]) rfl ?_
    refine lv_iload hx hb dX4_writeObject_38 (lv_at hl 0 rfl) ?_
    obtain ⟨r4, er4⟩ : ∃ r, r = px_isIn r3 r1 := ⟨_, rfl⟩
    have hf := yb_e er4 hf
    refine yz_callS (As := [.long r3, .int r1]) (rest := []) ⟨hx, hb, hml, hown, hts⟩ (c_px_isIn l D cI cJ cZ cN r3 r1  r4 er4) ⟨callB_of 2 hts (yy_good wq_194) rfl rfl rfl (hw _ wq_34) (hw _ wq_192) (by decide +kernel) ⟨Nat.le_of_ble_eq_true rfl, Nat.le_of_ble_eq_true rfl⟩, hw _ wq_193⟩ hK hN hP hD hS hA [] rfl (by decide) rfl 0 rfl (w2 := (xcW xa sa ta pa ++ stW cI cJ sa so ++ ndW cI na nd)) rfl rfl hl.1 rfl (Nat.le_of_ble_eq_true rfl) dX4_writeObject_40 ⟨Nat.zero_le _, Nat.zero_le _⟩ (fun H locs hP hD hS => ?_)
    refine W.eq (g2 := F0 m 43 ls [.int (yB r4)]) rfl ?_
    refine lv_if_eq (tgt := 49) hx hb dX4_writeObject_43 (by decide) (fun h5 => ?_) (fun h5 => ?_)
    · have h5 := yB_0.mp h5
      have hf := yBf h5 hf
      refine lv_aload_n hx hb dX4_writeObject_49 rfl (lv_at hl 2 rfl) ?_
      obtain ⟨r6, er6⟩ : ∃ r, r = nd_write nd := ⟨_, rfl⟩
      have hf := yb_e er6 hf
      refine yz_callV (As := []) (rest := []) ⟨hx, hb, hml, hown, hts⟩ (c_nd_write l D cI cJ cZ cN na nd  r6 er6) ⟨callB_of 0 hts (yy_good wq_198) rfl rfl rfl (hw _ wq_36) (hw _ wq_195) (by decide +kernel) ⟨Nat.le_of_ble_eq_true rfl, Nat.le_of_ble_eq_true rfl⟩, hw _ wq_196, hw _ wq_197⟩ hK hN hP hD hS hA [7, 8, 9] rfl (by decide) rfl 10 rfl (w2 := (xcW xa sa ta pa ++ stW cI cJ sa so ++ ndW cI na r6.2)) rfl 7 rfl rfl rfl hl.1 rfl (Nat.le_of_ble_eq_true rfl) dX4_writeObject_50 ⟨Nat.zero_le _, Nat.zero_le _⟩ (fun H locs hP hD hS => ?_)
      refine W.eq (g2 := F0 m 53 ls [.int (yB r6.1)]) rfl ?_
      refine lv_if_ne (tgt := 59) hx hb dX4_writeObject_53 (by decide) (fun h7 => ?_) (fun h7 => ?_)
      · have h7 := yB_1 h7
        have hf := yBt h7 hf
        refine lv_iload hx hb dX4_writeObject_59 (lv_at hl 0 rfl) ?_
        refine lv_iconst (v := (-1)) hx hb dX4_writeObject_61 (by decide) ?_
        refine lv_icmp_ne (tgt := 80) hx hb dX4_writeObject_62 (by decide) (fun _ => ?_) (fun h => absurd h h2)
        refine lv_aload_n hx hb dX4_writeObject_80 rfl (lv_at hl 2 rfl) ?_
        refine lv_iload hx hb dX4_writeObject_81 (lv_at hl 0 rfl) ?_
        obtain ⟨r9, er9⟩ : ∃ r, r = nd_keep r1 r6.2 := ⟨_, rfl⟩
        have hf := yb_e er9 hf
        refine yz_callV (As := [.int r1]) (rest := []) ⟨hx, hb, hml, hown, hts⟩ (c_nd_keep l D cI cJ cZ cN na r1 r6.2  r9 er9) ⟨callB_of 1 hts (yy_good wq_215) rfl rfl rfl (hw _ wq_36) (hw _ wq_212) (by decide +kernel) ⟨Nat.le_of_ble_eq_true rfl, Nat.le_of_ble_eq_true rfl⟩, hw _ wq_213, hw _ wq_214⟩ hK hN hP hD hS hA [7, 8, 9] rfl (by decide) rfl 10 rfl (w2 := (xcW xa sa ta pa ++ stW cI cJ sa so ++ ndW cI na r9)) rfl 7 rfl rfl rfl hl.1 rfl (Nat.le_of_ble_eq_true rfl) dX4_writeObject_83 ⟨Nat.zero_le _, Nat.zero_le _⟩ (fun H locs hP hD hS => ?_)
        refine W.eq (g2 := F0 m 86 ls []) rfl ?_
        refine lv_iload hx hb dX4_writeObject_86 (lv_at hl 0 rfl) ?_
        subst hf
        exact yy_iret (v := r1) hx hb hr hP hK hS hlocks dX4_writeObject_88
      · have h7 := yB_0.mp h7
        have hf := yBf h7 hf
        refine lv_bipush (v := (-2)) hx hb dX4_writeObject_56 (by decide) ?_
        subst hf
        exact yy_iret (v := (-2)) hx hb hr hP hK hS hlocks dX4_writeObject_58
    · have h5 := yB_1 h5
      have hf := yBt h5 hf
      refine lv_iload hx hb dX4_writeObject_46 (lv_at hl 0 rfl) ?_
      subst hf
      exact yy_iret (v := r1) hx hb hr hP hK hS hlocks dX4_writeObject_48
  · have hf := yt h2 hf
    refine lv_aload_n hx hb dX4_writeObject_21 rfl (lv_at hl 1 rfl) ?_
    refine va_get (D := D) (ci := 4) (v := .ref (sa 0)) (C := RX4) (T := TX4) (N := 6) hx hb hts (yy_tl inX4) hown hK hP 0 rfl rfl 0 (by decide) (hw _ wq_146) (fun _ h9 => h9) rfl dX4_writeObject_22 ?_
    obtain ⟨r10, er10⟩ : ∃ r, r = st_isFull so := ⟨_, rfl⟩
    have hf := yb_e er10 hf
    refine yz_callV (As := []) (rest := []) ⟨hx, hb, hml, hown, hts⟩ (c_st_isFull l D cI cJ cZ cN sa so  r10 er10) ⟨callB_of 0 hts (yy_good wq_187) rfl rfl rfl (hw _ wq_35) (hw _ wq_184) (by decide +kernel) ⟨Nat.le_of_ble_eq_true rfl, Nat.le_of_ble_eq_true rfl⟩, hw _ wq_185, hw _ wq_186⟩ hK hN hP hD hS hA [1, 2, 3, 4, 5, 6] rfl (by decide) rfl 7 rfl (w2 := (xcW xa sa ta pa ++ stW cI cJ sa so ++ ndW cI na nd)) rfl 1 rfl rfl rfl hl.1 rfl (Nat.le_of_ble_eq_true rfl) dX4_writeObject_25 ⟨Nat.zero_le _, Nat.zero_le _⟩ (fun H locs hP hD hS => ?_)
    refine W.eq (g2 := F0 m 28 ls [.int (yB r10)]) rfl ?_
    refine lv_if_eq (tgt := 34) hx hb dX4_writeObject_28 (by decide) (fun h11 => ?_) (fun h11 => ?_)
    · have h11 := yB_0.mp h11
      have hf := yBf h11 hf
      refine lv_aload_n hx hb dX4_writeObject_34 rfl (lv_at hl 2 rfl) ?_
      obtain ⟨r12, er12⟩ : ∃ r, r = nd_heldSet nd := ⟨_, rfl⟩
      have hf := yb_e er12 hf
      refine yz_callV (As := []) (rest := []) ⟨hx, hb, hml, hown, hts⟩ (c_nd_heldSet l D cI cJ cZ cN na nd  r12 er12) ⟨callB_of 0 hts (yy_good wq_191) rfl rfl rfl (hw _ wq_36) (hw _ wq_188) (by decide +kernel) ⟨Nat.le_of_ble_eq_true rfl, Nat.le_of_ble_eq_true rfl⟩, hw _ wq_189, hw _ wq_190⟩ hK hN hP hD hS hA [7, 8, 9] rfl (by decide) rfl 10 rfl (w2 := (xcW xa sa ta pa ++ stW cI cJ sa so ++ ndW cI na nd)) rfl 7 rfl rfl rfl hl.1 rfl (Nat.le_of_ble_eq_true rfl) dX4_writeObject_35 ⟨Nat.zero_le _, Nat.zero_le _⟩ (fun H locs hP hD hS => ?_)
      refine W.eq (g2 := F0 m 38 ls [.long r12]) rfl ?_
      refine lv_iload hx hb dX4_writeObject_38 (lv_at hl 0 rfl) ?_
      obtain ⟨r13, er13⟩ : ∃ r, r = px_isIn r12 r1 := ⟨_, rfl⟩
      have hf := yb_e er13 hf
      refine yz_callS (As := [.long r12, .int r1]) (rest := []) ⟨hx, hb, hml, hown, hts⟩ (c_px_isIn l D cI cJ cZ cN r12 r1  r13 er13) ⟨callB_of 2 hts (yy_good wq_194) rfl rfl rfl (hw _ wq_34) (hw _ wq_192) (by decide +kernel) ⟨Nat.le_of_ble_eq_true rfl, Nat.le_of_ble_eq_true rfl⟩, hw _ wq_193⟩ hK hN hP hD hS hA [] rfl (by decide) rfl 0 rfl (w2 := (xcW xa sa ta pa ++ stW cI cJ sa so ++ ndW cI na nd)) rfl rfl hl.1 rfl (Nat.le_of_ble_eq_true rfl) dX4_writeObject_40 ⟨Nat.zero_le _, Nat.zero_le _⟩ (fun H locs hP hD hS => ?_)
      refine W.eq (g2 := F0 m 43 ls [.int (yB r13)]) rfl ?_
      refine lv_if_eq (tgt := 49) hx hb dX4_writeObject_43 (by decide) (fun h14 => ?_) (fun h14 => ?_)
      · have h14 := yB_0.mp h14
        have hf := yBf h14 hf
        refine lv_aload_n hx hb dX4_writeObject_49 rfl (lv_at hl 2 rfl) ?_
        obtain ⟨r15, er15⟩ : ∃ r, r = nd_write nd := ⟨_, rfl⟩
        have hf := yb_e er15 hf
        refine yz_callV (As := []) (rest := []) ⟨hx, hb, hml, hown, hts⟩ (c_nd_write l D cI cJ cZ cN na nd  r15 er15) ⟨callB_of 0 hts (yy_good wq_198) rfl rfl rfl (hw _ wq_36) (hw _ wq_195) (by decide +kernel) ⟨Nat.le_of_ble_eq_true rfl, Nat.le_of_ble_eq_true rfl⟩, hw _ wq_196, hw _ wq_197⟩ hK hN hP hD hS hA [7, 8, 9] rfl (by decide) rfl 10 rfl (w2 := (xcW xa sa ta pa ++ stW cI cJ sa so ++ ndW cI na r15.2)) rfl 7 rfl rfl rfl hl.1 rfl (Nat.le_of_ble_eq_true rfl) dX4_writeObject_50 ⟨Nat.zero_le _, Nat.zero_le _⟩ (fun H locs hP hD hS => ?_)
        refine W.eq (g2 := F0 m 53 ls [.int (yB r15.1)]) rfl ?_
        refine lv_if_ne (tgt := 59) hx hb dX4_writeObject_53 (by decide) (fun h16 => ?_) (fun h16 => ?_)
        · have h16 := yB_1 h16
          have hf := yBt h16 hf
          refine lv_iload hx hb dX4_writeObject_59 (lv_at hl 0 rfl) ?_
          refine lv_iconst (v := (-1)) hx hb dX4_writeObject_61 (by decide) ?_
          refine lv_icmp_ne (tgt := 80) hx hb dX4_writeObject_62 (by decide) (fun h => absurd h2 h) (fun _ => ?_)
          refine lv_aload_n hx hb dX4_writeObject_65 rfl (lv_at hl 1 rfl) ?_
          refine va_get (D := D) (ci := 4) (v := .ref (sa 0)) (C := RX4) (T := TX4) (N := 6) hx hb hts (yy_tl inX4) hown hK hP 0 rfl rfl 0 (by decide) (hw _ wq_146) (fun _ h9 => h9) rfl dX4_writeObject_66 ?_
          refine lv_iload_n hx hb dX4_writeObject_69 rfl (lv_at hl 3 rfl) ?_
          refine lv_iload_n hx hb dX4_writeObject_70 rfl (lv_at hl 4 rfl) ?_
          refine lv_iload hx hb dX4_writeObject_71 (lv_at hl 5 rfl) ?_
          refine lv_iload hx hb dX4_writeObject_73 (lv_at hl 6 rfl) ?_
          obtain ⟨r18, er18⟩ : ∃ r, r = st_add kd f1 f2 f3 so := ⟨_, rfl⟩
          have hf := yb_e er18 hf
          refine yz_callV (As := [.int kd, .int f1, .int f2, .int f3]) (rest := []) ⟨hx, hb, hml, hown, hts⟩ (c_st_add l D cI cJ cZ cN sa kd f1 f2 f3 so (by (try dsimp only) <;> omega) r18 er18) ⟨callB_of 4 hts (yy_good wq_202) rfl rfl rfl (hw _ wq_35) (hw _ wq_199) (by decide +kernel) ⟨Nat.le_of_ble_eq_true rfl, Nat.le_of_ble_eq_true rfl⟩, hw _ wq_200, hw _ wq_201⟩ hK hN hP hD hS hA [1, 2, 3, 4, 5, 6] rfl (by decide) rfl 7 rfl (w2 := (xcW xa sa ta pa ++ stW cI cJ sa r18.2 ++ ndW cI na r15.2)) rfl 1 rfl rfl rfl hl.1 rfl (Nat.le_of_ble_eq_true rfl) dX4_writeObject_75 ⟨Nat.zero_le _, Nat.zero_le _⟩ (fun H locs hP hD hS => ?_)
          refine W.eq (g2 := F0 m 78 ls [.int r18.1]) rfl ?_
          refine lv_istore (lv' := [(6, .int r18.1), (0, .ref (xa 0)), (1, .ref (na 0)), (2, .int kd), (3, .int f1), (4, .int f2), (5, .int f3)]) hx hb dX4_writeObject_78 hl (by decide) rfl (fun ls hl => ?_)
          refine lv_aload_n hx hb dX4_writeObject_80 rfl (lv_at hl 2 rfl) ?_
          refine lv_iload hx hb dX4_writeObject_81 (lv_at hl 0 rfl) ?_
          obtain ⟨r19, er19⟩ : ∃ r, r = nd_keep r18.1 r15.2 := ⟨_, rfl⟩
          have hf := yb_e er19 hf
          refine yz_callV (As := [.int r18.1]) (rest := []) ⟨hx, hb, hml, hown, hts⟩ (c_nd_keep l D cI cJ cZ cN na r18.1 r15.2  r19 er19) ⟨callB_of 1 hts (yy_good wq_215) rfl rfl rfl (hw _ wq_36) (hw _ wq_212) (by decide +kernel) ⟨Nat.le_of_ble_eq_true rfl, Nat.le_of_ble_eq_true rfl⟩, hw _ wq_213, hw _ wq_214⟩ hK hN hP hD hS hA [7, 8, 9] rfl (by decide) rfl 10 rfl (w2 := (xcW xa sa ta pa ++ stW cI cJ sa r18.2 ++ ndW cI na r19)) rfl 7 rfl rfl rfl hl.1 rfl (Nat.le_of_ble_eq_true rfl) dX4_writeObject_83 ⟨Nat.zero_le _, Nat.zero_le _⟩ (fun H locs hP hD hS => ?_)
          refine W.eq (g2 := F0 m 86 ls []) rfl ?_
          refine lv_iload hx hb dX4_writeObject_86 (lv_at hl 0 rfl) ?_
          subst hf
          exact yy_iret (v := r18.1) hx hb hr hP hK hS hlocks dX4_writeObject_88
        · have h16 := yB_0.mp h16
          have hf := yBf h16 hf
          refine lv_bipush (v := (-2)) hx hb dX4_writeObject_56 (by decide) ?_
          subst hf
          exact yy_iret (v := (-2)) hx hb hr hP hK hS hlocks dX4_writeObject_58
      · have h14 := yB_1 h14
        have hf := yBt h14 hf
        refine lv_iload hx hb dX4_writeObject_46 (lv_at hl 0 rfl) ?_
        subst hf
        exact yy_iret (v := r1) hx hb hr hP hK hS hlocks dX4_writeObject_48
    · have h11 := yB_1 h11
      have hf := yBt h11 hf
      refine lv_bipush (v := (-3)) hx hb dX4_writeObject_31 (by decide) ?_
      subst hf
      exact yy_iret (v := (-3)) hx hb hr hP hK hS hlocks dX4_writeObject_33

set_option maxHeartbeats 4000000 in
set_option maxRecDepth 100000 in
theorem c_px_clearTargets (l : Launch) (D : va_G) (cI cJ cZ cN : ClassId) (xa : Nat → Nat) (sa : Nat → Nat) (ta : Nat → Nat) (pa : Nat → Nat) (tg : (Nat → Int32))  (res : (Nat → Int32)) (hf : res = px_clearTargets tg) : yy_Met l yX4_clearTargets wsX4_clearTargets { frames := 0, cells := 0, slots := 0, locals := 0 } D vwCl (yT cI cJ cZ cN) [.ref (xa 0)] (xcW xa sa ta pa ++ tgW cI xa tg) none (xcW xa sa ta pa ++ tgW cI xa res) := by
  intro sz
  refine Met.ofW (cc := cX4_clearTargets) (maxL := 2) (ret := none) (by decide) rfl ?_
  intro p e s m args below meth c s₁ B hml hv
  obtain ⟨rfl, hsz, hP, hK, hD0, hN⟩ := hv
  have hx := B.exec
  have hb := B.bytes
  have hr := B.returns
  have hts := atoms_spec (ws := wsX4_clearTargets) B.pre
  have hw : ∀ w ∈ yW, w.before _ s = true := fun w h => hts w (List.mem_cons_of_mem _ h)
  have hown : s.vm.findClass RX4 = some m.cls := findClass_of_methodNamed B.named
  have hlocks := B.notSynchronized
  subst hsz
  have hD := hD0.self (sz := s.heap.size)
  generalize hAe : va_A (xcW xa sa ta pa ++ tgW cI xa tg) s.heap.size = A at hD ⊢
  have hA : ∀ q : Nat, s.heap.size ≤ q → A q := fun q h => by rw [← hAe]; exact Or.inr h
  have hS : va_S A s.heap s.heap [] := va_S.rf
  have hl := lv_entry ([.ref (xa 0)]) (n := 2) (Nat.le_of_ble_eq_true rfl)
  rw [lg_entry_eq]
  generalize (lg_sl ([.ref (xa 0)]) ++ List.replicate (2 - (lg_sl ([.ref (xa 0)])).length) Slot.unset).toArray = ls at hl ⊢
  have hl : lv_has ls 2 [(0, .ref (xa 0))] := hl
  have hL2 : ∀ (k : Nat) (i : Nat) (tg : (Nat → Int32)) (ls : Array Slot) (H : Heap) (locs : List Loc), i + k = 8 → res = px_clearTargets_L2  k i tg → lv_has ls 2 [(0, .ref (xa 0)), (1, .int (nI i))] → va_P D vwCl (xcW xa sa ta pa ++ tgW cI xa tg) H → va_D A (xcW xa sa ta pa ++ tgW cI xa tg) → va_S A s.heap H locs → W p l e (headSpec wsX4_clearTargets { frames := 0, cells := 0, slots := 0, locals := 0 }).room s m ([.ref (xa 0)] : List Value).toArray below meth c H locs 0 0 (MQ below (yy_Q A D vwCl (yT cI cJ cZ cN) (xcW xa sa ta pa ++ tgW cI xa res) none) ([.ref (xa 0)] : List Value).toArray s 0 0 A) (F0 m 2 ls []) := by
    intro k
    induction k with
    | zero =>
      intro i tg ls H locs hi hf hl hP hD hS
      rw [px_clearTargets_L2] at hf
      refine lv_iload_n hx hb dX4_clearTargets_2 rfl (lv_at hl 1 rfl) ?_
      refine lv_bipush (v := (nI 8)) hx hb dX4_clearTargets_3 (by decide) ?_
      refine lv_icmp_ge (tgt := 22) hx hb dX4_clearTargets_5 (by decide) (fun _ => ?_) (fun h => absurd (nI_le (by omega) (by omega)) h)
      subst hf
      exact yy_vret hx hb hr hP hK hS hlocks dX4_clearTargets_22
    | succ k ih =>
      intro i tg ls H locs hi hf hl hP hD hS
      rw [px_clearTargets_L2] at hf
      refine lv_iload_n hx hb dX4_clearTargets_2 rfl (lv_at hl 1 rfl) ?_
      refine lv_bipush (v := (nI 8)) hx hb dX4_clearTargets_3 (by decide) ?_
      refine lv_icmp_ge (tgt := 22) hx hb dX4_clearTargets_5 (by decide) (fun h => absurd h (nI_ge (by omega) (by omega))) (fun _ => ?_)
      refine lv_aload_n hx hb dX4_clearTargets_8 rfl (lv_at hl 0 rfl) ?_
      refine va_get (D := D) (ci := 4) (v := .ref (xa 3)) (C := RX4) (T := TX4) (N := 6) hx hb hts (yy_tl inX4) hown hK hP 0 rfl rfl 5 (by decide) (hw _ wq_151) (fun _ h9 => h9) rfl dX4_clearTargets_9 ?_
      refine lv_iload_n hx hb dX4_clearTargets_12 rfl (lv_at hl 1 rfl) ?_
      refine lv_bipush (v := (-2)) hx hb dX4_clearTargets_13 (by decide) ?_
      refine yr_iast hx hb hK hP hD hS 1 0 (f := tg) (j := i) rfl rfl rfl (by omega) (by decide) dX4_clearTargets_15 (fun H locs hP hD hS => ?_)
      have hP : va_P D vwCl (xcW xa sa ta pa ++ tgW cI xa (upd tg i (-2))) H := hP
      have hD : va_D A (xcW xa sa ta pa ++ tgW cI xa (upd tg i (-2))) := hD
      refine lv_iinc (k := 1) (v := (nI (i + 1))) (lv' := [(1, .int (nI (i + 1))), (0, .ref (xa 0))]) hx hb dX4_clearTargets_16 hl rfl (yy_inc _) (by decide) rfl (fun ls hl => ?_)
      refine lv_goto (tgt := 2) hx hb dX4_clearTargets_19 (by decide) ?_
      exact ih (i + 1) (upd tg i (-2)) _ _ _ (by omega) hf (lv_sub hl [1, 0] rfl) hP hD hS
  rw [px_clearTargets] at hf
  refine lv_iconst (v := (nI 0)) hx hb dX4_clearTargets_0 (by decide) ?_
  refine lv_istore_n (lv' := [(1, .int (nI 0)), (0, .ref (xa 0))]) hx hb dX4_clearTargets_1 rfl hl (by decide) rfl (fun ls hl => ?_)
  exact hL2 8 0 tg _ _ _ (by omega) hf (lv_sub hl [1, 0] rfl) hP hD hS

set_option maxHeartbeats 4000000 in
set_option maxRecDepth 100000 in
theorem c_px_aimAtOne (l : Launch) (D : va_G) (cI cJ cZ cN : ClassId) (xa : Nat → Nat) (sa : Nat → Nat) (ta : Nat → Nat) (pa : Nat → Nat) (rn : Nat) (vl : Int32) (tg : (Nat → Int32)) (hr4 : rn < 4) (res : (Nat → Int32)) (hf : res = px_aimAtOne rn vl tg) : yy_Met l yX4_aimAtOne wsX4_aimAtOne { frames := 1, cells := 0, slots := 0, locals := 21 } D vwCl (yT cI cJ cZ cN) [.ref (xa 0), .int (nI rn), .int vl] (xcW xa sa ta pa ++ tgW cI xa tg) none (xcW xa sa ta pa ++ tgW cI xa res) := by
  intro sz
  refine Met.ofW (cc := cX4_aimAtOne) (maxL := 3) (ret := none) (by decide) rfl ?_
  intro p e s m args below meth c s₁ B hml hv
  obtain ⟨rfl, hsz, hP, hK, hD0, hN⟩ := hv
  have hx := B.exec
  have hb := B.bytes
  have hr := B.returns
  have hts := atoms_spec (ws := wsX4_aimAtOne) B.pre
  have hw : ∀ w ∈ yW, w.before _ s = true := fun w h => hts w (List.mem_cons_of_mem _ h)
  have hown : s.vm.findClass RX4 = some m.cls := findClass_of_methodNamed B.named
  have hlocks := B.notSynchronized
  subst hsz
  have hD := hD0.self (sz := s.heap.size)
  generalize hAe : va_A (xcW xa sa ta pa ++ tgW cI xa tg) s.heap.size = A at hD ⊢
  have hA : ∀ q : Nat, s.heap.size ≤ q → A q := fun q h => by rw [← hAe]; exact Or.inr h
  have hS : va_S A s.heap s.heap [] := va_S.rf
  have hl := lv_entry ([.ref (xa 0), .int (nI rn), .int vl]) (n := 3) (Nat.le_of_ble_eq_true rfl)
  rw [lg_entry_eq]
  generalize (lg_sl ([.ref (xa 0), .int (nI rn), .int vl]) ++ List.replicate (3 - (lg_sl ([.ref (xa 0), .int (nI rn), .int vl])).length) Slot.unset).toArray = ls at hl ⊢
  have hl : lv_has ls 3 [(0, .ref (xa 0)), (1, .int (nI rn)), (2, .int vl)] := hl
  rw [px_aimAtOne] at hf
  refine lv_aload_n hx hb dX4_aimAtOne_0 rfl (lv_at hl 0 rfl) ?_
  obtain ⟨r1, er1⟩ : ∃ r, r = px_clearTargets tg := ⟨_, rfl⟩
  have hf := yb_e er1 hf
  refine yz_callV (As := []) (rest := []) ⟨hx, hb, hml, hown, hts⟩ (c_px_clearTargets l D cI cJ cZ cN xa sa ta pa tg  r1 er1) ⟨callB_of 0 hts (yy_good wq_254) rfl rfl rfl (hw _ wq_34) (hw _ wq_251) (by decide +kernel) ⟨Nat.le_of_ble_eq_true rfl, Nat.le_of_ble_eq_true rfl⟩, hw _ wq_253, hw _ wq_6⟩ hK hN hP hD hS hA [0, 1] rfl (by decide) rfl 2 rfl (w2 := (xcW xa sa ta pa ++ tgW cI xa r1)) rfl 0 rfl rfl rfl hl.1 rfl (Nat.le_of_ble_eq_true rfl) dX4_aimAtOne_1 ⟨Nat.zero_le _, Nat.zero_le _⟩ (fun H locs hP hD hS => ?_)
  refine W.eq (g2 := F0 m 4 ls []) rfl ?_
  refine lv_aload_n hx hb dX4_aimAtOne_4 rfl (lv_at hl 0 rfl) ?_
  refine va_get (D := D) (ci := 4) (v := .ref (xa 3)) (C := RX4) (T := TX4) (N := 6) hx hb hts (yy_tl inX4) hown hK hP 0 rfl rfl 5 (by decide) (hw _ wq_151) (fun _ h9 => h9) rfl dX4_aimAtOne_5 ?_
  refine lv_iload_n hx hb dX4_aimAtOne_8 rfl (lv_at hl 1 rfl) ?_
  refine lv_iload_n hx hb dX4_aimAtOne_9 rfl (lv_at hl 2 rfl) ?_
  refine yr_iast hx hb hK hP hD hS 1 0 (f := r1) (j := rn) rfl rfl rfl (by omega) (by decide) dX4_aimAtOne_10 (fun H locs hP hD hS => ?_)
  have hP : va_P D vwCl (xcW xa sa ta pa ++ tgW cI xa (upd r1 rn vl)) H := hP
  have hD : va_D A (xcW xa sa ta pa ++ tgW cI xa (upd r1 rn vl)) := hD
  subst hf
  exact yy_vret hx hb hr hP hK hS hlocks dX4_aimAtOne_11

set_option maxHeartbeats 4000000 in
set_option maxRecDepth 100000 in
theorem c_px_aimAtValues (l : Launch) (D : va_G) (cI cJ cZ cN : ClassId) (xa : Nat → Nat) (sa : Nat → Nat) (ta : Nat → Nat) (pa : Nat → Nat) (na : Nat → Nat) (set : Int32) (sh : Nat) (tg : (Nat → Int32)) (nd : NS) (hsh : sh ≤ 4) (res : (Nat → Int32)) (hf : res = px_aimAtValues set sh tg nd) : yy_Met l yX4_aimAtValues wsX4_aimAtValues { frames := 1, cells := 0, slots := 0, locals := 21 } D vwCl (yT cI cJ cZ cN) [.ref (xa 0), .ref (na 0), .int set, .int (nI sh)] (xcW xa sa ta pa ++ tgW cI xa tg ++ ndW cI na nd) none (xcW xa sa ta pa ++ tgW cI xa res ++ ndW cI na nd) := by
  intro sz
  refine Met.ofW (cc := cX4_aimAtValues) (maxL := 5) (ret := none) (by decide) rfl ?_
  intro p e s m args below meth c s₁ B hml hv
  obtain ⟨rfl, hsz, hP, hK, hD0, hN⟩ := hv
  have hx := B.exec
  have hb := B.bytes
  have hr := B.returns
  have hts := atoms_spec (ws := wsX4_aimAtValues) B.pre
  have hw : ∀ w ∈ yW, w.before _ s = true := fun w h => hts w (List.mem_cons_of_mem _ h)
  have hown : s.vm.findClass RX4 = some m.cls := findClass_of_methodNamed B.named
  have hlocks := B.notSynchronized
  subst hsz
  have hD := hD0.self (sz := s.heap.size)
  generalize hAe : va_A (xcW xa sa ta pa ++ tgW cI xa tg ++ ndW cI na nd) s.heap.size = A at hD ⊢
  have hA : ∀ q : Nat, s.heap.size ≤ q → A q := fun q h => by rw [← hAe]; exact Or.inr h
  have hS : va_S A s.heap s.heap [] := va_S.rf
  have hl := lv_entry ([.ref (xa 0), .ref (na 0), .int set, .int (nI sh)]) (n := 5) (Nat.le_of_ble_eq_true rfl)
  rw [lg_entry_eq]
  generalize (lg_sl ([.ref (xa 0), .ref (na 0), .int set, .int (nI sh)]) ++ List.replicate (5 - (lg_sl ([.ref (xa 0), .ref (na 0), .int set, .int (nI sh)])).length) Slot.unset).toArray = ls at hl ⊢
  have hl : lv_has ls 5 [(0, .ref (xa 0)), (1, .ref (na 0)), (2, .int set), (3, .int (nI sh))] := hl
  have hL7 : ∀ (k : Nat) (i : Nat) (tg : (Nat → Int32)) (ls : Array Slot) (H : Heap) (locs : List Loc), i + k = 4 → res = px_aimAtValues_L7 set sh nd k i tg → lv_has ls 5 [(0, .ref (xa 0)), (1, .ref (na 0)), (2, .int set), (3, .int (nI sh)), (4, .int (nI i))] → va_P D vwCl (xcW xa sa ta pa ++ tgW cI xa tg ++ ndW cI na nd) H → va_D A (xcW xa sa ta pa ++ tgW cI xa tg ++ ndW cI na nd) → va_S A s.heap H locs → W p l e (headSpec wsX4_aimAtValues { frames := 1, cells := 0, slots := 0, locals := 21 }).room s m ([.ref (xa 0), .ref (na 0), .int set, .int (nI sh)] : List Value).toArray below meth c H locs 0 0 (MQ below (yy_Q A D vwCl (yT cI cJ cZ cN) (xcW xa sa ta pa ++ tgW cI xa res ++ ndW cI na nd) none) ([.ref (xa 0), .ref (na 0), .int set, .int (nI sh)] : List Value).toArray s 0 0 A) (F0 m 7 ls []) := by
    intro k
    induction k with
    | zero =>
      intro i tg ls H locs hi hf hl hP hD hS
      rw [px_aimAtValues_L7] at hf
      refine lv_iload hx hb dX4_aimAtValues_7 (lv_at hl 4 rfl) ?_
      refine lv_iconst (v := (nI 4)) hx hb dX4_aimAtValues_9 (by decide) ?_
      refine lv_icmp_ge (tgt := 53) hx hb dX4_aimAtValues_10 (by decide) (fun _ => ?_) (fun h => absurd (nI_le (by omega) (by omega)) h)
      subst hf
      exact yy_vret hx hb hr hP hK hS hlocks dX4_aimAtValues_53
    | succ k ih =>
      intro i tg ls H locs hi hf hl hP hD hS
      rw [px_aimAtValues_L7] at hf
      refine lv_iload hx hb dX4_aimAtValues_7 (lv_at hl 4 rfl) ?_
      refine lv_iconst (v := (nI 4)) hx hb dX4_aimAtValues_9 (by decide) ?_
      refine lv_icmp_ge (tgt := 53) hx hb dX4_aimAtValues_10 (by decide) (fun h => absurd h (nI_ge (by omega) (by omega))) (fun _ => ?_)
      refine lv_iload_n hx hb dX4_aimAtValues_13 rfl (lv_at hl 2 rfl) ?_
      refine lv_iload hx hb dX4_aimAtValues_14 (lv_at hl 4 rfl) ?_
      obtain ⟨r1, er1⟩ : ∃ r, r = px_isChosen set (nI i) := ⟨_, rfl⟩
      have hf := yb_e er1 hf
      refine yz_callS (As := [.int set, .int (nI i)]) (rest := []) ⟨hx, hb, hml, hown, hts⟩ (c_px_isChosen l D cI cJ cZ cN set (nI i)  r1 er1) ⟨callB_of 2 hts (yy_good wq_288) rfl rfl rfl (hw _ wq_34) (hw _ wq_359) (by decide +kernel) ⟨Nat.le_of_ble_eq_true rfl, Nat.le_of_ble_eq_true rfl⟩, hw _ wq_287⟩ hK hN hP hD hS hA [] rfl (by decide) rfl 0 rfl (w2 := (xcW xa sa ta pa ++ tgW cI xa tg ++ ndW cI na nd)) rfl rfl hl.1 rfl (Nat.le_of_ble_eq_true rfl) dX4_aimAtValues_16 ⟨Nat.zero_le _, Nat.zero_le _⟩ (fun H locs hP hD hS => ?_)
      refine W.eq (g2 := F0 m 19 ls [.int (yB r1)]) rfl ?_
      refine lv_if_eq (tgt := 47) hx hb dX4_aimAtValues_19 (by decide) (fun h2 => ?_) (fun h2 => ?_)
      · have h2 := yB_0.mp h2
        have hf := yBf h2 hf
        refine lv_iinc (k := 4) (v := (nI (i + 1))) (lv' := [(4, .int (nI (i + 1))), (0, .ref (xa 0)), (1, .ref (na 0)), (2, .int set), (3, .int (nI sh))]) hx hb dX4_aimAtValues_47 hl rfl (yy_inc _) (by decide) rfl (fun ls hl => ?_)
        refine lv_goto (tgt := 7) hx hb dX4_aimAtValues_50 (by decide) ?_
        exact ih (i + 1) tg _ _ _ (by omega) hf (lv_sub hl [1, 2, 3, 4, 0] rfl) hP hD hS
      · have h2 := yB_1 h2
        have hf := yBt h2 hf
        refine lv_aload_n hx hb dX4_aimAtValues_22 rfl (lv_at hl 1 rfl) ?_
        refine lv_iload hx hb dX4_aimAtValues_23 (lv_at hl 4 rfl) ?_
        obtain ⟨r3, er3⟩ : ∃ r, r = nd_valueOf (nI i) nd := ⟨_, rfl⟩
        have hf := yb_e er3 hf
        refine yz_callV (As := [.int (nI i)]) (rest := []) ⟨hx, hb, hml, hown, hts⟩ (c_nd_valueOf l D cI cJ cZ cN na (nI i) nd  r3 er3) ⟨callB_of 1 hts (yy_good wq_242) rfl rfl rfl (hw _ wq_36) (hw _ wq_239) (by decide +kernel) ⟨Nat.le_of_ble_eq_true rfl, Nat.le_of_ble_eq_true rfl⟩, hw _ wq_240, hw _ wq_241⟩ hK hN hP hD hS hA [2, 3, 4] rfl (by decide) rfl 5 rfl (w2 := (xcW xa sa ta pa ++ tgW cI xa tg ++ ndW cI na nd)) rfl 2 rfl rfl rfl hl.1 rfl (Nat.le_of_ble_eq_true rfl) dX4_aimAtValues_25 ⟨Nat.zero_le _, Nat.zero_le _⟩ (fun H locs hP hD hS => ?_)
        refine W.eq (g2 := F0 m 28 ls [.int r3]) rfl ?_
        refine lv_iconst (v := (-1)) hx hb dX4_aimAtValues_28 (by decide) ?_
        refine lv_icmp_eq (tgt := 47) hx hb dX4_aimAtValues_29 (by decide) (fun h4 => ?_) (fun h4 => ?_)
        · have hf := yt h4 hf
          refine lv_iinc (k := 4) (v := (nI (i + 1))) (lv' := [(4, .int (nI (i + 1))), (0, .ref (xa 0)), (1, .ref (na 0)), (2, .int set), (3, .int (nI sh))]) hx hb dX4_aimAtValues_47 hl rfl (yy_inc _) (by decide) rfl (fun ls hl => ?_)
          refine lv_goto (tgt := 7) hx hb dX4_aimAtValues_50 (by decide) ?_
          exact ih (i + 1) tg _ _ _ (by omega) hf (lv_sub hl [1, 2, 3, 4, 0] rfl) hP hD hS
        · have hf := yf h4 hf
          refine lv_aload_n hx hb dX4_aimAtValues_32 rfl (lv_at hl 0 rfl) ?_
          refine va_get (D := D) (ci := 4) (v := .ref (xa 3)) (C := RX4) (T := TX4) (N := 6) hx hb hts (yy_tl inX4) hown hK hP 0 rfl rfl 5 (by decide) (hw _ wq_151) (fun _ h9 => h9) rfl dX4_aimAtValues_33 ?_
          refine lv_iload hx hb dX4_aimAtValues_36 (lv_at hl 4 rfl) ?_
          refine lv_iload_n hx hb dX4_aimAtValues_38 rfl (lv_at hl 3 rfl) ?_
          refine yr_iaddN hx hb dX4_aimAtValues_39 ?_
          refine lv_aload_n hx hb dX4_aimAtValues_40 rfl (lv_at hl 1 rfl) ?_
          refine lv_iload hx hb dX4_aimAtValues_41 (lv_at hl 4 rfl) ?_
          obtain ⟨r5, er5⟩ : ∃ r, r = nd_valueOf (nI i) nd := ⟨_, rfl⟩
          have hf := yb_e er5 hf
          refine yz_callV (As := [.int (nI i)]) (rest := [.int (nI (i + sh)), .ref (xa 3)]) ⟨hx, hb, hml, hown, hts⟩ (c_nd_valueOf l D cI cJ cZ cN na (nI i) nd  r5 er5) ⟨callB_of 1 hts (yy_good wq_242) rfl rfl rfl (hw _ wq_36) (hw _ wq_239) (by decide +kernel) ⟨Nat.le_of_ble_eq_true rfl, Nat.le_of_ble_eq_true rfl⟩, hw _ wq_240, hw _ wq_241⟩ hK hN hP hD hS hA [2, 3, 4] rfl (by decide) rfl 5 rfl (w2 := (xcW xa sa ta pa ++ tgW cI xa tg ++ ndW cI na nd)) rfl 2 rfl rfl rfl hl.1 rfl (Nat.le_of_ble_eq_true rfl) dX4_aimAtValues_43 ⟨Nat.zero_le _, Nat.zero_le _⟩ (fun H locs hP hD hS => ?_)
          refine W.eq (g2 := F0 m 46 ls [.int r5, .int (nI (i + sh)), .ref (xa 3)]) rfl ?_
          refine yr_iast hx hb hK hP hD hS 1 0 (f := tg) (j := i + sh) rfl rfl rfl (by omega) (by decide) dX4_aimAtValues_46 (fun H locs hP hD hS => ?_)
          have hP : va_P D vwCl (xcW xa sa ta pa ++ tgW cI xa (upd tg (i + sh) r5) ++ ndW cI na nd) H := hP
          have hD : va_D A (xcW xa sa ta pa ++ tgW cI xa (upd tg (i + sh) r5) ++ ndW cI na nd) := hD
          refine lv_iinc (k := 4) (v := (nI (i + 1))) (lv' := [(4, .int (nI (i + 1))), (0, .ref (xa 0)), (1, .ref (na 0)), (2, .int set), (3, .int (nI sh))]) hx hb dX4_aimAtValues_47 hl rfl (yy_inc _) (by decide) rfl (fun ls hl => ?_)
          refine lv_goto (tgt := 7) hx hb dX4_aimAtValues_50 (by decide) ?_
          exact ih (i + 1) (upd tg (i + sh) r5) _ _ _ (by omega) hf (lv_sub hl [1, 2, 3, 4, 0] rfl) hP hD hS
  rw [px_aimAtValues] at hf
  refine lv_aload_n hx hb dX4_aimAtValues_0 rfl (lv_at hl 0 rfl) ?_
  obtain ⟨r6, er6⟩ : ∃ r, r = px_clearTargets tg := ⟨_, rfl⟩
  have hf := yb_e er6 hf
  refine yz_callV (As := []) (rest := []) ⟨hx, hb, hml, hown, hts⟩ (c_px_clearTargets l D cI cJ cZ cN xa sa ta pa tg  r6 er6) ⟨callB_of 0 hts (yy_good wq_254) rfl rfl rfl (hw _ wq_34) (hw _ wq_251) (by decide +kernel) ⟨Nat.le_of_ble_eq_true rfl, Nat.le_of_ble_eq_true rfl⟩, hw _ wq_253, hw _ wq_6⟩ hK hN hP hD hS hA [0, 1] rfl (by decide) rfl 2 rfl (w2 := (xcW xa sa ta pa ++ tgW cI xa r6 ++ ndW cI na nd)) rfl 0 rfl rfl rfl hl.1 rfl (Nat.le_of_ble_eq_true rfl) dX4_aimAtValues_1 ⟨Nat.zero_le _, Nat.zero_le _⟩ (fun H locs hP hD hS => ?_)
  refine W.eq (g2 := F0 m 4 ls []) rfl ?_
  refine lv_iconst (v := (nI 0)) hx hb dX4_aimAtValues_4 (by decide) ?_
  refine lv_istore (lv' := [(4, .int (nI 0)), (0, .ref (xa 0)), (1, .ref (na 0)), (2, .int set), (3, .int (nI sh))]) hx hb dX4_aimAtValues_5 hl (by decide) rfl (fun ls hl => ?_)
  exact hL7 4 0 r6 _ _ _ (by omega) hf (lv_sub hl [1, 2, 3, 4, 0] rfl) hP hD hS

set_option maxHeartbeats 4000000 in
set_option maxRecDepth 100000 in
theorem c_px_verdictOn (l : Launch) (D : va_G) (cI cJ cZ cN : ClassId) (xa : Nat → Nat) (sa : Nat → Nat) (ta : Nat → Nat) (pa : Nat → Nat) (na : Nat → Nat) (nb : Nat → Nat) (rn : Nat) (so : SS) (nd : NS) (ne : NS) (hs : so.2.2.2.2.2 ≤ 60) (hr4 : rn < 4) (res : Int32) (hf : res = px_verdictOn rn so nd ne) : yy_Met l yX4_verdictOn wsX4_verdictOn { frames := 2, cells := 0, slots := 0, locals := 42 } D vwCl (yT cI cJ cZ cN) [.ref (xa 0), .ref (na 0), .ref (nb 0), .int (nI rn)] (xcW xa sa ta pa ++ stW cI cJ sa so ++ ndW cI na nd ++ ndW cI nb ne) (some (.int res)) (xcW xa sa ta pa ++ stW cI cJ sa so ++ ndW cI na nd ++ ndW cI nb ne) := by
  intro sz
  refine Met.ofW (cc := cX4_verdictOn) (maxL := 5) (ret := (some .int)) (by decide) rfl ?_
  intro p e s m args below meth c s₁ B hml hv
  obtain ⟨rfl, hsz, hP, hK, hD0, hN⟩ := hv
  have hx := B.exec
  have hb := B.bytes
  have hr := B.returns
  have hts := atoms_spec (ws := wsX4_verdictOn) B.pre
  have hw : ∀ w ∈ yW, w.before _ s = true := fun w h => hts w (List.mem_cons_of_mem _ h)
  have hown : s.vm.findClass RX4 = some m.cls := findClass_of_methodNamed B.named
  have hlocks := B.notSynchronized
  subst hsz
  have hD := hD0.self (sz := s.heap.size)
  generalize hAe : va_A (xcW xa sa ta pa ++ stW cI cJ sa so ++ ndW cI na nd ++ ndW cI nb ne) s.heap.size = A at hD ⊢
  have hA : ∀ q : Nat, s.heap.size ≤ q → A q := fun q h => by rw [← hAe]; exact Or.inr h
  have hS : va_S A s.heap s.heap [] := va_S.rf
  have hl := lv_entry ([.ref (xa 0), .ref (na 0), .ref (nb 0), .int (nI rn)]) (n := 5) (Nat.le_of_ble_eq_true rfl)
  rw [lg_entry_eq]
  generalize (lg_sl ([.ref (xa 0), .ref (na 0), .ref (nb 0), .int (nI rn)]) ++ List.replicate (5 - (lg_sl ([.ref (xa 0), .ref (na 0), .ref (nb 0), .int (nI rn)])).length) Slot.unset).toArray = ls at hl ⊢
  have hl : lv_has ls 5 [(0, .ref (xa 0)), (1, .ref (na 0)), (2, .ref (nb 0)), (3, .int (nI rn))] := hl
  rw [px_verdictOn] at hf
  refine lv_aload_n hx hb dX4_verdictOn_0 rfl (lv_at hl 1 rfl) ?_
  refine lv_iconst (v := (nI 4)) hx hb dX4_verdictOn_1 (by decide) ?_
  refine lv_iload_n hx hb dX4_verdictOn_2 rfl (lv_at hl 3 rfl) ?_
  refine yr_iaddN hx hb dX4_verdictOn_3 ?_
  obtain ⟨r1, er1⟩ : ∃ r, r = nd_valueOf (nI (4 + rn)) nd := ⟨_, rfl⟩
  have hf := yb_e er1 hf
  refine yz_callV (As := [.int (nI (4 + rn))]) (rest := []) ⟨hx, hb, hml, hown, hts⟩ (c_nd_valueOf l D cI cJ cZ cN na (nI (4 + rn)) nd  r1 er1) ⟨callB_of 1 hts (yy_good wq_242) rfl rfl rfl (hw _ wq_36) (hw _ wq_239) (by decide +kernel) ⟨Nat.le_of_ble_eq_true rfl, Nat.le_of_ble_eq_true rfl⟩, hw _ wq_240, hw _ wq_241⟩ hK hN hP hD hS hA [7, 8, 9] rfl (by decide) rfl 10 rfl (w2 := (xcW xa sa ta pa ++ stW cI cJ sa so ++ ndW cI na nd ++ ndW cI nb ne)) rfl 7 rfl rfl rfl hl.1 rfl (Nat.le_of_ble_eq_true rfl) dX4_verdictOn_4 ⟨Nat.zero_le _, Nat.zero_le _⟩ (fun H locs hP hD hS => ?_)
  refine W.eq (g2 := F0 m 7 ls [.int r1]) rfl ?_
  refine lv_istore (lv' := [(4, .int r1), (0, .ref (xa 0)), (1, .ref (na 0)), (2, .ref (nb 0)), (3, .int (nI rn))]) hx hb dX4_verdictOn_7 hl (by decide) rfl (fun ls hl => ?_)
  refine lv_aload_n hx hb dX4_verdictOn_9 rfl (lv_at hl 3 rfl) ?_
  refine lv_iload_n hx hb dX4_verdictOn_10 rfl (lv_at hl 4 rfl) ?_
  obtain ⟨r2, er2⟩ : ∃ r, r = nd_valueOf (nI rn) ne := ⟨_, rfl⟩
  have hf := yb_e er2 hf
  refine yz_callV (As := [.int (nI rn)]) (rest := []) ⟨hx, hb, hml, hown, hts⟩ (c_nd_valueOf l D cI cJ cZ cN nb (nI rn) ne  r2 er2) ⟨callB_of 1 hts (yy_good wq_242) rfl rfl rfl (hw _ wq_36) (hw _ wq_239) (by decide +kernel) ⟨Nat.le_of_ble_eq_true rfl, Nat.le_of_ble_eq_true rfl⟩, hw _ wq_240, hw _ wq_241⟩ hK hN hP hD hS hA [10, 11, 12] rfl (by decide) rfl 13 rfl (w2 := (xcW xa sa ta pa ++ stW cI cJ sa so ++ ndW cI na nd ++ ndW cI nb ne)) rfl 10 rfl rfl rfl hl.1 rfl (Nat.le_of_ble_eq_true rfl) dX4_verdictOn_11 ⟨Nat.zero_le _, Nat.zero_le _⟩ (fun H locs hP hD hS => ?_)
  refine W.eq (g2 := F0 m 14 ls [.int r2]) rfl ?_
  refine lv_iload hx hb dX4_verdictOn_14 (lv_at hl 0 rfl) ?_
  refine lv_icmp_eq (tgt := 21) hx hb dX4_verdictOn_16 (by decide) (fun h3 => ?_) (fun h3 => ?_)
  · have hf := yt h3 hf
    refine lv_iload hx hb dX4_verdictOn_21 (lv_at hl 0 rfl) ?_
    refine lv_iconst (v := (-1)) hx hb dX4_verdictOn_23 (by decide) ?_
    refine lv_icmp_eq (tgt := 49) hx hb dX4_verdictOn_24 (by decide) (fun h4 => ?_) (fun h4 => ?_)
    · have hf := yt h4 hf
      refine lv_iconst (v := 1) hx hb dX4_verdictOn_49 (by decide) ?_
      subst hf
      exact yy_iret (v := 1) hx hb hr hP hK hS hlocks dX4_verdictOn_50
    · have hf := yf h4 hf
      refine lv_aload_n hx hb dX4_verdictOn_27 rfl (lv_at hl 1 rfl) ?_
      refine va_get (D := D) (ci := 4) (v := .ref (sa 0)) (C := RX4) (T := TX4) (N := 6) hx hb hts (yy_tl inX4) hown hK hP 0 rfl rfl 0 (by decide) (hw _ wq_146) (fun _ h9 => h9) rfl dX4_verdictOn_28 ?_
      refine lv_aload_n hx hb dX4_verdictOn_31 rfl (lv_at hl 2 rfl) ?_
      refine lv_iload_n hx hb dX4_verdictOn_32 rfl (lv_at hl 4 rfl) ?_
      obtain ⟨r5, er5⟩ : ∃ r, r = nd_valueOf (nI rn) nd := ⟨_, rfl⟩
      have hf := yb_e er5 hf
      refine yz_callV (As := [.int (nI rn)]) (rest := [.ref (sa 0)]) ⟨hx, hb, hml, hown, hts⟩ (c_nd_valueOf l D cI cJ cZ cN na (nI rn) nd  r5 er5) ⟨callB_of 1 hts (yy_good wq_242) rfl rfl rfl (hw _ wq_36) (hw _ wq_239) (by decide +kernel) ⟨Nat.le_of_ble_eq_true rfl, Nat.le_of_ble_eq_true rfl⟩, hw _ wq_240, hw _ wq_241⟩ hK hN hP hD hS hA [7, 8, 9] rfl (by decide) rfl 10 rfl (w2 := (xcW xa sa ta pa ++ stW cI cJ sa so ++ ndW cI na nd ++ ndW cI nb ne)) rfl 7 rfl rfl rfl hl.1 rfl (Nat.le_of_ble_eq_true rfl) dX4_verdictOn_33 ⟨Nat.zero_le _, Nat.zero_le _⟩ (fun H locs hP hD hS => ?_)
      refine W.eq (g2 := F0 m 36 ls [.int r5, .ref (sa 0)]) rfl ?_
      obtain ⟨r6, er6⟩ : ∃ r, r = st_reachOf r5 so := ⟨_, rfl⟩
      have hf := yb_e er6 hf
      refine yz_callV (As := [.int r5]) (rest := []) ⟨hx, hb, hml, hown, hts⟩ (c_st_reachOf l D cI cJ cZ cN sa r5 so (by (try dsimp only) <;> omega) r6 er6) ⟨callB_of 1 hts (yy_good wq_207) rfl rfl rfl (hw _ wq_35) (hw _ wq_380) (by decide +kernel) ⟨Nat.le_of_ble_eq_true rfl, Nat.le_of_ble_eq_true rfl⟩, hw _ wq_205, hw _ wq_206⟩ hK hN hP hD hS hA [1, 2, 3, 4, 5, 6] rfl (by decide) rfl 7 rfl (w2 := (xcW xa sa ta pa ++ stW cI cJ sa so ++ ndW cI na nd ++ ndW cI nb ne)) rfl 1 rfl rfl rfl hl.1 rfl (Nat.le_of_ble_eq_true rfl) dX4_verdictOn_36 ⟨Nat.zero_le _, Nat.zero_le _⟩ (fun H locs hP hD hS => ?_)
      refine W.eq (g2 := F0 m 39 ls [.long r6]) rfl ?_
      refine lv_iload hx hb dX4_verdictOn_39 (lv_at hl 0 rfl) ?_
      obtain ⟨r7, er7⟩ : ∃ r, r = px_isIn r6 r1 := ⟨_, rfl⟩
      have hf := yb_e er7 hf
      refine yz_callS (As := [.long r6, .int r1]) (rest := []) ⟨hx, hb, hml, hown, hts⟩ (c_px_isIn l D cI cJ cZ cN r6 r1  r7 er7) ⟨callB_of 2 hts (yy_good wq_194) rfl rfl rfl (hw _ wq_34) (hw _ wq_192) (by decide +kernel) ⟨Nat.le_of_ble_eq_true rfl, Nat.le_of_ble_eq_true rfl⟩, hw _ wq_193⟩ hK hN hP hD hS hA [] rfl (by decide) rfl 0 rfl (w2 := (xcW xa sa ta pa ++ stW cI cJ sa so ++ ndW cI na nd ++ ndW cI nb ne)) rfl rfl hl.1 rfl (Nat.le_of_ble_eq_true rfl) dX4_verdictOn_41 ⟨Nat.zero_le _, Nat.zero_le _⟩ (fun H locs hP hD hS => ?_)
      refine W.eq (g2 := F0 m 44 ls [.int (yB r7)]) rfl ?_
      refine lv_if_ne (tgt := 49) hx hb dX4_verdictOn_44 (by decide) (fun h8 => ?_) (fun h8 => ?_)
      · have h8 := yB_1 h8
        have hf := yBt h8 hf
        refine lv_iconst (v := 1) hx hb dX4_verdictOn_49 (by decide) ?_
        subst hf
        exact yy_iret (v := 1) hx hb hr hP hK hS hlocks dX4_verdictOn_50
      · have h8 := yB_0.mp h8
        have hf := yBf h8 hf
        refine lv_iconst (v := 3) hx hb dX4_verdictOn_47 (by decide) ?_
        subst hf
        exact yy_iret (v := 3) hx hb hr hP hK hS hlocks dX4_verdictOn_48
  · have hf := yf h3 hf
    refine lv_iconst (v := 2) hx hb dX4_verdictOn_19 (by decide) ?_
    subst hf
    exact yy_iret (v := 2) hx hb hr hP hK hS hlocks dX4_verdictOn_20

set_option maxHeartbeats 4000000 in
set_option maxRecDepth 100000 in
theorem c_px_judge (l : Launch) (D : va_G) (cI cJ cZ cN : ClassId) (xa : Nat → Nat) (sa : Nat → Nat) (ta : Nat → Nat) (pa : Nat → Nat) (na : Nat → Nat) (nb : Nat → Nat) (set : Int32) (so : SS) (vd : (Nat → Int32)) (nd : NS) (ne : NS) (hs : so.2.2.2.2.2 ≤ 60) (res : Bool × (Nat → Int32)) (hf : res = px_judge set so vd nd ne) : yy_Met l yX4_judge wsX4_judge { frames := 3, cells := 0, slots := 0, locals := 66 } D vwCl (yT cI cJ cZ cN) [.ref (xa 0), .ref (na 0), .ref (nb 0), .int set] (xcW xa sa ta pa ++ stW cI cJ sa so ++ vdW cI xa vd ++ ndW cI na nd ++ ndW cI nb ne) (some (.int (yB res.1))) (xcW xa sa ta pa ++ stW cI cJ sa so ++ vdW cI xa res.2 ++ ndW cI na nd ++ ndW cI nb ne) := by
  intro sz
  refine Met.ofW (cc := cX4_judge) (maxL := 6) (ret := (some .boolean)) (by decide) rfl ?_
  intro p e s m args below meth c s₁ B hml hv
  obtain ⟨rfl, hsz, hP, hK, hD0, hN⟩ := hv
  have hx := B.exec
  have hb := B.bytes
  have hr := B.returns
  have hts := atoms_spec (ws := wsX4_judge) B.pre
  have hw : ∀ w ∈ yW, w.before _ s = true := fun w h => hts w (List.mem_cons_of_mem _ h)
  have hown : s.vm.findClass RX4 = some m.cls := findClass_of_methodNamed B.named
  have hlocks := B.notSynchronized
  subst hsz
  have hD := hD0.self (sz := s.heap.size)
  generalize hAe : va_A (xcW xa sa ta pa ++ stW cI cJ sa so ++ vdW cI xa vd ++ ndW cI na nd ++ ndW cI nb ne) s.heap.size = A at hD ⊢
  have hA : ∀ q : Nat, s.heap.size ≤ q → A q := fun q h => by rw [← hAe]; exact Or.inr h
  have hS : va_S A s.heap s.heap [] := va_S.rf
  have hl := lv_entry ([.ref (xa 0), .ref (na 0), .ref (nb 0), .int set]) (n := 6) (Nat.le_of_ble_eq_true rfl)
  rw [lg_entry_eq]
  generalize (lg_sl ([.ref (xa 0), .ref (na 0), .ref (nb 0), .int set]) ++ List.replicate (6 - (lg_sl ([.ref (xa 0), .ref (na 0), .ref (nb 0), .int set])).length) Slot.unset).toArray = ls at hl ⊢
  have hl : lv_has ls 6 [(0, .ref (xa 0)), (1, .ref (na 0)), (2, .ref (nb 0)), (3, .int set)] := hl
  have hL6 : ∀ (k : Nat) (i : Nat) (good : Bool) (vd : (Nat → Int32)) (ls : Array Slot) (H : Heap) (locs : List Loc), i + k = 4 → res = px_judge_L6 set so nd ne k i good vd → lv_has ls 6 [(0, .ref (xa 0)), (1, .ref (na 0)), (2, .ref (nb 0)), (3, .int set), (4, .int (yB good)), (5, .int (nI i))] → va_P D vwCl (xcW xa sa ta pa ++ stW cI cJ sa so ++ vdW cI xa vd ++ ndW cI na nd ++ ndW cI nb ne) H → va_D A (xcW xa sa ta pa ++ stW cI cJ sa so ++ vdW cI xa vd ++ ndW cI na nd ++ ndW cI nb ne) → va_S A s.heap H locs → W p l e (headSpec wsX4_judge { frames := 3, cells := 0, slots := 0, locals := 66 }).room s m ([.ref (xa 0), .ref (na 0), .ref (nb 0), .int set] : List Value).toArray below meth c H locs 0 0 (MQ below (yy_Q A D vwCl (yT cI cJ cZ cN) (xcW xa sa ta pa ++ stW cI cJ sa so ++ vdW cI xa res.2 ++ ndW cI na nd ++ ndW cI nb ne) (some (.int (yB res.1)))) ([.ref (xa 0), .ref (na 0), .ref (nb 0), .int set] : List Value).toArray s 0 0 A) (F0 m 6 ls []) := by
    intro k
    induction k with
    | zero =>
      intro i good vd ls H locs hi hf hl hP hD hS
      rw [px_judge_L6] at hf
      refine lv_iload hx hb dX4_judge_6 (lv_at hl 5 rfl) ?_
      refine lv_iconst (v := (nI 4)) hx hb dX4_judge_8 (by decide) ?_
      refine lv_icmp_ge (tgt := 79) hx hb dX4_judge_9 (by decide) (fun _ => ?_) (fun h => absurd (nI_le (by omega) (by omega)) h)
      refine lv_iload hx hb dX4_judge_79 (lv_at hl 4 rfl) ?_
      subst hf
      exact yy_zret (v := yB good) hx hb hr (yB_n _) hP hK hS hlocks dX4_judge_81
    | succ k ih =>
      intro i good vd ls H locs hi hf hl hP hD hS
      rw [px_judge_L6] at hf
      refine lv_iload hx hb dX4_judge_6 (lv_at hl 5 rfl) ?_
      refine lv_iconst (v := (nI 4)) hx hb dX4_judge_8 (by decide) ?_
      refine lv_icmp_ge (tgt := 79) hx hb dX4_judge_9 (by decide) (fun h => absurd h (nI_ge (by omega) (by omega))) (fun _ => ?_)
      refine lv_aload_n hx hb dX4_judge_12 rfl (lv_at hl 0 rfl) ?_
      refine va_get (D := D) (ci := 4) (v := .ref (xa 2)) (C := RX4) (T := TX4) (N := 6) hx hb hts (yy_tl inX4) hown hK hP 0 rfl rfl 4 (by decide) (hw _ wq_150) (fun _ h9 => h9) rfl dX4_judge_13 ?_
      refine lv_iload hx hb dX4_judge_16 (lv_at hl 5 rfl) ?_
      refine lv_iload_n hx hb dX4_judge_18 rfl (lv_at hl 3 rfl) ?_
      refine lv_iload hx hb dX4_judge_19 (lv_at hl 5 rfl) ?_
      obtain ⟨r1, er1⟩ : ∃ r, r = px_isChosen set (nI i) := ⟨_, rfl⟩
      have hf := yb_e er1 hf
      refine yz_callS (As := [.int set, .int (nI i)]) (rest := [.int (nI i), .ref (xa 2)]) ⟨hx, hb, hml, hown, hts⟩ (c_px_isChosen l D cI cJ cZ cN set (nI i)  r1 er1) ⟨callB_of 2 hts (yy_good wq_288) rfl rfl rfl (hw _ wq_34) (hw _ wq_359) (by decide +kernel) ⟨Nat.le_of_ble_eq_true rfl, Nat.le_of_ble_eq_true rfl⟩, hw _ wq_287⟩ hK hN hP hD hS hA [] rfl (by decide) rfl 0 rfl (w2 := (xcW xa sa ta pa ++ stW cI cJ sa so ++ vdW cI xa vd ++ ndW cI na nd ++ ndW cI nb ne)) rfl rfl hl.1 rfl (Nat.le_of_ble_eq_true rfl) dX4_judge_21 ⟨Nat.zero_le _, Nat.zero_le _⟩ (fun H locs hP hD hS => ?_)
      refine W.eq (g2 := F0 m 24 ls [.int (yB r1), .int (nI i), .ref (xa 2)]) rfl ?_
      refine lv_if_eq (tgt := 38) hx hb dX4_judge_24 (by decide) (fun h2 => ?_) (fun h2 => ?_)
      · have h2 := yB_0.mp h2
        have hf := yBf h2 hf
        refine lv_iconst (v := 0) hx hb dX4_judge_38 (by decide) ?_
        refine yr_iast hx hb hK hP hD hS 7 0 (f := vd) (j := i) rfl rfl rfl (by omega) (by decide) dX4_judge_39 (fun H locs hP hD hS => ?_)
        have hP : va_P D vwCl (xcW xa sa ta pa ++ stW cI cJ sa so ++ vdW cI xa (upd vd i 0) ++ ndW cI na nd ++ ndW cI nb ne) H := hP
        have hD : va_D A (xcW xa sa ta pa ++ stW cI cJ sa so ++ vdW cI xa (upd vd i 0) ++ ndW cI na nd ++ ndW cI nb ne) := hD
        refine lv_iload hx hb dX4_judge_40 (lv_at hl 4 rfl) ?_
        refine lv_if_eq (tgt := 70) hx hb dX4_judge_42 (by decide) (fun h3 => ?_) (fun h3 => ?_)
        · have h3 := yB_0.mp h3
          have hf := yBf h3 hf
          refine lv_iconst (v := 0) hx hb dX4_judge_70 (by decide) ?_
          refine lv_istore (lv' := [(4, .int 0), (0, .ref (xa 0)), (1, .ref (na 0)), (2, .ref (nb 0)), (3, .int set), (5, .int (nI i))]) hx hb dX4_judge_71 hl (by decide) rfl (fun ls hl => ?_)
          refine lv_iinc (k := 5) (v := (nI (i + 1))) (lv' := [(5, .int (nI (i + 1))), (4, .int 0), (0, .ref (xa 0)), (1, .ref (na 0)), (2, .ref (nb 0)), (3, .int set)]) hx hb dX4_judge_73 hl rfl (yy_inc _) (by decide) rfl (fun ls hl => ?_)
          refine lv_goto (tgt := 6) hx hb dX4_judge_76 (by decide) ?_
          exact ih (i + 1) false (upd vd i 0) _ _ _ (by omega) hf (lv_sub hl [2, 3, 4, 5, 1, 0] rfl) hP hD hS
        · have h3 := yB_1 h3
          have hf := yBt h3 hf
          refine lv_aload_n hx hb dX4_judge_45 rfl (lv_at hl 0 rfl) ?_
          refine va_get (D := D) (ci := 4) (v := .ref (xa 2)) (C := RX4) (T := TX4) (N := 6) hx hb hts (yy_tl inX4) hown hK hP 0 rfl rfl 4 (by decide) (hw _ wq_150) (fun _ h9 => h9) rfl dX4_judge_46 ?_
          refine lv_iload hx hb dX4_judge_49 (lv_at hl 5 rfl) ?_
          refine yr_iald hx hb hK hP 7 0 (f := upd vd i 0) (j := i) rfl rfl rfl (by omega) (by decide) dX4_judge_51 ?_
          refine lv_if_eq (tgt := 66) hx hb dX4_judge_52 (by decide) (fun h4 => ?_) (fun h4 => ?_)
          · have hf := yt h4 hf
            refine lv_iconst (v := 1) hx hb dX4_judge_66 (by decide) ?_
            refine lv_goto (tgt := 71) hx hb dX4_judge_67 (by decide) ?_
            refine lv_istore (lv' := [(4, .int 1), (0, .ref (xa 0)), (1, .ref (na 0)), (2, .ref (nb 0)), (3, .int set), (5, .int (nI i))]) hx hb dX4_judge_71 hl (by decide) rfl (fun ls hl => ?_)
            refine lv_iinc (k := 5) (v := (nI (i + 1))) (lv' := [(5, .int (nI (i + 1))), (4, .int 1), (0, .ref (xa 0)), (1, .ref (na 0)), (2, .ref (nb 0)), (3, .int set)]) hx hb dX4_judge_73 hl rfl (yy_inc _) (by decide) rfl (fun ls hl => ?_)
            refine lv_goto (tgt := 6) hx hb dX4_judge_76 (by decide) ?_
            exact ih (i + 1) true (upd vd i 0) _ _ _ (by omega) hf (lv_sub hl [2, 3, 4, 5, 1, 0] rfl) hP hD hS
          · have hf := yf h4 hf
            refine lv_aload_n hx hb dX4_judge_55 rfl (lv_at hl 0 rfl) ?_
            refine va_get (D := D) (ci := 4) (v := .ref (xa 2)) (C := RX4) (T := TX4) (N := 6) hx hb hts (yy_tl inX4) hown hK hP 0 rfl rfl 4 (by decide) (hw _ wq_150) (fun _ h9 => h9) rfl dX4_judge_56 ?_
            refine lv_iload hx hb dX4_judge_59 (lv_at hl 5 rfl) ?_
            refine yr_iald hx hb hK hP 7 0 (f := upd vd i 0) (j := i) rfl rfl rfl (by omega) (by decide) dX4_judge_61 ?_
            refine lv_iconst (v := 1) hx hb dX4_judge_62 (by decide) ?_
            refine lv_icmp_ne (tgt := 70) hx hb dX4_judge_63 (by decide) (fun h5 => ?_) (fun h5 => ?_)
            · have hf := yf h5 hf
              refine lv_iconst (v := 0) hx hb dX4_judge_70 (by decide) ?_
              refine lv_istore (lv' := [(4, .int 0), (0, .ref (xa 0)), (1, .ref (na 0)), (2, .ref (nb 0)), (3, .int set), (5, .int (nI i))]) hx hb dX4_judge_71 hl (by decide) rfl (fun ls hl => ?_)
              refine lv_iinc (k := 5) (v := (nI (i + 1))) (lv' := [(5, .int (nI (i + 1))), (4, .int 0), (0, .ref (xa 0)), (1, .ref (na 0)), (2, .ref (nb 0)), (3, .int set)]) hx hb dX4_judge_73 hl rfl (yy_inc _) (by decide) rfl (fun ls hl => ?_)
              refine lv_goto (tgt := 6) hx hb dX4_judge_76 (by decide) ?_
              exact ih (i + 1) false (upd vd i 0) _ _ _ (by omega) hf (lv_sub hl [2, 3, 4, 5, 1, 0] rfl) hP hD hS
            · have hf := yt h5 hf
              refine lv_iconst (v := 1) hx hb dX4_judge_66 (by decide) ?_
              refine lv_goto (tgt := 71) hx hb dX4_judge_67 (by decide) ?_
              refine lv_istore (lv' := [(4, .int 1), (0, .ref (xa 0)), (1, .ref (na 0)), (2, .ref (nb 0)), (3, .int set), (5, .int (nI i))]) hx hb dX4_judge_71 hl (by decide) rfl (fun ls hl => ?_)
              refine lv_iinc (k := 5) (v := (nI (i + 1))) (lv' := [(5, .int (nI (i + 1))), (4, .int 1), (0, .ref (xa 0)), (1, .ref (na 0)), (2, .ref (nb 0)), (3, .int set)]) hx hb dX4_judge_73 hl rfl (yy_inc _) (by decide) rfl (fun ls hl => ?_)
              refine lv_goto (tgt := 6) hx hb dX4_judge_76 (by decide) ?_
              exact ih (i + 1) true (upd vd i 0) _ _ _ (by omega) hf (lv_sub hl [2, 3, 4, 5, 1, 0] rfl) hP hD hS
      · have h2 := yB_1 h2
        have hf := yBt h2 hf
        refine lv_aload_n hx hb dX4_judge_27 rfl (lv_at hl 0 rfl) ?_
        refine lv_aload_n hx hb dX4_judge_28 rfl (lv_at hl 1 rfl) ?_
        refine lv_aload_n hx hb dX4_judge_29 rfl (lv_at hl 2 rfl) ?_
        refine lv_iload hx hb dX4_judge_30 (lv_at hl 5 rfl) ?_
        obtain ⟨r6, er6⟩ : ∃ r, r = px_verdictOn i so nd ne := ⟨_, rfl⟩
        have hf := yb_e er6 hf
        refine yz_callV (As := [.ref (na 0), .ref (nb 0), .int (nI i)]) (rest := [.int (nI i), .ref (xa 2)]) ⟨hx, hb, hml, hown, hts⟩ (c_px_verdictOn l D cI cJ cZ cN xa sa ta pa na nb i so nd ne (by (try dsimp only) <;> omega) (by (try dsimp only) <;> omega) r6 er6) ⟨callB_of 3 hts (yy_good wq_379) rfl rfl rfl (hw _ wq_34) (hw _ wq_376) (by decide +kernel) ⟨Nat.le_of_ble_eq_true rfl, Nat.le_of_ble_eq_true rfl⟩, hw _ wq_378, hw _ wq_13⟩ hK hN hP hD hS hA [0, 1, 2, 3, 4, 5, 6, 8, 9, 10, 11, 12, 13] rfl (by decide) rfl 14 rfl (w2 := (xcW xa sa ta pa ++ stW cI cJ sa so ++ vdW cI xa vd ++ ndW cI na nd ++ ndW cI nb ne)) rfl 0 rfl rfl rfl hl.1 rfl (Nat.le_of_ble_eq_true rfl) dX4_judge_32 ⟨Nat.zero_le _, Nat.zero_le _⟩ (fun H locs hP hD hS => ?_)
        refine W.eq (g2 := F0 m 35 ls [.int r6, .int (nI i), .ref (xa 2)]) rfl ?_
        refine lv_goto (tgt := 39) hx hb dX4_judge_35 (by decide) ?_
        refine yr_iast hx hb hK hP hD hS 7 0 (f := vd) (j := i) rfl rfl rfl (by omega) (by decide) dX4_judge_39 (fun H locs hP hD hS => ?_)
        have hP : va_P D vwCl (xcW xa sa ta pa ++ stW cI cJ sa so ++ vdW cI xa (upd vd i r6) ++ ndW cI na nd ++ ndW cI nb ne) H := hP
        have hD : va_D A (xcW xa sa ta pa ++ stW cI cJ sa so ++ vdW cI xa (upd vd i r6) ++ ndW cI na nd ++ ndW cI nb ne) := hD
        refine lv_iload hx hb dX4_judge_40 (lv_at hl 4 rfl) ?_
        refine lv_if_eq (tgt := 70) hx hb dX4_judge_42 (by decide) (fun h7 => ?_) (fun h7 => ?_)
        · have h7 := yB_0.mp h7
          have hf := yBf h7 hf
          refine lv_iconst (v := 0) hx hb dX4_judge_70 (by decide) ?_
          refine lv_istore (lv' := [(4, .int 0), (0, .ref (xa 0)), (1, .ref (na 0)), (2, .ref (nb 0)), (3, .int set), (5, .int (nI i))]) hx hb dX4_judge_71 hl (by decide) rfl (fun ls hl => ?_)
          refine lv_iinc (k := 5) (v := (nI (i + 1))) (lv' := [(5, .int (nI (i + 1))), (4, .int 0), (0, .ref (xa 0)), (1, .ref (na 0)), (2, .ref (nb 0)), (3, .int set)]) hx hb dX4_judge_73 hl rfl (yy_inc _) (by decide) rfl (fun ls hl => ?_)
          refine lv_goto (tgt := 6) hx hb dX4_judge_76 (by decide) ?_
          exact ih (i + 1) false (upd vd i r6) _ _ _ (by omega) hf (lv_sub hl [2, 3, 4, 5, 1, 0] rfl) hP hD hS
        · have h7 := yB_1 h7
          have hf := yBt h7 hf
          refine lv_aload_n hx hb dX4_judge_45 rfl (lv_at hl 0 rfl) ?_
          refine va_get (D := D) (ci := 4) (v := .ref (xa 2)) (C := RX4) (T := TX4) (N := 6) hx hb hts (yy_tl inX4) hown hK hP 0 rfl rfl 4 (by decide) (hw _ wq_150) (fun _ h9 => h9) rfl dX4_judge_46 ?_
          refine lv_iload hx hb dX4_judge_49 (lv_at hl 5 rfl) ?_
          refine yr_iald hx hb hK hP 7 0 (f := upd vd i r6) (j := i) rfl rfl rfl (by omega) (by decide) dX4_judge_51 ?_
          refine lv_if_eq (tgt := 66) hx hb dX4_judge_52 (by decide) (fun h8 => ?_) (fun h8 => ?_)
          · have hf := yt h8 hf
            refine lv_iconst (v := 1) hx hb dX4_judge_66 (by decide) ?_
            refine lv_goto (tgt := 71) hx hb dX4_judge_67 (by decide) ?_
            refine lv_istore (lv' := [(4, .int 1), (0, .ref (xa 0)), (1, .ref (na 0)), (2, .ref (nb 0)), (3, .int set), (5, .int (nI i))]) hx hb dX4_judge_71 hl (by decide) rfl (fun ls hl => ?_)
            refine lv_iinc (k := 5) (v := (nI (i + 1))) (lv' := [(5, .int (nI (i + 1))), (4, .int 1), (0, .ref (xa 0)), (1, .ref (na 0)), (2, .ref (nb 0)), (3, .int set)]) hx hb dX4_judge_73 hl rfl (yy_inc _) (by decide) rfl (fun ls hl => ?_)
            refine lv_goto (tgt := 6) hx hb dX4_judge_76 (by decide) ?_
            exact ih (i + 1) true (upd vd i r6) _ _ _ (by omega) hf (lv_sub hl [2, 3, 4, 5, 1, 0] rfl) hP hD hS
          · have hf := yf h8 hf
            refine lv_aload_n hx hb dX4_judge_55 rfl (lv_at hl 0 rfl) ?_
            refine va_get (D := D) (ci := 4) (v := .ref (xa 2)) (C := RX4) (T := TX4) (N := 6) hx hb hts (yy_tl inX4) hown hK hP 0 rfl rfl 4 (by decide) (hw _ wq_150) (fun _ h9 => h9) rfl dX4_judge_56 ?_
            refine lv_iload hx hb dX4_judge_59 (lv_at hl 5 rfl) ?_
            refine yr_iald hx hb hK hP 7 0 (f := upd vd i r6) (j := i) rfl rfl rfl (by omega) (by decide) dX4_judge_61 ?_
            refine lv_iconst (v := 1) hx hb dX4_judge_62 (by decide) ?_
            refine lv_icmp_ne (tgt := 70) hx hb dX4_judge_63 (by decide) (fun h9 => ?_) (fun h9 => ?_)
            · have hf := yf h9 hf
              refine lv_iconst (v := 0) hx hb dX4_judge_70 (by decide) ?_
              refine lv_istore (lv' := [(4, .int 0), (0, .ref (xa 0)), (1, .ref (na 0)), (2, .ref (nb 0)), (3, .int set), (5, .int (nI i))]) hx hb dX4_judge_71 hl (by decide) rfl (fun ls hl => ?_)
              refine lv_iinc (k := 5) (v := (nI (i + 1))) (lv' := [(5, .int (nI (i + 1))), (4, .int 0), (0, .ref (xa 0)), (1, .ref (na 0)), (2, .ref (nb 0)), (3, .int set)]) hx hb dX4_judge_73 hl rfl (yy_inc _) (by decide) rfl (fun ls hl => ?_)
              refine lv_goto (tgt := 6) hx hb dX4_judge_76 (by decide) ?_
              exact ih (i + 1) false (upd vd i r6) _ _ _ (by omega) hf (lv_sub hl [2, 3, 4, 5, 1, 0] rfl) hP hD hS
            · have hf := yt h9 hf
              refine lv_iconst (v := 1) hx hb dX4_judge_66 (by decide) ?_
              refine lv_goto (tgt := 71) hx hb dX4_judge_67 (by decide) ?_
              refine lv_istore (lv' := [(4, .int 1), (0, .ref (xa 0)), (1, .ref (na 0)), (2, .ref (nb 0)), (3, .int set), (5, .int (nI i))]) hx hb dX4_judge_71 hl (by decide) rfl (fun ls hl => ?_)
              refine lv_iinc (k := 5) (v := (nI (i + 1))) (lv' := [(5, .int (nI (i + 1))), (4, .int 1), (0, .ref (xa 0)), (1, .ref (na 0)), (2, .ref (nb 0)), (3, .int set)]) hx hb dX4_judge_73 hl rfl (yy_inc _) (by decide) rfl (fun ls hl => ?_)
              refine lv_goto (tgt := 6) hx hb dX4_judge_76 (by decide) ?_
              exact ih (i + 1) true (upd vd i r6) _ _ _ (by omega) hf (lv_sub hl [2, 3, 4, 5, 1, 0] rfl) hP hD hS
  rw [px_judge] at hf
  refine lv_iconst (v := 1) hx hb dX4_judge_0 (by decide) ?_
  refine lv_istore (lv' := [(4, .int 1), (0, .ref (xa 0)), (1, .ref (na 0)), (2, .ref (nb 0)), (3, .int set)]) hx hb dX4_judge_1 hl (by decide) rfl (fun ls hl => ?_)
  refine lv_iconst (v := (nI 0)) hx hb dX4_judge_3 (by decide) ?_
  refine lv_istore (lv' := [(5, .int (nI 0)), (4, .int 1), (0, .ref (xa 0)), (1, .ref (na 0)), (2, .ref (nb 0)), (3, .int set)]) hx hb dX4_judge_4 hl (by decide) rfl (fun ls hl => ?_)
  exact hL6 4 0 true vd _ _ _ (by omega) hf (lv_sub hl [2, 3, 4, 5, 1, 0] rfl) hP hD hS

set_option maxHeartbeats 4000000 in
set_option maxRecDepth 100000 in
theorem c_px_carryOutPush (l : Launch) (D : va_G) (cI cJ cZ cN : ClassId) (xa : Nat → Nat) (sa : Nat → Nat) (ta : Nat → Nat) (pa : Nat → Nat) (na : Nat → Nat) (nb : Nat → Nat) (set : Int32) (pk : PS) (tg : (Nat → Int32)) (nd : NS) (ne : NS)  (res : Bool × (Nat → Int32) × NS × NS) (hf : res = px_carryOutPush set pk tg nd ne) : yy_Met l yX4_carryOutPush wsX4_carryOutPush { frames := 4, cells := 0, slots := 0, locals := 84 } D vwCl (yT cI cJ cZ cN) [.ref (xa 0), .ref (na 0), .ref (nb 0), .int set] (xcW xa sa ta pa ++ pkW cI pa pk ++ tgW cI xa tg ++ ndW cI na nd ++ ndW cI nb ne) (some (.int (yB res.1))) (xcW xa sa ta pa ++ pkW cI pa pk ++ tgW cI xa res.2.1 ++ ndW cI na res.2.2.1 ++ ndW cI nb res.2.2.2) := by
  intro sz
  refine Met.ofW (cc := cX4_carryOutPush) (maxL := 4) (ret := (some .boolean)) (by decide) rfl ?_
  intro p e s m args below meth c s₁ B hml hv
  obtain ⟨rfl, hsz, hP, hK, hD0, hN⟩ := hv
  have hx := B.exec
  have hb := B.bytes
  have hr := B.returns
  have hts := atoms_spec (ws := wsX4_carryOutPush) B.pre
  have hw : ∀ w ∈ yW, w.before _ s = true := fun w h => hts w (List.mem_cons_of_mem _ h)
  have hown : s.vm.findClass RX4 = some m.cls := findClass_of_methodNamed B.named
  have hlocks := B.notSynchronized
  subst hsz
  have hD := hD0.self (sz := s.heap.size)
  generalize hAe : va_A (xcW xa sa ta pa ++ pkW cI pa pk ++ tgW cI xa tg ++ ndW cI na nd ++ ndW cI nb ne) s.heap.size = A at hD ⊢
  have hA : ∀ q : Nat, s.heap.size ≤ q → A q := fun q h => by rw [← hAe]; exact Or.inr h
  have hS : va_S A s.heap s.heap [] := va_S.rf
  have hl := lv_entry ([.ref (xa 0), .ref (na 0), .ref (nb 0), .int set]) (n := 4) (Nat.le_of_ble_eq_true rfl)
  rw [lg_entry_eq]
  generalize (lg_sl ([.ref (xa 0), .ref (na 0), .ref (nb 0), .int set]) ++ List.replicate (4 - (lg_sl ([.ref (xa 0), .ref (na 0), .ref (nb 0), .int set])).length) Slot.unset).toArray = ls at hl ⊢
  have hl : lv_has ls 4 [(0, .ref (xa 0)), (1, .ref (na 0)), (2, .ref (nb 0)), (3, .int set)] := hl
  rw [px_carryOutPush] at hf
  refine lv_aload_n hx hb dX4_carryOutPush_0 rfl (lv_at hl 2 rfl) ?_
  refine lv_aload_n hx hb dX4_carryOutPush_1 rfl (lv_at hl 0 rfl) ?_
  refine va_get (D := D) (ci := 4) (v := .ref (pa 0)) (C := RX4) (T := TX4) (N := 6) hx hb hts (yy_tl inX4) hown hK hP 0 rfl rfl 3 (by decide) (hw _ wq_149) (fun _ h9 => h9) rfl dX4_carryOutPush_2 ?_
  obtain ⟨r1, er1⟩ : ∃ r, r = pk_memberSet pk := ⟨_, rfl⟩
  have hf := yb_e er1 hf
  refine yz_callV (As := []) (rest := [.ref (nb 0)]) ⟨hx, hb, hml, hown, hts⟩ (c_pk_memberSet l D cI cJ cZ cN pa pk  r1 er1) ⟨callB_of 0 hts (yy_good wq_347) rfl rfl rfl (hw _ wq_38) (hw _ wq_344) (by decide +kernel) ⟨Nat.le_of_ble_eq_true rfl, Nat.le_of_ble_eq_true rfl⟩, hw _ wq_345, hw _ wq_346⟩ hK hN hP hD hS hA [1, 2, 3, 4] rfl (by decide) rfl 5 rfl (w2 := (xcW xa sa ta pa ++ pkW cI pa pk ++ tgW cI xa tg ++ ndW cI na nd ++ ndW cI nb ne)) rfl 1 rfl rfl rfl hl.1 rfl (Nat.le_of_ble_eq_true rfl) dX4_carryOutPush_5 ⟨Nat.zero_le _, Nat.zero_le _⟩ (fun H locs hP hD hS => ?_)
  refine W.eq (g2 := F0 m 8 ls [.long r1, .ref (nb 0)]) rfl ?_
  obtain ⟨r2, er2⟩ : ∃ r, r = nd_writeMissing r1 ne := ⟨_, rfl⟩
  have hf := yb_e er2 hf
  refine yz_callV (As := [.long r1]) (rest := []) ⟨hx, hb, hml, hown, hts⟩ (c_nd_writeMissing l D cI cJ cZ cN nb r1 ne  r2 er2) ⟨callB_of 1 hts (yy_good wq_351) rfl rfl rfl (hw _ wq_36) (hw _ wq_348) (by decide +kernel) ⟨Nat.le_of_ble_eq_true rfl, Nat.le_of_ble_eq_true rfl⟩, hw _ wq_349, hw _ wq_350⟩ hK hN hP hD hS hA [9, 10, 11] rfl (by decide) rfl 12 rfl (w2 := (xcW xa sa ta pa ++ pkW cI pa pk ++ tgW cI xa tg ++ ndW cI na nd ++ ndW cI nb r2.2)) rfl 9 rfl rfl rfl hl.1 rfl (Nat.le_of_ble_eq_true rfl) dX4_carryOutPush_8 ⟨Nat.zero_le _, Nat.zero_le _⟩ (fun H locs hP hD hS => ?_)
  refine W.eq (g2 := F0 m 11 ls [.int (yB r2.1)]) rfl ?_
  refine lv_if_ne (tgt := 16) hx hb dX4_carryOutPush_11 (by decide) (fun h3 => ?_) (fun h3 => ?_)
  · have h3 := yB_1 h3
    have hf := yBt h3 hf
    refine lv_aload_n hx hb dX4_carryOutPush_16 rfl (lv_at hl 0 rfl) ?_
    refine lv_aload_n hx hb dX4_carryOutPush_17 rfl (lv_at hl 1 rfl) ?_
    refine lv_iload_n hx hb dX4_carryOutPush_18 rfl (lv_at hl 3 rfl) ?_
    refine lv_iconst (v := (nI 0)) hx hb dX4_carryOutPush_19 (by decide) ?_
    obtain ⟨r4, er4⟩ : ∃ r, r = px_aimAtValues set 0 tg nd := ⟨_, rfl⟩
    have hf := yb_e er4 hf
    refine yz_callV (As := [.ref (na 0), .int set, .int (nI 0)]) (rest := []) ⟨hx, hb, hml, hown, hts⟩ (c_px_aimAtValues l D cI cJ cZ cN xa sa ta pa na set 0 tg nd (by (try dsimp only) <;> omega) r4 er4) ⟨callB_of 3 hts (yy_good wq_358) rfl rfl rfl (hw _ wq_34) (hw _ wq_355) (by decide +kernel) ⟨Nat.le_of_ble_eq_true rfl, Nat.le_of_ble_eq_true rfl⟩, hw _ wq_357, hw _ wq_11⟩ hK hN hP hD hS hA [0, 5, 6, 7, 8] rfl (by decide) rfl 9 rfl (w2 := (xcW xa sa ta pa ++ pkW cI pa pk ++ tgW cI xa r4 ++ ndW cI na nd ++ ndW cI nb r2.2)) rfl 0 rfl rfl rfl hl.1 rfl (Nat.le_of_ble_eq_true rfl) dX4_carryOutPush_20 ⟨Nat.zero_le _, Nat.zero_le _⟩ (fun H locs hP hD hS => ?_)
    refine W.eq (g2 := F0 m 23 ls []) rfl ?_
    refine lv_aload_n hx hb dX4_carryOutPush_23 rfl (lv_at hl 2 rfl) ?_
    refine lv_aload_n hx hb dX4_carryOutPush_24 rfl (lv_at hl 0 rfl) ?_
    refine va_get (D := D) (ci := 4) (v := .ref (xa 3)) (C := RX4) (T := TX4) (N := 6) hx hb hts (yy_tl inX4) hown hK hP 0 rfl rfl 5 (by decide) (hw _ wq_151) (fun _ h9 => h9) rfl dX4_carryOutPush_25 ?_
    obtain ⟨r5, er5⟩ : ∃ r, r = nd_transact r2.2 r4 := ⟨_, rfl⟩
    have hf := yb_e er5 hf
    refine yz_callV (As := [.ref (xa 3)]) (rest := []) ⟨hx, hb, hml, hown, hts⟩ (c_nd_transact l D cI cJ cZ cN nb xa r2.2 r4  r5 er5) ⟨callB_of 1 hts (yy_good wq_258) rfl rfl rfl (hw _ wq_36) (hw _ wq_255) (by decide +kernel) ⟨Nat.le_of_ble_eq_true rfl, Nat.le_of_ble_eq_true rfl⟩, hw _ wq_256, hw _ wq_257⟩ hK hN hP hD hS hA [9, 10, 11, 5] rfl (by decide) rfl 12 rfl (w2 := (xcW xa sa ta pa ++ pkW cI pa pk ++ tgW cI xa r4 ++ ndW cI na nd ++ ndW cI nb r5.2)) rfl 9 rfl rfl rfl hl.1 rfl (Nat.le_of_ble_eq_true rfl) dX4_carryOutPush_28 ⟨Nat.zero_le _, Nat.zero_le _⟩ (fun H locs hP hD hS => ?_)
    refine W.eq (g2 := F0 m 31 ls [.int (yB r5.1)]) rfl ?_
    refine lv_if_ne (tgt := 36) hx hb dX4_carryOutPush_31 (by decide) (fun h6 => ?_) (fun h6 => ?_)
    · have h6 := yB_1 h6
      have hf := yBt h6 hf
      refine lv_aload_n hx hb dX4_carryOutPush_36 rfl (lv_at hl 0 rfl) ?_
      refine lv_aload_n hx hb dX4_carryOutPush_37 rfl (lv_at hl 1 rfl) ?_
      refine lv_iload_n hx hb dX4_carryOutPush_38 rfl (lv_at hl 3 rfl) ?_
      refine lv_iconst (v := (nI 4)) hx hb dX4_carryOutPush_39 (by decide) ?_
      obtain ⟨r7, er7⟩ : ∃ r, r = px_aimAtValues set 4 r4 nd := ⟨_, rfl⟩
      have hf := yb_e er7 hf
      refine yz_callV (As := [.ref (na 0), .int set, .int (nI 4)]) (rest := []) ⟨hx, hb, hml, hown, hts⟩ (c_px_aimAtValues l D cI cJ cZ cN xa sa ta pa na set 4 r4 nd (by (try dsimp only) <;> omega) r7 er7) ⟨callB_of 3 hts (yy_good wq_358) rfl rfl rfl (hw _ wq_34) (hw _ wq_355) (by decide +kernel) ⟨Nat.le_of_ble_eq_true rfl, Nat.le_of_ble_eq_true rfl⟩, hw _ wq_357, hw _ wq_11⟩ hK hN hP hD hS hA [0, 5, 6, 7, 8] rfl (by decide) rfl 9 rfl (w2 := (xcW xa sa ta pa ++ pkW cI pa pk ++ tgW cI xa r7 ++ ndW cI na nd ++ ndW cI nb r5.2)) rfl 0 rfl rfl rfl hl.1 rfl (Nat.le_of_ble_eq_true rfl) dX4_carryOutPush_40 ⟨Nat.zero_le _, Nat.zero_le _⟩ (fun H locs hP hD hS => ?_)
      refine W.eq (g2 := F0 m 43 ls []) rfl ?_
      refine lv_aload_n hx hb dX4_carryOutPush_43 rfl (lv_at hl 1 rfl) ?_
      refine lv_aload_n hx hb dX4_carryOutPush_44 rfl (lv_at hl 0 rfl) ?_
      refine va_get (D := D) (ci := 4) (v := .ref (xa 3)) (C := RX4) (T := TX4) (N := 6) hx hb hts (yy_tl inX4) hown hK hP 0 rfl rfl 5 (by decide) (hw _ wq_151) (fun _ h9 => h9) rfl dX4_carryOutPush_45 ?_
      obtain ⟨r8, er8⟩ : ∃ r, r = nd_transact nd r7 := ⟨_, rfl⟩
      have hf := yb_e er8 hf
      refine yz_callV (As := [.ref (xa 3)]) (rest := []) ⟨hx, hb, hml, hown, hts⟩ (c_nd_transact l D cI cJ cZ cN na xa nd r7  r8 er8) ⟨callB_of 1 hts (yy_good wq_258) rfl rfl rfl (hw _ wq_36) (hw _ wq_255) (by decide +kernel) ⟨Nat.le_of_ble_eq_true rfl, Nat.le_of_ble_eq_true rfl⟩, hw _ wq_256, hw _ wq_257⟩ hK hN hP hD hS hA [6, 7, 8, 5] rfl (by decide) rfl 9 rfl (w2 := (xcW xa sa ta pa ++ pkW cI pa pk ++ tgW cI xa r7 ++ ndW cI na r8.2 ++ ndW cI nb r5.2)) rfl 6 rfl rfl rfl hl.1 rfl (Nat.le_of_ble_eq_true rfl) dX4_carryOutPush_48 ⟨Nat.zero_le _, Nat.zero_le _⟩ (fun H locs hP hD hS => ?_)
      refine W.eq (g2 := F0 m 51 ls [.int (yB r8.1)]) rfl ?_
      subst hf
      exact yy_zret (v := yB r8.1) hx hb hr (yB_n _) hP hK hS hlocks dX4_carryOutPush_51
    · have h6 := yB_0.mp h6
      have hf := yBf h6 hf
      refine lv_iconst (v := 0) hx hb dX4_carryOutPush_34 (by decide) ?_
      subst hf
      exact yy_zret (v := yB false) hx hb hr (yB_n _) hP hK hS hlocks dX4_carryOutPush_35
  · have h3 := yB_0.mp h3
    have hf := yBf h3 hf
    refine lv_iconst (v := 0) hx hb dX4_carryOutPush_14 (by decide) ?_
    subst hf
    exact yy_zret (v := yB false) hx hb hr (yB_n _) hP hK hS hlocks dX4_carryOutPush_15
