set_option maxHeartbeats 4000000 in
set_option maxRecDepth 100000 in
theorem c_nd_isUp (l : Launch) (D : va_G) (cI cJ cZ cN : ClassId) (na : Nat → Nat) (nd : NS)  (res : Bool) (hf : res = nd_isUp nd) : yy_Met l yX0_isUp wsX0_isUp { frames := 0, cells := 0, slots := 0, locals := 0 } D vwCl (yT cI cJ cZ cN) [.ref (na 0)] (ndW cI na nd) (some (.int (yB res))) (ndW cI na nd) := by
  intro sz
  refine Met.ofW (cc := cX0_isUp) (maxL := 1) (ret := (some .boolean)) (by decide) rfl ?_
  intro p e s m args below meth c s₁ B hml hv
  obtain ⟨rfl, hsz, hP, hK, hD0, hN⟩ := hv
  have hx := B.exec
  have hb := B.bytes
  have hr := B.returns
  have hts := atoms_spec (ws := wsX0_isUp) B.pre
  have hw : ∀ w ∈ yW, w.before _ s = true := fun w h => hts w (List.mem_cons_of_mem _ h)
  have hown : s.vm.findClass RX0 = some m.cls := findClass_of_methodNamed B.named
  have hlocks := B.notSynchronized
  subst hsz
  have hD := hD0.self (sz := s.heap.size)
  generalize hAe : va_A (ndW cI na nd) s.heap.size = A at hD ⊢
  have hA : ∀ q : Nat, s.heap.size ≤ q → A q := fun q h => by rw [← hAe]; exact Or.inr h
  have hS : va_S A s.heap s.heap [] := va_S.rf
  have hl := lv_entry ([.ref (na 0)]) (n := 1) (Nat.le_of_ble_eq_true rfl)
  rw [lg_entry_eq]
  generalize (lg_sl ([.ref (na 0)]) ++ List.replicate (1 - (lg_sl ([.ref (na 0)])).length) Slot.unset).toArray = ls at hl ⊢
  have hl : lv_has ls 1 [(0, .ref (na 0))] := hl
  rw [nd_isUp] at hf
  refine lv_aload_n hx hb dX0_isUp_0 rfl (lv_at hl 0 rfl) ?_
  refine va_get (D := D) (ci := 0) (v := .int (yB nd.2.2.2.2.2.1)) (C := RX0) (T := TX0) (N := 7) hx hb hts (yy_tl inX0) hown hK hP 0 rfl rfl 5 (by decide) (hw _ wq_88) (fun _ h9 => h9) rfl dX0_isUp_1 ?_
  subst hf
  exact yy_zret (v := yB nd.2.2.2.2.2.1) hx hb hr (yB_n _) hP hK hS hlocks dX0_isUp_4

set_option maxHeartbeats 4000000 in
set_option maxRecDepth 100000 in
theorem c_nd_armWith (l : Launch) (D : va_G) (cI cJ cZ cN : ClassId) (na : Nat → Nat) (n : Int32) (nd : NS)  (res : NS) (hf : res = nd_armWith n nd) : yy_Met l yX0_armWith wsX0_armWith { frames := 0, cells := 0, slots := 0, locals := 0 } D vwCl (yT cI cJ cZ cN) [.ref (na 0), .int n] (ndW cI na nd) none (ndW cI na res) := by
  intro sz
  refine Met.ofW (cc := cX0_armWith) (maxL := 2) (ret := none) (by decide) rfl ?_
  intro p e s m args below meth c s₁ B hml hv
  obtain ⟨rfl, hsz, hP, hK, hD0, hN⟩ := hv
  have hx := B.exec
  have hb := B.bytes
  have hr := B.returns
  have hts := atoms_spec (ws := wsX0_armWith) B.pre
  have hw : ∀ w ∈ yW, w.before _ s = true := fun w h => hts w (List.mem_cons_of_mem _ h)
  have hown : s.vm.findClass RX0 = some m.cls := findClass_of_methodNamed B.named
  have hlocks := B.notSynchronized
  subst hsz
  have hD := hD0.self (sz := s.heap.size)
  generalize hAe : va_A (ndW cI na nd) s.heap.size = A at hD ⊢
  have hA : ∀ q : Nat, s.heap.size ≤ q → A q := fun q h => by rw [← hAe]; exact Or.inr h
  have hS : va_S A s.heap s.heap [] := va_S.rf
  have hl := lv_entry ([.ref (na 0), .int n]) (n := 2) (Nat.le_of_ble_eq_true rfl)
  rw [lg_entry_eq]
  generalize (lg_sl ([.ref (na 0), .int n]) ++ List.replicate (2 - (lg_sl ([.ref (na 0), .int n])).length) Slot.unset).toArray = ls at hl ⊢
  have hl : lv_has ls 2 [(0, .ref (na 0)), (1, .int n)] := hl
  rw [nd_armWith] at hf
  refine lv_aload_n hx hb dX0_armWith_0 rfl (lv_at hl 0 rfl) ?_
  refine lv_iload_n hx hb dX0_armWith_1 rfl (lv_at hl 1 rfl) ?_
  refine va_put (D := D) (ci := 0) (v := .int n) (ty := .int) (C := RX0) (T := TX0) (N := 7) hx hb hts (yy_tl inX0) tyX0 tyX0_ok nX0 hown hK hP hD hS 0 rfl rfl 6 (by decide) (hw _ wq_89) (fun _ h9 => h9) rfl (by decide +kernel) rfl rfl (Nat.le_of_ble_eq_true rfl) dX0_armWith_2 (fun H locs hP hD hS => ?_)
  have hP : va_P D vwCl (ndW cI na (nd.1, nd.2.1, nd.2.2.1, nd.2.2.2.1, nd.2.2.2.2.1, nd.2.2.2.2.2.1, n)) H := hP
  have hD : va_D A (ndW cI na (nd.1, nd.2.1, nd.2.2.1, nd.2.2.2.1, nd.2.2.2.2.1, nd.2.2.2.2.2.1, n)) := hD
  subst hf
  exact yy_vret hx hb hr hP hK hS hlocks dX0_armWith_5

set_option maxHeartbeats 4000000 in
set_option maxRecDepth 100000 in
theorem c_nd_write (l : Launch) (D : va_G) (cI cJ cZ cN : ClassId) (na : Nat → Nat) (nd : NS)  (res : Bool × NS) (hf : res = nd_write nd) : yy_Met l yX0_write wsX0_write { frames := 0, cells := 0, slots := 0, locals := 0 } D vwCl (yT cI cJ cZ cN) [.ref (na 0)] (ndW cI na nd) (some (.int (yB res.1))) (ndW cI na res.2) := by
  intro sz
  refine Met.ofW (cc := cX0_write) (maxL := 1) (ret := (some .boolean)) (by decide) rfl ?_
  intro p e s m args below meth c s₁ B hml hv
  obtain ⟨rfl, hsz, hP, hK, hD0, hN⟩ := hv
  have hx := B.exec
  have hb := B.bytes
  have hr := B.returns
  have hts := atoms_spec (ws := wsX0_write) B.pre
  have hw : ∀ w ∈ yW, w.before _ s = true := fun w h => hts w (List.mem_cons_of_mem _ h)
  have hown : s.vm.findClass RX0 = some m.cls := findClass_of_methodNamed B.named
  have hlocks := B.notSynchronized
  subst hsz
  have hD := hD0.self (sz := s.heap.size)
  generalize hAe : va_A (ndW cI na nd) s.heap.size = A at hD ⊢
  have hA : ∀ q : Nat, s.heap.size ≤ q → A q := fun q h => by rw [← hAe]; exact Or.inr h
  have hS : va_S A s.heap s.heap [] := va_S.rf
  have hl := lv_entry ([.ref (na 0)]) (n := 1) (Nat.le_of_ble_eq_true rfl)
  rw [lg_entry_eq]
  generalize (lg_sl ([.ref (na 0)]) ++ List.replicate (1 - (lg_sl ([.ref (na 0)])).length) Slot.unset).toArray = ls at hl ⊢
  have hl : lv_has ls 1 [(0, .ref (na 0))] := hl
  rw [nd_write] at hf
  refine lv_aload_n hx hb dX0_write_0 rfl (lv_at hl 0 rfl) ?_
  refine va_get (D := D) (ci := 0) (v := .int nd.2.2.2.2.2.2) (C := RX0) (T := TX0) (N := 7) hx hb hts (yy_tl inX0) hown hK hP 0 rfl rfl 6 (by decide) (hw _ wq_89) (fun _ h9 => h9) rfl dX0_write_1 ?_
  refine lv_if_ne (tgt := 19) hx hb dX0_write_4 (by decide) (fun h1 => ?_) (fun h1 => ?_)
  · have hf := yf h1 hf
    refine lv_aload_n hx hb dX0_write_19 rfl (lv_at hl 0 rfl) ?_
    refine va_get (D := D) (ci := 0) (v := .int nd.2.2.2.2.2.2) (C := RX0) (T := TX0) (N := 7) hx hb hts (yy_tl inX0) hown hK hP 0 rfl rfl 6 (by decide) (hw _ wq_89) (fun _ h9 => h9) rfl dX0_write_20 ?_
    refine lv_if_le (tgt := 36) hx hb dX0_write_23 (by decide) (fun h2 => ?_) (fun h2 => ?_)
    · have hf := yt h2 hf
      refine lv_iconst (v := 1) hx hb dX0_write_36 (by decide) ?_
      subst hf
      exact yy_zret (v := yB true) hx hb hr (yB_n _) hP hK hS hlocks dX0_write_37
    · have hf := yf h2 hf
      refine lv_aload_n hx hb dX0_write_26 rfl (lv_at hl 0 rfl) ?_
      refine lv_dup hx hb dX0_write_27 rfl ?_
      refine va_get (D := D) (ci := 0) (v := .int nd.2.2.2.2.2.2) (C := RX0) (T := TX0) (N := 7) hx hb hts (yy_tl inX0) hown hK hP 0 rfl rfl 6 (by decide) (hw _ wq_89) (fun _ h9 => h9) rfl dX0_write_28 ?_
      refine lv_iconst (v := 1) hx hb dX0_write_31 (by decide) ?_
      refine lv_isub hx hb dX0_write_32 ?_
      refine va_put (D := D) (ci := 0) (v := .int (nd.2.2.2.2.2.2 - 1)) (ty := .int) (C := RX0) (T := TX0) (N := 7) hx hb hts (yy_tl inX0) tyX0 tyX0_ok nX0 hown hK hP hD hS 0 rfl rfl 6 (by decide) (hw _ wq_89) (fun _ h9 => h9) rfl (by decide +kernel) rfl rfl (Nat.le_of_ble_eq_true rfl) dX0_write_33 (fun H locs hP hD hS => ?_)
      have hP : va_P D vwCl (ndW cI na (nd.1, nd.2.1, nd.2.2.1, nd.2.2.2.1, nd.2.2.2.2.1, nd.2.2.2.2.2.1, (nd.2.2.2.2.2.2 - 1))) H := hP
      have hD : va_D A (ndW cI na (nd.1, nd.2.1, nd.2.2.1, nd.2.2.2.1, nd.2.2.2.2.1, nd.2.2.2.2.2.1, (nd.2.2.2.2.2.2 - 1))) := hD
      refine lv_iconst (v := 1) hx hb dX0_write_36 (by decide) ?_
      subst hf
      exact yy_zret (v := yB true) hx hb hr (yB_n _) hP hK hS hlocks dX0_write_37
  · have hf := yt h1 hf
    refine lv_aload_n hx hb dX0_write_7 rfl (lv_at hl 0 rfl) ?_
    refine lv_iconst (v := 0) hx hb dX0_write_8 (by decide) ?_
    refine va_put (D := D) (ci := 0) (v := .int (yB false)) (ty := .boolean) (C := RX0) (T := TX0) (N := 7) hx hb hts (yy_tl inX0) tyX0 tyX0_ok nX0 hown hK hP hD hS 0 rfl rfl 5 (by decide) (hw _ wq_88) (fun _ h9 => h9) rfl (by decide +kernel) (yB_n _) (yB_fit _) (Nat.le_of_ble_eq_true rfl) dX0_write_9 (fun H locs hP hD hS => ?_)
    have hP : va_P D vwCl (ndW cI na (nd.1, nd.2.1, nd.2.2.1, nd.2.2.2.1, nd.2.2.2.2.1, false, nd.2.2.2.2.2.2)) H := hP
    have hD : va_D A (ndW cI na (nd.1, nd.2.1, nd.2.2.1, nd.2.2.2.1, nd.2.2.2.2.1, false, nd.2.2.2.2.2.2)) := hD
    refine lv_aload_n hx hb dX0_write_12 rfl (lv_at hl 0 rfl) ?_
    refine lv_iconst (v := (-1)) hx hb dX0_write_13 (by decide) ?_
    refine va_put (D := D) (ci := 0) (v := .int (-1)) (ty := .int) (C := RX0) (T := TX0) (N := 7) hx hb hts (yy_tl inX0) tyX0 tyX0_ok nX0 hown hK hP hD hS 0 rfl rfl 6 (by decide) (hw _ wq_89) (fun _ h9 => h9) rfl (by decide +kernel) rfl rfl (Nat.le_of_ble_eq_true rfl) dX0_write_14 (fun H locs hP hD hS => ?_)
    have hP : va_P D vwCl (ndW cI na (nd.1, nd.2.1, nd.2.2.1, nd.2.2.2.1, nd.2.2.2.2.1, false, (-1))) H := hP
    have hD : va_D A (ndW cI na (nd.1, nd.2.1, nd.2.2.1, nd.2.2.2.1, nd.2.2.2.2.1, false, (-1))) := hD
    refine lv_iconst (v := 0) hx hb dX0_write_17 (by decide) ?_
    subst hf
    exact yy_zret (v := yB false) hx hb hr (yB_n _) hP hK hS hlocks dX0_write_18

set_option maxHeartbeats 4000000 in
set_option maxRecDepth 100000 in
theorem c_nd_heldSet (l : Launch) (D : va_G) (cI cJ cZ cN : ClassId) (na : Nat → Nat) (nd : NS)  (res : Int64) (hf : res = nd_heldSet nd) : yy_Met l yX0_heldSet wsX0_heldSet { frames := 0, cells := 0, slots := 0, locals := 0 } D vwCl (yT cI cJ cZ cN) [.ref (na 0)] (ndW cI na nd) (some (.long res)) (ndW cI na nd) := by
  intro sz
  refine Met.ofW (cc := cX0_heldSet) (maxL := 1) (ret := (some .long)) (by decide) rfl ?_
  intro p e s m args below meth c s₁ B hml hv
  obtain ⟨rfl, hsz, hP, hK, hD0, hN⟩ := hv
  have hx := B.exec
  have hb := B.bytes
  have hr := B.returns
  have hts := atoms_spec (ws := wsX0_heldSet) B.pre
  have hw : ∀ w ∈ yW, w.before _ s = true := fun w h => hts w (List.mem_cons_of_mem _ h)
  have hown : s.vm.findClass RX0 = some m.cls := findClass_of_methodNamed B.named
  have hlocks := B.notSynchronized
  subst hsz
  have hD := hD0.self (sz := s.heap.size)
  generalize hAe : va_A (ndW cI na nd) s.heap.size = A at hD ⊢
  have hA : ∀ q : Nat, s.heap.size ≤ q → A q := fun q h => by rw [← hAe]; exact Or.inr h
  have hS : va_S A s.heap s.heap [] := va_S.rf
  have hl := lv_entry ([.ref (na 0)]) (n := 1) (Nat.le_of_ble_eq_true rfl)
  rw [lg_entry_eq]
  generalize (lg_sl ([.ref (na 0)]) ++ List.replicate (1 - (lg_sl ([.ref (na 0)])).length) Slot.unset).toArray = ls at hl ⊢
  have hl : lv_has ls 1 [(0, .ref (na 0))] := hl
  rw [nd_heldSet] at hf
  refine lv_aload_n hx hb dX0_heldSet_0 rfl (lv_at hl 0 rfl) ?_
  refine va_get (D := D) (ci := 0) (v := .long nd.2.2.2.2.1) (C := RX0) (T := TX0) (N := 7) hx hb hts (yy_tl inX0) hown hK hP 0 rfl rfl 4 (by decide) (hw _ wq_87) (fun _ h9 => h9) rfl dX0_heldSet_1 ?_
  subst hf
  exact yy_lret (v := nd.2.2.2.2.1) hx hb hr hP hK hS hlocks dX0_heldSet_4

set_option maxHeartbeats 4000000 in
set_option maxRecDepth 100000 in
theorem c_nd_keep (l : Launch) (D : va_G) (cI cJ cZ cN : ClassId) (na : Nat → Nat) (num : Int32) (nd : NS)  (res : NS) (hf : res = nd_keep num nd) : yy_Met l yX0_keep wsX0_keep { frames := 0, cells := 0, slots := 0, locals := 0 } D vwCl (yT cI cJ cZ cN) [.ref (na 0), .int num] (ndW cI na nd) none (ndW cI na res) := by
  intro sz
  refine Met.ofW (cc := cX0_keep) (maxL := 2) (ret := none) (by decide) rfl ?_
  intro p e s m args below meth c s₁ B hml hv
  obtain ⟨rfl, hsz, hP, hK, hD0, hN⟩ := hv
  have hx := B.exec
  have hb := B.bytes
  have hr := B.returns
  have hts := atoms_spec (ws := wsX0_keep) B.pre
  have hw : ∀ w ∈ yW, w.before _ s = true := fun w h => hts w (List.mem_cons_of_mem _ h)
  have hown : s.vm.findClass RX0 = some m.cls := findClass_of_methodNamed B.named
  have hlocks := B.notSynchronized
  subst hsz
  have hD := hD0.self (sz := s.heap.size)
  generalize hAe : va_A (ndW cI na nd) s.heap.size = A at hD ⊢
  have hA : ∀ q : Nat, s.heap.size ≤ q → A q := fun q h => by rw [← hAe]; exact Or.inr h
  have hS : va_S A s.heap s.heap [] := va_S.rf
  have hl := lv_entry ([.ref (na 0), .int num]) (n := 2) (Nat.le_of_ble_eq_true rfl)
  rw [lg_entry_eq]
  generalize (lg_sl ([.ref (na 0), .int num]) ++ List.replicate (2 - (lg_sl ([.ref (na 0), .int num])).length) Slot.unset).toArray = ls at hl ⊢
  have hl : lv_has ls 2 [(0, .ref (na 0)), (1, .int num)] := hl
  rw [nd_keep] at hf
  refine lv_iload_n hx hb dX0_keep_0 rfl (lv_at hl 1 rfl) ?_
  refine lv_if_lt (tgt := 22) hx hb dX0_keep_1 (by decide) (fun h1 => ?_) (fun h1 => ?_)
  · have hf := yt h1 hf
    subst hf
    exact yy_vret hx hb hr hP hK hS hlocks dX0_keep_22
  · have hf := yf h1 hf
    refine lv_iload_n hx hb dX0_keep_4 rfl (lv_at hl 1 rfl) ?_
    refine lv_bipush (v := 60) hx hb dX0_keep_5 (by decide) ?_
    refine lv_icmp_ge (tgt := 22) hx hb dX0_keep_7 (by decide) (fun h2 => ?_) (fun h2 => ?_)
    · have hf := yt h2 hf
      subst hf
      exact yy_vret hx hb hr hP hK hS hlocks dX0_keep_22
    · have hf := yf h2 hf
      refine lv_aload_n hx hb dX0_keep_10 rfl (lv_at hl 0 rfl) ?_
      refine lv_dup hx hb dX0_keep_11 rfl ?_
      refine va_get (D := D) (ci := 0) (v := .long nd.2.2.2.2.1) (C := RX0) (T := TX0) (N := 7) hx hb hts (yy_tl inX0) hown hK hP 0 rfl rfl 4 (by decide) (hw _ wq_87) (fun _ h9 => h9) rfl dX0_keep_12 ?_
      refine lv_lconst (v := 1) hx hb dX0_keep_15 (by decide) ?_
      refine lv_iload_n hx hb dX0_keep_16 rfl (lv_at hl 1 rfl) ?_
      refine lv_lshl (v := ylshl 1 num) hx hb dX0_keep_17 rfl ?_
      refine lv_lor hx hb dX0_keep_18 ?_
      refine va_put (D := D) (ci := 0) (v := .long (nd.2.2.2.2.1 ||| (ylshl 1 num))) (ty := .long) (C := RX0) (T := TX0) (N := 7) hx hb hts (yy_tl inX0) tyX0 tyX0_ok nX0 hown hK hP hD hS 0 rfl rfl 4 (by decide) (hw _ wq_87) (fun _ h9 => h9) rfl (by decide +kernel) rfl rfl (Nat.le_of_ble_eq_true rfl) dX0_keep_19 (fun H locs hP hD hS => ?_)
      have hP : va_P D vwCl (ndW cI na (nd.1, nd.2.1, nd.2.2.1, nd.2.2.2.1, nd.2.2.2.2.1 ||| (ylshl 1 num), nd.2.2.2.2.2.1, nd.2.2.2.2.2.2)) H := hP
      have hD : va_D A (ndW cI na (nd.1, nd.2.1, nd.2.2.1, nd.2.2.2.1, nd.2.2.2.2.1 ||| (ylshl 1 num), nd.2.2.2.2.2.1, nd.2.2.2.2.2.2)) := hD
      subst hf
      exact yy_vret hx hb hr hP hK hS hlocks dX0_keep_22

set_option maxHeartbeats 4000000 in
set_option maxRecDepth 100000 in
theorem c_nd_keepOnly (l : Launch) (D : va_G) (cI cJ cZ cN : ClassId) (na : Nat → Nat) (objs : Int64) (nd : NS)  (res : Int32 × NS) (hf : res = nd_keepOnly objs nd) : yy_Met l yX0_keepOnly wsX0_keepOnly { frames := 1, cells := 0, slots := 0, locals := 21 } D vwCl (yT cI cJ cZ cN) [.ref (na 0), .long objs] (ndW cI na nd) (some (.int res.1)) (ndW cI na res.2) := by
  intro sz
  refine Met.ofW (cc := cX0_keepOnly) (maxL := 4) (ret := (some .int)) (by decide) rfl ?_
  intro p e s m args below meth c s₁ B hml hv
  obtain ⟨rfl, hsz, hP, hK, hD0, hN⟩ := hv
  have hx := B.exec
  have hb := B.bytes
  have hr := B.returns
  have hts := atoms_spec (ws := wsX0_keepOnly) B.pre
  have hw : ∀ w ∈ yW, w.before _ s = true := fun w h => hts w (List.mem_cons_of_mem _ h)
  have hown : s.vm.findClass RX0 = some m.cls := findClass_of_methodNamed B.named
  have hlocks := B.notSynchronized
  subst hsz
  have hD := hD0.self (sz := s.heap.size)
  generalize hAe : va_A (ndW cI na nd) s.heap.size = A at hD ⊢
  have hA : ∀ q : Nat, s.heap.size ≤ q → A q := fun q h => by rw [← hAe]; exact Or.inr h
  have hS : va_S A s.heap s.heap [] := va_S.rf
  have hl := lv_entry ([.ref (na 0), .long objs]) (n := 4) (Nat.le_of_ble_eq_true rfl)
  rw [lg_entry_eq]
  generalize (lg_sl ([.ref (na 0), .long objs]) ++ List.replicate (4 - (lg_sl ([.ref (na 0), .long objs])).length) Slot.unset).toArray = ls at hl ⊢
  have hl : lv_has ls 4 [(0, .ref (na 0)), (1, .long objs)] := hl
  rw [nd_keepOnly] at hf
  refine lv_aload_n hx hb dX0_keepOnly_0 rfl (lv_at hl 0 rfl) ?_
  refine va_get (D := D) (ci := 0) (v := .long nd.2.2.2.2.1) (C := RX0) (T := TX0) (N := 7) hx hb hts (yy_tl inX0) hown hK hP 0 rfl rfl 4 (by decide) (hw _ wq_87) (fun _ h9 => h9) rfl dX0_keepOnly_1 ?_
  obtain ⟨r1, er1⟩ : ∃ r, r = jl_bitCount nd.2.2.2.2.1 := ⟨_, rfl⟩
  have hf := yb_e er1 hf
  refine yz_callS (As := [.long nd.2.2.2.2.1]) (rest := []) ⟨hx, hb, hml, hown, hts⟩ (c_jl_bitCount l D cI cJ cZ cN nd.2.2.2.2.1  r1 er1) ⟨callB_of 1 hts (yy_good wq_313) rfl rfl rfl (hw _ wq_40) (hw _ wq_409) (by decide +kernel) ⟨Nat.le_of_ble_eq_true rfl, Nat.le_of_ble_eq_true rfl⟩, hw _ wq_312⟩ hK hN hP hD hS hA [] rfl (by decide) rfl 0 rfl (w2 := (ndW cI na nd)) rfl rfl hl.1 rfl (Nat.le_of_ble_eq_true rfl) dX0_keepOnly_4 ⟨Nat.zero_le _, Nat.zero_le _⟩ (fun H locs hP hD hS => ?_)
  refine W.eq (g2 := F0 m 7 ls [.int r1]) rfl ?_
  refine lv_istore_n (lv' := [(3, .int r1), (0, .ref (na 0)), (1, .long objs)]) hx hb dX0_keepOnly_7 rfl hl (by decide) rfl (fun ls hl => ?_)
  refine lv_aload_n hx hb dX0_keepOnly_8 rfl (lv_at hl 1 rfl) ?_
  refine lv_dup hx hb dX0_keepOnly_9 rfl ?_
  refine va_get (D := D) (ci := 0) (v := .long nd.2.2.2.2.1) (C := RX0) (T := TX0) (N := 7) hx hb hts (yy_tl inX0) hown hK hP 0 rfl rfl 4 (by decide) (hw _ wq_87) (fun _ h9 => h9) rfl dX0_keepOnly_10 ?_
  refine lv_lload_n hx hb dX0_keepOnly_13 rfl (lv_at hl 2 rfl) ?_
  refine lv_land hx hb dX0_keepOnly_14 ?_
  refine va_put (D := D) (ci := 0) (v := .long (nd.2.2.2.2.1 &&& objs)) (ty := .long) (C := RX0) (T := TX0) (N := 7) hx hb hts (yy_tl inX0) tyX0 tyX0_ok nX0 hown hK hP hD hS 0 rfl rfl 4 (by decide) (hw _ wq_87) (fun _ h9 => h9) rfl (by decide +kernel) rfl rfl (Nat.le_of_ble_eq_true rfl) dX0_keepOnly_15 (fun H locs hP hD hS => ?_)
  have hP : va_P D vwCl (ndW cI na (nd.1, nd.2.1, nd.2.2.1, nd.2.2.2.1, nd.2.2.2.2.1 &&& objs, nd.2.2.2.2.2.1, nd.2.2.2.2.2.2)) H := hP
  have hD : va_D A (ndW cI na (nd.1, nd.2.1, nd.2.2.1, nd.2.2.2.1, nd.2.2.2.2.1 &&& objs, nd.2.2.2.2.2.1, nd.2.2.2.2.2.2)) := hD
  refine lv_iload_n hx hb dX0_keepOnly_18 rfl (lv_at hl 0 rfl) ?_
  refine lv_aload_n hx hb dX0_keepOnly_19 rfl (lv_at hl 1 rfl) ?_
  refine va_get (D := D) (ci := 0) (v := .long (nd.2.2.2.2.1 &&& objs)) (C := RX0) (T := TX0) (N := 7) hx hb hts (yy_tl inX0) hown hK hP 0 rfl rfl 4 (by decide) (hw _ wq_87) (fun _ h9 => h9) rfl dX0_keepOnly_20 ?_
  obtain ⟨r2, er2⟩ : ∃ r, r = jl_bitCount (nd.2.2.2.2.1 &&& objs) := ⟨_, rfl⟩
  have hf := yb_e er2 hf
  refine yz_callS (As := [.long (nd.2.2.2.2.1 &&& objs)]) (rest := [.int r1]) ⟨hx, hb, hml, hown, hts⟩ (c_jl_bitCount l D cI cJ cZ cN (nd.2.2.2.2.1 &&& objs)  r2 er2) ⟨callB_of 1 hts (yy_good wq_313) rfl rfl rfl (hw _ wq_40) (hw _ wq_409) (by decide +kernel) ⟨Nat.le_of_ble_eq_true rfl, Nat.le_of_ble_eq_true rfl⟩, hw _ wq_312⟩ hK hN hP hD hS hA [] rfl (by decide) rfl 0 rfl (w2 := (ndW cI na (nd.1, nd.2.1, nd.2.2.1, nd.2.2.2.1, nd.2.2.2.2.1 &&& objs, nd.2.2.2.2.2.1, nd.2.2.2.2.2.2))) rfl rfl hl.1 rfl (Nat.le_of_ble_eq_true rfl) dX0_keepOnly_23 ⟨Nat.zero_le _, Nat.zero_le _⟩ (fun H locs hP hD hS => ?_)
  refine W.eq (g2 := F0 m 26 ls [.int r2, .int r1]) rfl ?_
  refine lv_isub hx hb dX0_keepOnly_26 ?_
  subst hf
  exact yy_iret (v := (r1 - r2)) hx hb hr hP hK hS hlocks dX0_keepOnly_27

set_option maxHeartbeats 4000000 in
set_option maxRecDepth 100000 in
theorem c_nd_valueOf (l : Launch) (D : va_G) (cI cJ cZ cN : ClassId) (na : Nat → Nat) (rf : Int32) (nd : NS)  (res : Int32) (hf : res = nd_valueOf rf nd) : yy_Met l yX0_valueOf wsX0_valueOf { frames := 0, cells := 0, slots := 0, locals := 0 } D vwCl (yT cI cJ cZ cN) [.ref (na 0), .int rf] (ndW cI na nd) (some (.int res)) (ndW cI na nd) := by
  intro sz
  refine Met.ofW (cc := cX0_valueOf) (maxL := 2) (ret := (some .int)) (by decide) rfl ?_
  intro p e s m args below meth c s₁ B hml hv
  obtain ⟨rfl, hsz, hP, hK, hD0, hN⟩ := hv
  have hx := B.exec
  have hb := B.bytes
  have hr := B.returns
  have hts := atoms_spec (ws := wsX0_valueOf) B.pre
  have hw : ∀ w ∈ yW, w.before _ s = true := fun w h => hts w (List.mem_cons_of_mem _ h)
  have hown : s.vm.findClass RX0 = some m.cls := findClass_of_methodNamed B.named
  have hlocks := B.notSynchronized
  subst hsz
  have hD := hD0.self (sz := s.heap.size)
  generalize hAe : va_A (ndW cI na nd) s.heap.size = A at hD ⊢
  have hA : ∀ q : Nat, s.heap.size ≤ q → A q := fun q h => by rw [← hAe]; exact Or.inr h
  have hS : va_S A s.heap s.heap [] := va_S.rf
  have hl := lv_entry ([.ref (na 0), .int rf]) (n := 2) (Nat.le_of_ble_eq_true rfl)
  rw [lg_entry_eq]
  generalize (lg_sl ([.ref (na 0), .int rf]) ++ List.replicate (2 - (lg_sl ([.ref (na 0), .int rf])).length) Slot.unset).toArray = ls at hl ⊢
  have hl : lv_has ls 2 [(0, .ref (na 0)), (1, .int rf)] := hl
  rw [nd_valueOf] at hf
  refine lv_iload_n hx hb dX0_valueOf_0 rfl (lv_at hl 1 rfl) ?_
  refine lv_if_lt (tgt := 19) hx hb dX0_valueOf_1 (by decide) (fun h1 => ?_) (fun h1 => ?_)
  · have hf := yt h1 hf
    refine lv_iconst (v := (-1)) hx hb dX0_valueOf_19 (by decide) ?_
    subst hf
    exact yy_iret (v := (-1)) hx hb hr hP hK hS hlocks dX0_valueOf_20
  · have hf := yf h1 hf
    refine lv_iload_n hx hb dX0_valueOf_4 rfl (lv_at hl 1 rfl) ?_
    refine lv_bipush (v := 8) hx hb dX0_valueOf_5 (by decide) ?_
    refine lv_icmp_ge (tgt := 19) hx hb dX0_valueOf_7 (by decide) (fun h2 => ?_) (fun h2 => ?_)
    · have hf := yt h2 hf
      refine lv_iconst (v := (-1)) hx hb dX0_valueOf_19 (by decide) ?_
      subst hf
      exact yy_iret (v := (-1)) hx hb hr hP hK hS hlocks dX0_valueOf_20
    · have hf := yf h2 hf
      refine lv_aload_n hx hb dX0_valueOf_10 rfl (lv_at hl 0 rfl) ?_
      refine va_get (D := D) (ci := 0) (v := .ref (na 1)) (C := RX0) (T := TX0) (N := 7) hx hb hts (yy_tl inX0) hown hK hP 0 rfl rfl 0 (by decide) (hw _ wq_83) (fun _ h9 => h9) rfl dX0_valueOf_11 ?_
      refine lv_iload_n hx hb dX0_valueOf_14 rfl (lv_at hl 1 rfl) ?_
      refine va_iald hx hb hK hP 1 0 (f := nd.1) rfl rfl (yy_in ‹¬ rf < 0› ‹¬ (8 : Int32) ≤ rf› (by decide)) dX0_valueOf_15 ?_
      refine lv_goto (tgt := 20) hx hb dX0_valueOf_16 (by decide) ?_
      subst hf
      exact yy_iret (v := (nd.1 rf.toNatClampNeg)) hx hb hr hP hK hS hlocks dX0_valueOf_20

set_option maxHeartbeats 4000000 in
set_option maxRecDepth 100000 in
theorem c_nd_writeMissing (l : Launch) (D : va_G) (cI cJ cZ cN : ClassId) (na : Nat → Nat) (objs : Int64) (nd : NS)  (res : Bool × NS) (hf : res = nd_writeMissing objs nd) : yy_Met l yX0_writeMissing wsX0_writeMissing { frames := 1, cells := 0, slots := 0, locals := 22 } D vwCl (yT cI cJ cZ cN) [.ref (na 0), .long objs] (ndW cI na nd) (some (.int (yB res.1))) (ndW cI na res.2) := by
  intro sz
  refine Met.ofW (cc := cX0_writeMissing) (maxL := 6) (ret := (some .boolean)) (by decide) rfl ?_
  intro p e s m args below meth c s₁ B hml hv
  obtain ⟨rfl, hsz, hP, hK, hD0, hN⟩ := hv
  have hx := B.exec
  have hb := B.bytes
  have hr := B.returns
  have hts := atoms_spec (ws := wsX0_writeMissing) B.pre
  have hw : ∀ w ∈ yW, w.before _ s = true := fun w h => hts w (List.mem_cons_of_mem _ h)
  have hown : s.vm.findClass RX0 = some m.cls := findClass_of_methodNamed B.named
  have hlocks := B.notSynchronized
  subst hsz
  have hD := hD0.self (sz := s.heap.size)
  generalize hAe : va_A (ndW cI na nd) s.heap.size = A at hD ⊢
  have hA : ∀ q : Nat, s.heap.size ≤ q → A q := fun q h => by rw [← hAe]; exact Or.inr h
  have hS : va_S A s.heap s.heap [] := va_S.rf
  have hl := lv_entry ([.ref (na 0), .long objs]) (n := 6) (Nat.le_of_ble_eq_true rfl)
  rw [lg_entry_eq]
  generalize (lg_sl ([.ref (na 0), .long objs]) ++ List.replicate (6 - (lg_sl ([.ref (na 0), .long objs])).length) Slot.unset).toArray = ls at hl ⊢
  have hl : lv_has ls 6 [(0, .ref (na 0)), (1, .long objs)] := hl
  have hL14 : ∀ (k : Nat) (i : Nat) (mis : Int64) (nd : NS) (ls : Array Slot) (H : Heap) (locs : List Loc), i + k = 60 → res = nd_writeMissing_L14  k i mis nd → lv_has ls 6 [(0, .ref (na 0)), (1, .long objs), (3, .long mis), (5, .int (nI i))] → va_P D vwCl (ndW cI na nd) H → va_D A (ndW cI na nd) → va_S A s.heap H locs → W p l e (headSpec wsX0_writeMissing { frames := 1, cells := 0, slots := 0, locals := 22 }).room s m ([.ref (na 0), .long objs] : List Value).toArray below meth c H locs 0 0 (MQ below (yy_Q A D vwCl (yT cI cJ cZ cN) (ndW cI na res.2) (some (.int (yB res.1)))) ([.ref (na 0), .long objs] : List Value).toArray s 0 0 A) (F0 m 14 ls []) := by
    intro k
    induction k with
    | zero =>
      intro i mis nd ls H locs hi hf hl hP hD hS
      rw [nd_writeMissing_L14] at hf
      refine lv_iload hx hb dX0_writeMissing_14 (lv_at hl 3 rfl) ?_
      refine lv_bipush (v := (nI 60)) hx hb dX0_writeMissing_16 (by decide) ?_
      refine lv_icmp_ge (tgt := 51) hx hb dX0_writeMissing_18 (by decide) (fun _ => ?_) (fun h => absurd (nI_le (by omega) (by omega)) h)
      refine lv_iconst (v := 1) hx hb dX0_writeMissing_51 (by decide) ?_
      subst hf
      exact yy_zret (v := yB true) hx hb hr (yB_n _) hP hK hS hlocks dX0_writeMissing_52
    | succ k ih =>
      intro i mis nd ls H locs hi hf hl hP hD hS
      rw [nd_writeMissing_L14] at hf
      refine lv_iload hx hb dX0_writeMissing_14 (lv_at hl 3 rfl) ?_
      refine lv_bipush (v := (nI 60)) hx hb dX0_writeMissing_16 (by decide) ?_
      refine lv_icmp_ge (tgt := 51) hx hb dX0_writeMissing_18 (by decide) (fun h => absurd h (nI_ge (by omega) (by omega))) (fun _ => ?_)
      refine lv_lload_n hx hb dX0_writeMissing_21 rfl (lv_at hl 2 rfl) ?_
      refine lv_iload hx hb dX0_writeMissing_22 (lv_at hl 3 rfl) ?_
      obtain ⟨r1, er1⟩ : ∃ r, r = px_isIn mis (nI i) := ⟨_, rfl⟩
      have hf := yb_e er1 hf
      refine yz_callSN (As := [.long mis, .int (nI i)]) (rest := []) ⟨hx, hb, hml, hown, hts⟩ (c_px_isIn l D cI cJ cZ cN mis (nI i)  r1 er1) ⟨va_cnB 2 hts (yy_good wq_194) rfl rfl rfl hN.1 (hw _ wq_34) (by decide +kernel) ⟨Nat.le_of_ble_eq_true rfl, Nat.le_of_ble_eq_true rfl⟩, hw _ wq_193, trivial⟩ hK hN hP hD hS hA [] rfl (by decide) rfl 0 rfl (w2 := (ndW cI na nd)) rfl rfl hl.1 rfl (Nat.le_of_ble_eq_true rfl) dX0_writeMissing_24 ⟨Nat.zero_le _, Nat.zero_le _⟩ (fun H locs hP hD hS => ?_)
      refine W.eq (g2 := F0 m 27 ls [.int (yB r1)]) rfl ?_
      refine lv_if_eq (tgt := 45) hx hb dX0_writeMissing_27 (by decide) (fun h2 => ?_) (fun h2 => ?_)
      · have h2 := yB_0.mp h2
        have hf := yBf h2 hf
        refine lv_iinc (k := 3) (v := (nI (i + 1))) (lv' := [(5, .int (nI (i + 1))), (0, .ref (na 0)), (1, .long objs), (3, .long mis)]) hx hb dX0_writeMissing_45 hl rfl (yy_inc _) (by decide) rfl (fun ls hl => ?_)
        refine lv_goto (tgt := 14) hx hb dX0_writeMissing_48 (by decide) ?_
        exact ih (i + 1) mis nd _ _ _ (by omega) hf (lv_sub hl [1, 2, 3, 0] rfl) hP hD hS
      · have h2 := yB_1 h2
        have hf := yBt h2 hf
        refine lv_aload_n hx hb dX0_writeMissing_30 rfl (lv_at hl 0 rfl) ?_
        obtain ⟨r3, er3⟩ : ∃ r, r = nd_write nd := ⟨_, rfl⟩
        have hf := yb_e er3 hf
        refine yz_callV (As := []) (rest := []) ⟨hx, hb, hml, hown, hts⟩ (c_nd_write l D cI cJ cZ cN na nd  r3 er3) ⟨callB_of 0 hts (yy_good wq_198) rfl rfl rfl (hw _ wq_36) (hw _ wq_259) (by decide +kernel) ⟨Nat.le_of_ble_eq_true rfl, Nat.le_of_ble_eq_true rfl⟩, hw _ wq_196, hw _ wq_197⟩ hK hN hP hD hS hA [0, 1, 2] rfl (by decide) rfl 3 rfl (w2 := (ndW cI na r3.2)) rfl 0 rfl rfl rfl hl.1 rfl (Nat.le_of_ble_eq_true rfl) dX0_writeMissing_31 ⟨Nat.zero_le _, Nat.zero_le _⟩ (fun H locs hP hD hS => ?_)
        refine W.eq (g2 := F0 m 34 ls [.int (yB r3.1)]) rfl ?_
        refine lv_if_ne (tgt := 39) hx hb dX0_writeMissing_34 (by decide) (fun h4 => ?_) (fun h4 => ?_)
        · have h4 := yB_1 h4
          have hf := yBt h4 hf
          refine lv_aload_n hx hb dX0_writeMissing_39 rfl (lv_at hl 0 rfl) ?_
          refine lv_iload hx hb dX0_writeMissing_40 (lv_at hl 3 rfl) ?_
          obtain ⟨r5, er5⟩ : ∃ r, r = nd_keep (nI i) r3.2 := ⟨_, rfl⟩
          have hf := yb_e er5 hf
          refine yz_callV (As := [.int (nI i)]) (rest := []) ⟨hx, hb, hml, hown, hts⟩ (c_nd_keep l D cI cJ cZ cN na (nI i) r3.2  r5 er5) ⟨callB_of 1 hts (yy_good wq_215) rfl rfl rfl (hw _ wq_36) (hw _ wq_354) (by decide +kernel) ⟨Nat.le_of_ble_eq_true rfl, Nat.le_of_ble_eq_true rfl⟩, hw _ wq_213, hw _ wq_214⟩ hK hN hP hD hS hA [0, 1, 2] rfl (by decide) rfl 3 rfl (w2 := (ndW cI na r5)) rfl 0 rfl rfl rfl hl.1 rfl (Nat.le_of_ble_eq_true rfl) dX0_writeMissing_42 ⟨Nat.zero_le _, Nat.zero_le _⟩ (fun H locs hP hD hS => ?_)
          refine W.eq (g2 := F0 m 45 ls []) rfl ?_
          refine lv_iinc (k := 3) (v := (nI (i + 1))) (lv' := [(5, .int (nI (i + 1))), (0, .ref (na 0)), (1, .long objs), (3, .long mis)]) hx hb dX0_writeMissing_45 hl rfl (yy_inc _) (by decide) rfl (fun ls hl => ?_)
          refine lv_goto (tgt := 14) hx hb dX0_writeMissing_48 (by decide) ?_
          exact ih (i + 1) mis r5 _ _ _ (by omega) hf (lv_sub hl [1, 2, 3, 0] rfl) hP hD hS
        · have h4 := yB_0.mp h4
          have hf := yBf h4 hf
          refine lv_iconst (v := 0) hx hb dX0_writeMissing_37 (by decide) ?_
          subst hf
          exact yy_zret (v := yB false) hx hb hr (yB_n _) hP hK hS hlocks dX0_writeMissing_38
  rw [nd_writeMissing] at hf
  refine lv_lload_n hx hb dX0_writeMissing_0 rfl (lv_at hl 1 rfl) ?_
  refine lv_aload_n hx hb dX0_writeMissing_1 rfl (lv_at hl 0 rfl) ?_
  refine va_get (D := D) (ci := 0) (v := .long nd.2.2.2.2.1) (C := RX0) (T := TX0) (N := 7) hx hb hts (yy_tl inX0) hown hK hP 0 rfl rfl 4 (by decide) (hw _ wq_87) (fun _ h9 => h9) rfl dX0_writeMissing_2 ?_
  refine lv_ldc2 (v := (-1)) hx hb hown (hw _ wq_352) dX0_writeMissing_5 ?_
  refine lv_lxor hx hb dX0_writeMissing_8 ?_
  refine lv_land hx hb dX0_writeMissing_9 ?_
  refine lv_lstore_n (lv' := [(3, .long (objs &&& (nd.2.2.2.2.1 ^^^ (-1)))), (0, .ref (na 0)), (1, .long objs)]) hx hb dX0_writeMissing_10 rfl hl (by decide) rfl (fun ls hl => ?_)
  refine lv_iconst (v := (nI 0)) hx hb dX0_writeMissing_11 (by decide) ?_
  refine lv_istore (lv' := [(5, .int (nI 0)), (3, .long (objs &&& (nd.2.2.2.2.1 ^^^ (-1)))), (0, .ref (na 0)), (1, .long objs)]) hx hb dX0_writeMissing_12 hl (by decide) rfl (fun ls hl => ?_)
  exact hL14 60 0 (objs &&& (nd.2.2.2.2.1 ^^^ (-1))) nd _ _ _ (by omega) hf (lv_sub hl [2, 3, 1, 0] rfl) hP hD hS

set_option maxHeartbeats 4000000 in
set_option maxRecDepth 100000 in
theorem c_nd_hasValues (l : Launch) (D : va_G) (cI cJ cZ cN : ClassId) (na : Nat → Nat) (set : Int32) (nd : NS)  (res : Bool) (hf : res = nd_hasValues set nd) : yy_Met l yX0_hasValues wsX0_hasValues { frames := 1, cells := 0, slots := 0, locals := 21 } D vwCl (yT cI cJ cZ cN) [.ref (na 0), .int set] (ndW cI na nd) (some (.int (yB res))) (ndW cI na nd) := by
  intro sz
  refine Met.ofW (cc := cX0_hasValues) (maxL := 3) (ret := (some .boolean)) (by decide) rfl ?_
  intro p e s m args below meth c s₁ B hml hv
  obtain ⟨rfl, hsz, hP, hK, hD0, hN⟩ := hv
  have hx := B.exec
  have hb := B.bytes
  have hr := B.returns
  have hts := atoms_spec (ws := wsX0_hasValues) B.pre
  have hw : ∀ w ∈ yW, w.before _ s = true := fun w h => hts w (List.mem_cons_of_mem _ h)
  have hown : s.vm.findClass RX0 = some m.cls := findClass_of_methodNamed B.named
  have hlocks := B.notSynchronized
  subst hsz
  have hD := hD0.self (sz := s.heap.size)
  generalize hAe : va_A (ndW cI na nd) s.heap.size = A at hD ⊢
  have hA : ∀ q : Nat, s.heap.size ≤ q → A q := fun q h => by rw [← hAe]; exact Or.inr h
  have hS : va_S A s.heap s.heap [] := va_S.rf
  have hl := lv_entry ([.ref (na 0), .int set]) (n := 3) (Nat.le_of_ble_eq_true rfl)
  rw [lg_entry_eq]
  generalize (lg_sl ([.ref (na 0), .int set]) ++ List.replicate (3 - (lg_sl ([.ref (na 0), .int set])).length) Slot.unset).toArray = ls at hl ⊢
  have hl : lv_has ls 3 [(0, .ref (na 0)), (1, .int set)] := hl
  have hL2 : ∀ (k : Nat) (i : Nat) (ls : Array Slot) (H : Heap) (locs : List Loc), i + k = 8 → res = nd_hasValues_L2 set nd k i → lv_has ls 3 [(0, .ref (na 0)), (1, .int set), (2, .int (nI i))] → va_P D vwCl (ndW cI na nd) H → va_D A (ndW cI na nd) → va_S A s.heap H locs → W p l e (headSpec wsX0_hasValues { frames := 1, cells := 0, slots := 0, locals := 21 }).room s m ([.ref (na 0), .int set] : List Value).toArray below meth c H locs 0 0 (MQ below (yy_Q A D vwCl (yT cI cJ cZ cN) (ndW cI na nd) (some (.int (yB res)))) ([.ref (na 0), .int set] : List Value).toArray s 0 0 A) (F0 m 2 ls []) := by
    intro k
    induction k with
    | zero =>
      intro i ls H locs hi hf hl hP hD hS
      rw [nd_hasValues_L2] at hf
      refine lv_iload_n hx hb dX0_hasValues_2 rfl (lv_at hl 2 rfl) ?_
      refine lv_bipush (v := (nI 8)) hx hb dX0_hasValues_3 (by decide) ?_
      refine lv_icmp_ge (tgt := 34) hx hb dX0_hasValues_5 (by decide) (fun _ => ?_) (fun h => absurd (nI_le (by omega) (by omega)) h)
      refine lv_iconst (v := 1) hx hb dX0_hasValues_34 (by decide) ?_
      subst hf
      exact yy_zret (v := yB true) hx hb hr (yB_n _) hP hK hS hlocks dX0_hasValues_35
    | succ k ih =>
      intro i ls H locs hi hf hl hP hD hS
      rw [nd_hasValues_L2] at hf
      refine lv_iload_n hx hb dX0_hasValues_2 rfl (lv_at hl 2 rfl) ?_
      refine lv_bipush (v := (nI 8)) hx hb dX0_hasValues_3 (by decide) ?_
      refine lv_icmp_ge (tgt := 34) hx hb dX0_hasValues_5 (by decide) (fun h => absurd h (nI_ge (by omega) (by omega))) (fun _ => ?_)
      refine lv_iload_n hx hb dX0_hasValues_8 rfl (lv_at hl 1 rfl) ?_
      refine lv_iload_n hx hb dX0_hasValues_9 rfl (lv_at hl 2 rfl) ?_
      obtain ⟨r1, er1⟩ : ∃ r, r = px_isChosen set (nI i) := ⟨_, rfl⟩
      have hf := yb_e er1 hf
      refine yz_callSN (As := [.int set, .int (nI i)]) (rest := []) ⟨hx, hb, hml, hown, hts⟩ (c_px_isChosen l D cI cJ cZ cN set (nI i)  r1 er1) ⟨va_cnB 2 hts (yy_good wq_288) rfl rfl rfl hN.2.1 (hw _ wq_34) (by decide +kernel) ⟨Nat.le_of_ble_eq_true rfl, Nat.le_of_ble_eq_true rfl⟩, hw _ wq_287, trivial⟩ hK hN hP hD hS hA [] rfl (by decide) rfl 0 rfl (w2 := (ndW cI na nd)) rfl rfl hl.1 rfl (Nat.le_of_ble_eq_true rfl) dX0_hasValues_10 ⟨Nat.zero_le _, Nat.zero_le _⟩ (fun H locs hP hD hS => ?_)
      refine W.eq (g2 := F0 m 13 ls [.int (yB r1)]) rfl ?_
      refine lv_if_eq (tgt := 28) hx hb dX0_hasValues_13 (by decide) (fun h2 => ?_) (fun h2 => ?_)
      · have h2 := yB_0.mp h2
        have hf := yBf h2 hf
        refine lv_iinc (k := 2) (v := (nI (i + 1))) (lv' := [(2, .int (nI (i + 1))), (0, .ref (na 0)), (1, .int set)]) hx hb dX0_hasValues_28 hl rfl (yy_inc _) (by decide) rfl (fun ls hl => ?_)
        refine lv_goto (tgt := 2) hx hb dX0_hasValues_31 (by decide) ?_
        exact ih (i + 1) _ _ _ (by omega) hf (lv_sub hl [1, 2, 0] rfl) hP hD hS
      · have h2 := yB_1 h2
        have hf := yBt h2 hf
        refine lv_aload_n hx hb dX0_hasValues_16 rfl (lv_at hl 0 rfl) ?_
        refine va_get (D := D) (ci := 0) (v := .ref (na 1)) (C := RX0) (T := TX0) (N := 7) hx hb hts (yy_tl inX0) hown hK hP 0 rfl rfl 0 (by decide) (hw _ wq_83) (fun _ h9 => h9) rfl dX0_hasValues_17 ?_
        refine lv_iload_n hx hb dX0_hasValues_20 rfl (lv_at hl 2 rfl) ?_
        refine yr_iald hx hb hK hP 1 0 (f := nd.1) (j := i) rfl rfl rfl (by omega) (by decide) dX0_hasValues_21 ?_
        refine lv_iconst (v := (-1)) hx hb dX0_hasValues_22 (by decide) ?_
        refine lv_icmp_ne (tgt := 28) hx hb dX0_hasValues_23 (by decide) (fun h3 => ?_) (fun h3 => ?_)
        · have hf := yf h3 hf
          refine lv_iinc (k := 2) (v := (nI (i + 1))) (lv' := [(2, .int (nI (i + 1))), (0, .ref (na 0)), (1, .int set)]) hx hb dX0_hasValues_28 hl rfl (yy_inc _) (by decide) rfl (fun ls hl => ?_)
          refine lv_goto (tgt := 2) hx hb dX0_hasValues_31 (by decide) ?_
          exact ih (i + 1) _ _ _ (by omega) hf (lv_sub hl [1, 2, 0] rfl) hP hD hS
        · have hf := yt h3 hf
          refine lv_iconst (v := 0) hx hb dX0_hasValues_26 (by decide) ?_
          subst hf
          exact yy_zret (v := yB false) hx hb hr (yB_n _) hP hK hS hlocks dX0_hasValues_27
  rw [nd_hasValues] at hf
  refine lv_iconst (v := (nI 0)) hx hb dX0_hasValues_0 (by decide) ?_
  refine lv_istore_n (lv' := [(2, .int (nI 0)), (0, .ref (na 0)), (1, .int set)]) hx hb dX0_hasValues_1 rfl hl (by decide) rfl (fun ls hl => ?_)
  exact hL2 8 0 _ _ _ (by omega) hf (lv_sub hl [1, 2, 0] rfl) hP hD hS

set_option maxHeartbeats 4000000 in
set_option maxRecDepth 100000 in
theorem c_nd_commitsOf (l : Launch) (D : va_G) (cI cJ cZ cN : ClassId) (na : Nat → Nat) (set : Int32) (nd : NS)  (res : Int64) (hf : res = nd_commitsOf set nd) : yy_Met l yX0_commitsOf wsX0_commitsOf { frames := 1, cells := 0, slots := 0, locals := 21 } D vwCl (yT cI cJ cZ cN) [.ref (na 0), .int set] (ndW cI na nd) (some (.long res)) (ndW cI na nd) := by
  intro sz
  refine Met.ofW (cc := cX0_commitsOf) (maxL := 5) (ret := (some .long)) (by decide) rfl ?_
  intro p e s m args below meth c s₁ B hml hv
  obtain ⟨rfl, hsz, hP, hK, hD0, hN⟩ := hv
  have hx := B.exec
  have hb := B.bytes
  have hr := B.returns
  have hts := atoms_spec (ws := wsX0_commitsOf) B.pre
  have hw : ∀ w ∈ yW, w.before _ s = true := fun w h => hts w (List.mem_cons_of_mem _ h)
  have hown : s.vm.findClass RX0 = some m.cls := findClass_of_methodNamed B.named
  have hlocks := B.notSynchronized
  subst hsz
  have hD := hD0.self (sz := s.heap.size)
  generalize hAe : va_A (ndW cI na nd) s.heap.size = A at hD ⊢
  have hA : ∀ q : Nat, s.heap.size ≤ q → A q := fun q h => by rw [← hAe]; exact Or.inr h
  have hS : va_S A s.heap s.heap [] := va_S.rf
  have hl := lv_entry ([.ref (na 0), .int set]) (n := 5) (Nat.le_of_ble_eq_true rfl)
  rw [lg_entry_eq]
  generalize (lg_sl ([.ref (na 0), .int set]) ++ List.replicate (5 - (lg_sl ([.ref (na 0), .int set])).length) Slot.unset).toArray = ls at hl ⊢
  have hl : lv_has ls 5 [(0, .ref (na 0)), (1, .int set)] := hl
  have hL5 : ∀ (k : Nat) (i : Nat) (acc : Int64) (ls : Array Slot) (H : Heap) (locs : List Loc), i + k = 8 → res = nd_commitsOf_L5 set nd k i acc → lv_has ls 5 [(0, .ref (na 0)), (1, .int set), (2, .long acc), (4, .int (nI i))] → va_P D vwCl (ndW cI na nd) H → va_D A (ndW cI na nd) → va_S A s.heap H locs → W p l e (headSpec wsX0_commitsOf { frames := 1, cells := 0, slots := 0, locals := 21 }).room s m ([.ref (na 0), .int set] : List Value).toArray below meth c H locs 0 0 (MQ below (yy_Q A D vwCl (yT cI cJ cZ cN) (ndW cI na nd) (some (.long res))) ([.ref (na 0), .int set] : List Value).toArray s 0 0 A) (F0 m 5 ls []) := by
    intro k
    induction k with
    | zero =>
      intro i acc ls H locs hi hf hl hP hD hS
      rw [nd_commitsOf_L5] at hf
      refine lv_iload hx hb dX0_commitsOf_5 (lv_at hl 3 rfl) ?_
      refine lv_bipush (v := (nI 8)) hx hb dX0_commitsOf_7 (by decide) ?_
      refine lv_icmp_ge (tgt := 50) hx hb dX0_commitsOf_9 (by decide) (fun _ => ?_) (fun h => absurd (nI_le (by omega) (by omega)) h)
      refine lv_lload_n hx hb dX0_commitsOf_50 rfl (lv_at hl 2 rfl) ?_
      subst hf
      exact yy_lret hx hb hr hP hK hS hlocks dX0_commitsOf_51
    | succ k ih =>
      intro i acc ls H locs hi hf hl hP hD hS
      rw [nd_commitsOf_L5] at hf
      refine lv_iload hx hb dX0_commitsOf_5 (lv_at hl 3 rfl) ?_
      refine lv_bipush (v := (nI 8)) hx hb dX0_commitsOf_7 (by decide) ?_
      refine lv_icmp_ge (tgt := 50) hx hb dX0_commitsOf_9 (by decide) (fun h => absurd h (nI_ge (by omega) (by omega))) (fun _ => ?_)
      refine lv_iload_n hx hb dX0_commitsOf_12 rfl (lv_at hl 1 rfl) ?_
      refine lv_iload hx hb dX0_commitsOf_13 (lv_at hl 3 rfl) ?_
      obtain ⟨r1, er1⟩ : ∃ r, r = px_isChosen set (nI i) := ⟨_, rfl⟩
      have hf := yb_e er1 hf
      refine yz_callSN (As := [.int set, .int (nI i)]) (rest := []) ⟨hx, hb, hml, hown, hts⟩ (c_px_isChosen l D cI cJ cZ cN set (nI i)  r1 er1) ⟨va_cnB 2 hts (yy_good wq_288) rfl rfl rfl hN.2.1 (hw _ wq_34) (by decide +kernel) ⟨Nat.le_of_ble_eq_true rfl, Nat.le_of_ble_eq_true rfl⟩, hw _ wq_287, trivial⟩ hK hN hP hD hS hA [] rfl (by decide) rfl 0 rfl (w2 := (ndW cI na nd)) rfl rfl hl.1 rfl (Nat.le_of_ble_eq_true rfl) dX0_commitsOf_15 ⟨Nat.zero_le _, Nat.zero_le _⟩ (fun H locs hP hD hS => ?_)
      refine W.eq (g2 := F0 m 18 ls [.int (yB r1)]) rfl ?_
      refine lv_if_eq (tgt := 44) hx hb dX0_commitsOf_18 (by decide) (fun h2 => ?_) (fun h2 => ?_)
      · have h2 := yB_0.mp h2
        have hf := yBf h2 hf
        refine lv_iinc (k := 3) (v := (nI (i + 1))) (lv' := [(4, .int (nI (i + 1))), (0, .ref (na 0)), (1, .int set), (2, .long acc)]) hx hb dX0_commitsOf_44 hl rfl (yy_inc _) (by decide) rfl (fun ls hl => ?_)
        refine lv_goto (tgt := 5) hx hb dX0_commitsOf_47 (by decide) ?_
        exact ih (i + 1) acc _ _ _ (by omega) hf (lv_sub hl [1, 2, 3, 0] rfl) hP hD hS
      · have h2 := yB_1 h2
        have hf := yBt h2 hf
        refine lv_aload_n hx hb dX0_commitsOf_21 rfl (lv_at hl 0 rfl) ?_
        refine va_get (D := D) (ci := 0) (v := .ref (na 1)) (C := RX0) (T := TX0) (N := 7) hx hb hts (yy_tl inX0) hown hK hP 0 rfl rfl 0 (by decide) (hw _ wq_83) (fun _ h9 => h9) rfl dX0_commitsOf_22 ?_
        refine lv_iload hx hb dX0_commitsOf_25 (lv_at hl 3 rfl) ?_
        refine yr_iald hx hb hK hP 1 0 (f := nd.1) (j := i) rfl rfl rfl (by omega) (by decide) dX0_commitsOf_27 ?_
        refine lv_iconst (v := (-1)) hx hb dX0_commitsOf_28 (by decide) ?_
        refine lv_icmp_eq (tgt := 44) hx hb dX0_commitsOf_29 (by decide) (fun h3 => ?_) (fun h3 => ?_)
        · have hf := yt h3 hf
          refine lv_iinc (k := 3) (v := (nI (i + 1))) (lv' := [(4, .int (nI (i + 1))), (0, .ref (na 0)), (1, .int set), (2, .long acc)]) hx hb dX0_commitsOf_44 hl rfl (yy_inc _) (by decide) rfl (fun ls hl => ?_)
          refine lv_goto (tgt := 5) hx hb dX0_commitsOf_47 (by decide) ?_
          exact ih (i + 1) acc _ _ _ (by omega) hf (lv_sub hl [1, 2, 3, 0] rfl) hP hD hS
        · have hf := yf h3 hf
          refine lv_lload_n hx hb dX0_commitsOf_32 rfl (lv_at hl 2 rfl) ?_
          refine lv_lconst (v := 1) hx hb dX0_commitsOf_33 (by decide) ?_
          refine lv_aload_n hx hb dX0_commitsOf_34 rfl (lv_at hl 0 rfl) ?_
          refine va_get (D := D) (ci := 0) (v := .ref (na 1)) (C := RX0) (T := TX0) (N := 7) hx hb hts (yy_tl inX0) hown hK hP 0 rfl rfl 0 (by decide) (hw _ wq_83) (fun _ h9 => h9) rfl dX0_commitsOf_35 ?_
          refine lv_iload hx hb dX0_commitsOf_38 (lv_at hl 3 rfl) ?_
          refine yr_iald hx hb hK hP 1 0 (f := nd.1) (j := i) rfl rfl rfl (by omega) (by decide) dX0_commitsOf_40 ?_
          refine lv_lshl (v := ylshl 1 (nd.1 i)) hx hb dX0_commitsOf_41 rfl ?_
          refine lv_lor hx hb dX0_commitsOf_42 ?_
          refine lv_lstore_n (lv' := [(2, .long (acc ||| (ylshl 1 (nd.1 i)))), (0, .ref (na 0)), (1, .int set), (4, .int (nI i))]) hx hb dX0_commitsOf_43 rfl hl (by decide) rfl (fun ls hl => ?_)
          refine lv_iinc (k := 3) (v := (nI (i + 1))) (lv' := [(4, .int (nI (i + 1))), (2, .long (acc ||| (ylshl 1 (nd.1 i)))), (0, .ref (na 0)), (1, .int set)]) hx hb dX0_commitsOf_44 hl rfl (yy_inc _) (by decide) rfl (fun ls hl => ?_)
          refine lv_goto (tgt := 5) hx hb dX0_commitsOf_47 (by decide) ?_
          exact ih (i + 1) (acc ||| (ylshl 1 (nd.1 i))) _ _ _ (by omega) hf (lv_sub hl [2, 3, 1, 0] rfl) hP hD hS
  rw [nd_commitsOf] at hf
  refine lv_lconst (v := 0) hx hb dX0_commitsOf_0 (by decide) ?_
  refine lv_lstore_n (lv' := [(2, .long 0), (0, .ref (na 0)), (1, .int set)]) hx hb dX0_commitsOf_1 rfl hl (by decide) rfl (fun ls hl => ?_)
  refine lv_iconst (v := (nI 0)) hx hb dX0_commitsOf_2 (by decide) ?_
  refine lv_istore (lv' := [(4, .int (nI 0)), (2, .long 0), (0, .ref (na 0)), (1, .int set)]) hx hb dX0_commitsOf_3 hl (by decide) rfl (fun ls hl => ?_)
  exact hL5 8 0 0 _ _ _ (by omega) hf (lv_sub hl [2, 3, 1, 0] rfl) hP hD hS

set_option maxHeartbeats 4000000 in
set_option maxRecDepth 100000 in
theorem c_nd_emptyLog (l : Launch) (D : va_G) (cI cJ cZ cN : ClassId) (na : Nat → Nat) (nd : NS)  (res : Bool × NS) (hf : res = nd_emptyLog nd) : yy_Met l yX0_emptyLog wsX0_emptyLog { frames := 1, cells := 0, slots := 0, locals := 20 } D vwCl (yT cI cJ cZ cN) [.ref (na 0)] (ndW cI na nd) (some (.int (yB res.1))) (ndW cI na res.2) := by
  intro sz
  refine Met.ofW (cc := cX0_emptyLog) (maxL := 2) (ret := (some .boolean)) (by decide) rfl ?_
  intro p e s m args below meth c s₁ B hml hv
  obtain ⟨rfl, hsz, hP, hK, hD0, hN⟩ := hv
  have hx := B.exec
  have hb := B.bytes
  have hr := B.returns
  have hts := atoms_spec (ws := wsX0_emptyLog) B.pre
  have hw : ∀ w ∈ yW, w.before _ s = true := fun w h => hts w (List.mem_cons_of_mem _ h)
  have hown : s.vm.findClass RX0 = some m.cls := findClass_of_methodNamed B.named
  have hlocks := B.notSynchronized
  subst hsz
  have hD := hD0.self (sz := s.heap.size)
  generalize hAe : va_A (ndW cI na nd) s.heap.size = A at hD ⊢
  have hA : ∀ q : Nat, s.heap.size ≤ q → A q := fun q h => by rw [← hAe]; exact Or.inr h
  have hS : va_S A s.heap s.heap [] := va_S.rf
  have hl := lv_entry ([.ref (na 0)]) (n := 2) (Nat.le_of_ble_eq_true rfl)
  rw [lg_entry_eq]
  generalize (lg_sl ([.ref (na 0)]) ++ List.replicate (2 - (lg_sl ([.ref (na 0)])).length) Slot.unset).toArray = ls at hl ⊢
  have hl : lv_has ls 2 [(0, .ref (na 0))] := hl
  have hL11 : ∀ (k : Nat) (i : Nat) (nd : NS) (ls : Array Slot) (H : Heap) (locs : List Loc), i + k = 8 → res = nd_emptyLog_L11  k i nd → lv_has ls 2 [(0, .ref (na 0)), (1, .int (nI i))] → va_P D vwCl (ndW cI na nd) H → va_D A (ndW cI na nd) → va_S A s.heap H locs → W p l e (headSpec wsX0_emptyLog { frames := 1, cells := 0, slots := 0, locals := 20 }).room s m ([.ref (na 0)] : List Value).toArray below meth c H locs 0 0 (MQ below (yy_Q A D vwCl (yT cI cJ cZ cN) (ndW cI na res.2) (some (.int (yB res.1)))) ([.ref (na 0)] : List Value).toArray s 0 0 A) (F0 m 11 ls []) := by
    intro k
    induction k with
    | zero =>
      intro i nd ls H locs hi hf hl hP hD hS
      rw [nd_emptyLog_L11] at hf
      refine lv_iload_n hx hb dX0_emptyLog_11 rfl (lv_at hl 1 rfl) ?_
      refine lv_bipush (v := (nI 8)) hx hb dX0_emptyLog_12 (by decide) ?_
      refine lv_icmp_ge (tgt := 31) hx hb dX0_emptyLog_14 (by decide) (fun _ => ?_) (fun h => absurd (nI_le (by omega) (by omega)) h)
      refine lv_aload_n hx hb dX0_emptyLog_31 rfl (lv_at hl 0 rfl) ?_
      refine lv_iconst (v := 0) hx hb dX0_emptyLog_32 (by decide) ?_
      refine va_put (D := D) (ci := 0) (v := .int 0) (ty := .int) (C := RX0) (T := TX0) (N := 7) hx hb hts (yy_tl inX0) tyX0 tyX0_ok nX0 hown hK hP hD hS 0 rfl rfl 2 (by decide) (hw _ wq_85) (fun _ h9 => h9) rfl (by decide +kernel) rfl rfl (Nat.le_of_ble_eq_true rfl) dX0_emptyLog_33 (fun H locs hP hD hS => ?_)
      have hP : va_P D vwCl (ndW cI na (nd.1, nd.2.1, 0, nd.2.2.2.1, nd.2.2.2.2.1, nd.2.2.2.2.2.1, nd.2.2.2.2.2.2)) H := hP
      have hD : va_D A (ndW cI na (nd.1, nd.2.1, 0, nd.2.2.2.1, nd.2.2.2.2.1, nd.2.2.2.2.2.1, nd.2.2.2.2.2.2)) := hD
      refine lv_aload_n hx hb dX0_emptyLog_36 rfl (lv_at hl 0 rfl) ?_
      refine lv_iconst (v := 0) hx hb dX0_emptyLog_37 (by decide) ?_
      refine va_put (D := D) (ci := 0) (v := .int (yB false)) (ty := .boolean) (C := RX0) (T := TX0) (N := 7) hx hb hts (yy_tl inX0) tyX0 tyX0_ok nX0 hown hK hP hD hS 0 rfl rfl 3 (by decide) (hw _ wq_86) (fun _ h9 => h9) rfl (by decide +kernel) (yB_n _) (yB_fit _) (Nat.le_of_ble_eq_true rfl) dX0_emptyLog_38 (fun H locs hP hD hS => ?_)
      have hP : va_P D vwCl (ndW cI na (nd.1, nd.2.1, 0, false, nd.2.2.2.2.1, nd.2.2.2.2.2.1, nd.2.2.2.2.2.2)) H := hP
      have hD : va_D A (ndW cI na (nd.1, nd.2.1, 0, false, nd.2.2.2.2.1, nd.2.2.2.2.2.1, nd.2.2.2.2.2.2)) := hD
      refine lv_iconst (v := 1) hx hb dX0_emptyLog_41 (by decide) ?_
      subst hf
      exact yy_zret (v := yB true) hx hb hr (yB_n _) hP hK hS hlocks dX0_emptyLog_42
    | succ k ih =>
      intro i nd ls H locs hi hf hl hP hD hS
      rw [nd_emptyLog_L11] at hf
      refine lv_iload_n hx hb dX0_emptyLog_11 rfl (lv_at hl 1 rfl) ?_
      refine lv_bipush (v := (nI 8)) hx hb dX0_emptyLog_12 (by decide) ?_
      refine lv_icmp_ge (tgt := 31) hx hb dX0_emptyLog_14 (by decide) (fun h => absurd h (nI_ge (by omega) (by omega))) (fun _ => ?_)
      refine lv_aload_n hx hb dX0_emptyLog_17 rfl (lv_at hl 0 rfl) ?_
      refine va_get (D := D) (ci := 0) (v := .ref (na 2)) (C := RX0) (T := TX0) (N := 7) hx hb hts (yy_tl inX0) hown hK hP 0 rfl rfl 1 (by decide) (hw _ wq_84) (fun _ h9 => h9) rfl dX0_emptyLog_18 ?_
      refine lv_iload_n hx hb dX0_emptyLog_21 rfl (lv_at hl 1 rfl) ?_
      refine lv_bipush (v := (-2)) hx hb dX0_emptyLog_22 (by decide) ?_
      refine yr_iast hx hb hK hP hD hS 2 0 (f := nd.2.1) (j := i) rfl rfl rfl (by omega) (by decide) dX0_emptyLog_24 (fun H locs hP hD hS => ?_)
      have hP : va_P D vwCl (ndW cI na (nd.1, upd nd.2.1 i (-2), nd.2.2.1, nd.2.2.2.1, nd.2.2.2.2.1, nd.2.2.2.2.2.1, nd.2.2.2.2.2.2)) H := hP
      have hD : va_D A (ndW cI na (nd.1, upd nd.2.1 i (-2), nd.2.2.1, nd.2.2.2.1, nd.2.2.2.2.1, nd.2.2.2.2.2.1, nd.2.2.2.2.2.2)) := hD
      refine lv_iinc (k := 1) (v := (nI (i + 1))) (lv' := [(1, .int (nI (i + 1))), (0, .ref (na 0))]) hx hb dX0_emptyLog_25 hl rfl (yy_inc _) (by decide) rfl (fun ls hl => ?_)
      refine lv_goto (tgt := 11) hx hb dX0_emptyLog_28 (by decide) ?_
      exact ih (i + 1) (nd.1, upd nd.2.1 i (-2), nd.2.2.1, nd.2.2.2.1, nd.2.2.2.2.1, nd.2.2.2.2.2.1, nd.2.2.2.2.2.2) _ _ _ (by omega) hf (lv_sub hl [1, 0] rfl) hP hD hS
  rw [nd_emptyLog] at hf
  refine lv_aload_n hx hb dX0_emptyLog_0 rfl (lv_at hl 0 rfl) ?_
  obtain ⟨r1, er1⟩ : ∃ r, r = nd_write nd := ⟨_, rfl⟩
  have hf := yb_e er1 hf
  refine yz_callV (As := []) (rest := []) ⟨hx, hb, hml, hown, hts⟩ (c_nd_write l D cI cJ cZ cN na nd  r1 er1) ⟨callB_of 0 hts (yy_good wq_198) rfl rfl rfl (hw _ wq_36) (hw _ wq_259) (by decide +kernel) ⟨Nat.le_of_ble_eq_true rfl, Nat.le_of_ble_eq_true rfl⟩, hw _ wq_196, hw _ wq_197⟩ hK hN hP hD hS hA [0, 1, 2] rfl (by decide) rfl 3 rfl (w2 := (ndW cI na r1.2)) rfl 0 rfl rfl rfl hl.1 rfl (Nat.le_of_ble_eq_true rfl) dX0_emptyLog_1 ⟨Nat.zero_le _, Nat.zero_le _⟩ (fun H locs hP hD hS => ?_)
  refine W.eq (g2 := F0 m 4 ls [.int (yB r1.1)]) rfl ?_
  refine lv_if_ne (tgt := 9) hx hb dX0_emptyLog_4 (by decide) (fun h2 => ?_) (fun h2 => ?_)
  · have h2 := yB_1 h2
    have hf := yBt h2 hf
    refine lv_iconst (v := (nI 0)) hx hb dX0_emptyLog_9 (by decide) ?_
    refine lv_istore_n (lv' := [(1, .int (nI 0)), (0, .ref (na 0))]) hx hb dX0_emptyLog_10 rfl hl (by decide) rfl (fun ls hl => ?_)
    exact hL11 8 0 r1.2 _ _ _ (by omega) hf (lv_sub hl [1, 0] rfl) hP hD hS
  · have h2 := yB_0.mp h2
    have hf := yBf h2 hf
    refine lv_iconst (v := 0) hx hb dX0_emptyLog_7 (by decide) ?_
    subst hf
    exact yy_zret (v := yB false) hx hb hr (yB_n _) hP hK hS hlocks dX0_emptyLog_8

set_option maxHeartbeats 4000000 in
set_option maxRecDepth 100000 in
theorem c_nd_carryOutLog (l : Launch) (D : va_G) (cI cJ cZ cN : ClassId) (na : Nat → Nat) (nd : NS)  (res : Bool × NS) (hf : res = nd_carryOutLog nd) : yy_Met l yX0_carryOutLog wsX0_carryOutLog { frames := 2, cells := 0, slots := 0, locals := 41 } D vwCl (yT cI cJ cZ cN) [.ref (na 0)] (ndW cI na nd) (some (.int (yB res.1))) (ndW cI na res.2) := by
  intro sz
  refine Met.ofW (cc := cX0_carryOutLog) (maxL := 2) (ret := (some .boolean)) (by decide) rfl ?_
  intro p e s m args below meth c s₁ B hml hv
  obtain ⟨rfl, hsz, hP, hK, hD0, hN⟩ := hv
  have hx := B.exec
  have hb := B.bytes
  have hr := B.returns
  have hts := atoms_spec (ws := wsX0_carryOutLog) B.pre
  have hw : ∀ w ∈ yW, w.before _ s = true := fun w h => hts w (List.mem_cons_of_mem _ h)
  have hown : s.vm.findClass RX0 = some m.cls := findClass_of_methodNamed B.named
  have hlocks := B.notSynchronized
  subst hsz
  have hD := hD0.self (sz := s.heap.size)
  generalize hAe : va_A (ndW cI na nd) s.heap.size = A at hD ⊢
  have hA : ∀ q : Nat, s.heap.size ≤ q → A q := fun q h => by rw [← hAe]; exact Or.inr h
  have hS : va_S A s.heap s.heap [] := va_S.rf
  have hl := lv_entry ([.ref (na 0)]) (n := 2) (Nat.le_of_ble_eq_true rfl)
  rw [lg_entry_eq]
  generalize (lg_sl ([.ref (na 0)]) ++ List.replicate (2 - (lg_sl ([.ref (na 0)])).length) Slot.unset).toArray = ls at hl ⊢
  have hl : lv_has ls 2 [(0, .ref (na 0))] := hl
  have hL2 : ∀ (k : Nat) (i : Nat) (nd : NS) (ls : Array Slot) (H : Heap) (locs : List Loc), i + k = 8 → res = nd_carryOutLog_L2  k i nd → lv_has ls 2 [(0, .ref (na 0)), (1, .int (nI i))] → va_P D vwCl (ndW cI na nd) H → va_D A (ndW cI na nd) → va_S A s.heap H locs → W p l e (headSpec wsX0_carryOutLog { frames := 2, cells := 0, slots := 0, locals := 41 }).room s m ([.ref (na 0)] : List Value).toArray below meth c H locs 0 0 (MQ below (yy_Q A D vwCl (yT cI cJ cZ cN) (ndW cI na res.2) (some (.int (yB res.1)))) ([.ref (na 0)] : List Value).toArray s 0 0 A) (F0 m 2 ls []) := by
    intro k
    induction k with
    | zero =>
      intro i nd ls H locs hi hf hl hP hD hS
      rw [nd_carryOutLog_L2] at hf
      refine lv_iload_n hx hb dX0_carryOutLog_2 rfl (lv_at hl 1 rfl) ?_
      refine lv_bipush (v := (nI 8)) hx hb dX0_carryOutLog_3 (by decide) ?_
      refine lv_icmp_ge (tgt := 46) hx hb dX0_carryOutLog_5 (by decide) (fun _ => ?_) (fun h => absurd (nI_le (by omega) (by omega)) h)
      refine lv_aload_n hx hb dX0_carryOutLog_46 rfl (lv_at hl 0 rfl) ?_
      obtain ⟨r1, er1⟩ : ∃ r, r = nd_emptyLog nd := ⟨_, rfl⟩
      have hf := yb_e er1 hf
      refine yz_callV (As := []) (rest := []) ⟨hx, hb, hml, hown, hts⟩ (c_nd_emptyLog l D cI cJ cZ cN na nd  r1 er1) ⟨callB_of 0 hts (yy_good wq_267) rfl rfl rfl (hw _ wq_36) (hw _ wq_264) (by decide +kernel) ⟨Nat.le_of_ble_eq_true rfl, Nat.le_of_ble_eq_true rfl⟩, hw _ wq_266, hw _ wq_8⟩ hK hN hP hD hS hA [0, 1, 2] rfl (by decide) rfl 3 rfl (w2 := (ndW cI na r1.2)) rfl 0 rfl rfl rfl hl.1 rfl (Nat.le_of_ble_eq_true rfl) dX0_carryOutLog_47 ⟨Nat.zero_le _, Nat.zero_le _⟩ (fun H locs hP hD hS => ?_)
      refine W.eq (g2 := F0 m 50 ls [.int (yB r1.1)]) rfl ?_
      subst hf
      exact yy_zret (v := yB r1.1) hx hb hr (yB_n _) hP hK hS hlocks dX0_carryOutLog_50
    | succ k ih =>
      intro i nd ls H locs hi hf hl hP hD hS
      rw [nd_carryOutLog_L2] at hf
      refine lv_iload_n hx hb dX0_carryOutLog_2 rfl (lv_at hl 1 rfl) ?_
      refine lv_bipush (v := (nI 8)) hx hb dX0_carryOutLog_3 (by decide) ?_
      refine lv_icmp_ge (tgt := 46) hx hb dX0_carryOutLog_5 (by decide) (fun h => absurd h (nI_ge (by omega) (by omega))) (fun _ => ?_)
      refine lv_aload_n hx hb dX0_carryOutLog_8 rfl (lv_at hl 0 rfl) ?_
      refine va_get (D := D) (ci := 0) (v := .ref (na 2)) (C := RX0) (T := TX0) (N := 7) hx hb hts (yy_tl inX0) hown hK hP 0 rfl rfl 1 (by decide) (hw _ wq_84) (fun _ h9 => h9) rfl dX0_carryOutLog_9 ?_
      refine lv_iload_n hx hb dX0_carryOutLog_12 rfl (lv_at hl 1 rfl) ?_
      refine yr_iald hx hb hK hP 2 0 (f := nd.2.1) (j := i) rfl rfl rfl (by omega) (by decide) dX0_carryOutLog_13 ?_
      refine lv_bipush (v := (-2)) hx hb dX0_carryOutLog_14 (by decide) ?_
      refine lv_icmp_eq (tgt := 40) hx hb dX0_carryOutLog_16 (by decide) (fun h2 => ?_) (fun h2 => ?_)
      · have hf := yt h2 hf
        refine lv_iinc (k := 1) (v := (nI (i + 1))) (lv' := [(1, .int (nI (i + 1))), (0, .ref (na 0))]) hx hb dX0_carryOutLog_40 hl rfl (yy_inc _) (by decide) rfl (fun ls hl => ?_)
        refine lv_goto (tgt := 2) hx hb dX0_carryOutLog_43 (by decide) ?_
        exact ih (i + 1) nd _ _ _ (by omega) hf (lv_sub hl [1, 0] rfl) hP hD hS
      · have hf := yf h2 hf
        refine lv_aload_n hx hb dX0_carryOutLog_19 rfl (lv_at hl 0 rfl) ?_
        obtain ⟨r3, er3⟩ : ∃ r, r = nd_write nd := ⟨_, rfl⟩
        have hf := yb_e er3 hf
        refine yz_callV (As := []) (rest := []) ⟨hx, hb, hml, hown, hts⟩ (c_nd_write l D cI cJ cZ cN na nd  r3 er3) ⟨callB_of 0 hts (yy_good wq_198) rfl rfl rfl (hw _ wq_36) (hw _ wq_259) (by decide +kernel) ⟨Nat.le_of_ble_eq_true rfl, Nat.le_of_ble_eq_true rfl⟩, hw _ wq_196, hw _ wq_197⟩ hK hN hP hD hS hA [0, 1, 2] rfl (by decide) rfl 3 rfl (w2 := (ndW cI na r3.2)) rfl 0 rfl rfl rfl hl.1 rfl (Nat.le_of_ble_eq_true rfl) dX0_carryOutLog_20 ⟨Nat.zero_le _, Nat.zero_le _⟩ (fun H locs hP hD hS => ?_)
        refine W.eq (g2 := F0 m 23 ls [.int (yB r3.1)]) rfl ?_
        refine lv_if_ne (tgt := 28) hx hb dX0_carryOutLog_23 (by decide) (fun h4 => ?_) (fun h4 => ?_)
        · have h4 := yB_1 h4
          have hf := yBt h4 hf
          refine lv_aload_n hx hb dX0_carryOutLog_28 rfl (lv_at hl 0 rfl) ?_
          refine va_get (D := D) (ci := 0) (v := .ref (na 1)) (C := RX0) (T := TX0) (N := 7) hx hb hts (yy_tl inX0) hown hK hP 0 rfl rfl 0 (by decide) (hw _ wq_83) (fun _ h9 => h9) rfl dX0_carryOutLog_29 ?_
          refine lv_iload_n hx hb dX0_carryOutLog_32 rfl (lv_at hl 1 rfl) ?_
          refine lv_aload_n hx hb dX0_carryOutLog_33 rfl (lv_at hl 0 rfl) ?_
          refine va_get (D := D) (ci := 0) (v := .ref (na 2)) (C := RX0) (T := TX0) (N := 7) hx hb hts (yy_tl inX0) hown hK hP 0 rfl rfl 1 (by decide) (hw _ wq_84) (fun _ h9 => h9) rfl dX0_carryOutLog_34 ?_
          refine lv_iload_n hx hb dX0_carryOutLog_37 rfl (lv_at hl 1 rfl) ?_
          refine yr_iald hx hb hK hP 2 0 (f := r3.2.2.1) (j := i) rfl rfl rfl (by omega) (by decide) dX0_carryOutLog_38 ?_
          refine yr_iast hx hb hK hP hD hS 1 0 (f := r3.2.1) (j := i) rfl rfl rfl (by omega) (by decide) dX0_carryOutLog_39 (fun H locs hP hD hS => ?_)
          have hP : va_P D vwCl (ndW cI na (upd r3.2.1 i (r3.2.2.1 i), r3.2.2.1, r3.2.2.2.1, r3.2.2.2.2.1, r3.2.2.2.2.2.1, r3.2.2.2.2.2.2.1, r3.2.2.2.2.2.2.2)) H := hP
          have hD : va_D A (ndW cI na (upd r3.2.1 i (r3.2.2.1 i), r3.2.2.1, r3.2.2.2.1, r3.2.2.2.2.1, r3.2.2.2.2.2.1, r3.2.2.2.2.2.2.1, r3.2.2.2.2.2.2.2)) := hD
          refine lv_iinc (k := 1) (v := (nI (i + 1))) (lv' := [(1, .int (nI (i + 1))), (0, .ref (na 0))]) hx hb dX0_carryOutLog_40 hl rfl (yy_inc _) (by decide) rfl (fun ls hl => ?_)
          refine lv_goto (tgt := 2) hx hb dX0_carryOutLog_43 (by decide) ?_
          exact ih (i + 1) (upd r3.2.1 i (r3.2.2.1 i), r3.2.2.1, r3.2.2.2.1, r3.2.2.2.2.1, r3.2.2.2.2.2.1, r3.2.2.2.2.2.2.1, r3.2.2.2.2.2.2.2) _ _ _ (by omega) hf (lv_sub hl [1, 0] rfl) hP hD hS
        · have h4 := yB_0.mp h4
          have hf := yBf h4 hf
          refine lv_iconst (v := 0) hx hb dX0_carryOutLog_26 (by decide) ?_
          subst hf
          exact yy_zret (v := yB false) hx hb hr (yB_n _) hP hK hS hlocks dX0_carryOutLog_27
  rw [nd_carryOutLog] at hf
  refine lv_iconst (v := (nI 0)) hx hb dX0_carryOutLog_0 (by decide) ?_
  refine lv_istore_n (lv' := [(1, .int (nI 0)), (0, .ref (na 0))]) hx hb dX0_carryOutLog_1 rfl hl (by decide) rfl (fun ls hl => ?_)
  exact hL2 8 0 nd _ _ _ (by omega) hf (lv_sub hl [1, 0] rfl) hP hD hS

set_option maxHeartbeats 4000000 in
set_option maxRecDepth 100000 in
theorem c_nd_transact (l : Launch) (D : va_G) (cI cJ cZ cN : ClassId) (na : Nat → Nat) (xa : Nat → Nat) (nd : NS) (tg : (Nat → Int32))  (res : Bool × NS) (hf : res = nd_transact nd tg) : yy_Met l yX0_transact wsX0_transact { frames := 3, cells := 0, slots := 0, locals := 62 } D vwCl (yT cI cJ cZ cN) [.ref (na 0), .ref (xa 3)] (ndW cI na nd ++ tgW cI xa tg) (some (.int (yB res.1))) (ndW cI na res.2 ++ tgW cI xa tg) := by
  intro sz
  refine Met.ofW (cc := cX0_transact) (maxL := 3) (ret := (some .boolean)) (by decide) rfl ?_
  intro p e s m args below meth c s₁ B hml hv
  obtain ⟨rfl, hsz, hP, hK, hD0, hN⟩ := hv
  have hx := B.exec
  have hb := B.bytes
  have hr := B.returns
  have hts := atoms_spec (ws := wsX0_transact) B.pre
  have hw : ∀ w ∈ yW, w.before _ s = true := fun w h => hts w (List.mem_cons_of_mem _ h)
  have hown : s.vm.findClass RX0 = some m.cls := findClass_of_methodNamed B.named
  have hlocks := B.notSynchronized
  subst hsz
  have hD := hD0.self (sz := s.heap.size)
  generalize hAe : va_A (ndW cI na nd ++ tgW cI xa tg) s.heap.size = A at hD ⊢
  have hA : ∀ q : Nat, s.heap.size ≤ q → A q := fun q h => by rw [← hAe]; exact Or.inr h
  have hS : va_S A s.heap s.heap [] := va_S.rf
  have hl := lv_entry ([.ref (na 0), .ref (xa 3)]) (n := 3) (Nat.le_of_ble_eq_true rfl)
  rw [lg_entry_eq]
  generalize (lg_sl ([.ref (na 0), .ref (xa 3)]) ++ List.replicate (3 - (lg_sl ([.ref (na 0), .ref (xa 3)])).length) Slot.unset).toArray = ls at hl ⊢
  have hl : lv_has ls 3 [(0, .ref (na 0)), (1, .ref (xa 3))] := hl
  have hL2 : ∀ (k : Nat) (i : Nat) (nd : NS) (ls : Array Slot) (H : Heap) (locs : List Loc), i + k = 8 → res = nd_transact_L2 tg k i nd → lv_has ls 3 [(0, .ref (na 0)), (1, .ref (xa 3)), (2, .int (nI i))] → va_P D vwCl (ndW cI na nd ++ tgW cI xa tg) H → va_D A (ndW cI na nd ++ tgW cI xa tg) → va_S A s.heap H locs → W p l e (headSpec wsX0_transact { frames := 3, cells := 0, slots := 0, locals := 62 }).room s m ([.ref (na 0), .ref (xa 3)] : List Value).toArray below meth c H locs 0 0 (MQ below (yy_Q A D vwCl (yT cI cJ cZ cN) (ndW cI na res.2 ++ tgW cI xa tg) (some (.int (yB res.1)))) ([.ref (na 0), .ref (xa 3)] : List Value).toArray s 0 0 A) (F0 m 2 ls []) := by
    intro k
    induction k with
    | zero =>
      intro i nd ls H locs hi hf hl hP hD hS
      rw [nd_transact_L2] at hf
      refine lv_iload_n hx hb dX0_transact_2 rfl (lv_at hl 2 rfl) ?_
      refine lv_bipush (v := (nI 8)) hx hb dX0_transact_3 (by decide) ?_
      refine lv_icmp_ge (tgt := 68) hx hb dX0_transact_5 (by decide) (fun _ => ?_) (fun h => absurd (nI_le (by omega) (by omega)) h)
      refine lv_aload_n hx hb dX0_transact_68 rfl (lv_at hl 0 rfl) ?_
      refine va_get (D := D) (ci := 0) (v := .int nd.2.2.1) (C := RX0) (T := TX0) (N := 7) hx hb hts (yy_tl inX0) hown hK hP 0 rfl rfl 2 (by decide) (hw _ wq_85) (fun _ h9 => h9) rfl dX0_transact_69 ?_
      refine lv_if_ne (tgt := 77) hx hb dX0_transact_72 (by decide) (fun h1 => ?_) (fun h1 => ?_)
      · have hf := yf h1 hf
        refine lv_aload_n hx hb dX0_transact_77 rfl (lv_at hl 0 rfl) ?_
        obtain ⟨r2, er2⟩ : ∃ r, r = nd_write nd := ⟨_, rfl⟩
        have hf := yb_e er2 hf
        refine yz_callV (As := []) (rest := []) ⟨hx, hb, hml, hown, hts⟩ (c_nd_write l D cI cJ cZ cN na nd  r2 er2) ⟨callB_of 0 hts (yy_good wq_198) rfl rfl rfl (hw _ wq_36) (hw _ wq_259) (by decide +kernel) ⟨Nat.le_of_ble_eq_true rfl, Nat.le_of_ble_eq_true rfl⟩, hw _ wq_196, hw _ wq_197⟩ hK hN hP hD hS hA [0, 1, 2] rfl (by decide) rfl 3 rfl (w2 := (ndW cI na r2.2 ++ tgW cI xa tg)) rfl 0 rfl rfl rfl hl.1 rfl (Nat.le_of_ble_eq_true rfl) dX0_transact_78 ⟨Nat.zero_le _, Nat.zero_le _⟩ (fun H locs hP hD hS => ?_)
        refine W.eq (g2 := F0 m 81 ls [.int (yB r2.1)]) rfl ?_
        refine lv_if_ne (tgt := 86) hx hb dX0_transact_81 (by decide) (fun h3 => ?_) (fun h3 => ?_)
        · have h3 := yB_1 h3
          have hf := yBt h3 hf
          refine lv_aload_n hx hb dX0_transact_86 rfl (lv_at hl 0 rfl) ?_
          refine lv_iconst (v := 1) hx hb dX0_transact_87 (by decide) ?_
          refine va_put (D := D) (ci := 0) (v := .int (yB true)) (ty := .boolean) (C := RX0) (T := TX0) (N := 7) hx hb hts (yy_tl inX0) tyX0 tyX0_ok nX0 hown hK hP hD hS 0 rfl rfl 3 (by decide) (hw _ wq_86) (fun _ h9 => h9) rfl (by decide +kernel) (yB_n _) (yB_fit _) (Nat.le_of_ble_eq_true rfl) dX0_transact_88 (fun H locs hP hD hS => ?_)
          have hP : va_P D vwCl (ndW cI na (r2.2.1, r2.2.2.1, r2.2.2.2.1, true, r2.2.2.2.2.2.1, r2.2.2.2.2.2.2.1, r2.2.2.2.2.2.2.2) ++ tgW cI xa tg) H := hP
          have hD : va_D A (ndW cI na (r2.2.1, r2.2.2.1, r2.2.2.2.1, true, r2.2.2.2.2.2.1, r2.2.2.2.2.2.2.1, r2.2.2.2.2.2.2.2) ++ tgW cI xa tg) := hD
          refine lv_aload_n hx hb dX0_transact_91 rfl (lv_at hl 0 rfl) ?_
          obtain ⟨r4, er4⟩ : ∃ r, r = nd_carryOutLog (r2.2.1, r2.2.2.1, r2.2.2.2.1, true, r2.2.2.2.2.2.1, r2.2.2.2.2.2.2.1, r2.2.2.2.2.2.2.2) := ⟨_, rfl⟩
          have hf := yb_e er4 hf
          refine yz_callV (As := []) (rest := []) ⟨hx, hb, hml, hown, hts⟩ (c_nd_carryOutLog l D cI cJ cZ cN na (r2.2.1, r2.2.2.1, r2.2.2.2.1, true, r2.2.2.2.2.2.1, r2.2.2.2.2.2.2.1, r2.2.2.2.2.2.2.2)  r4 er4) ⟨callB_of 0 hts (yy_good wq_263) rfl rfl rfl (hw _ wq_36) (hw _ wq_260) (by decide +kernel) ⟨Nat.le_of_ble_eq_true rfl, Nat.le_of_ble_eq_true rfl⟩, hw _ wq_262, hw _ wq_7⟩ hK hN hP hD hS hA [0, 1, 2] rfl (by decide) rfl 3 rfl (w2 := (ndW cI na r4.2 ++ tgW cI xa tg)) rfl 0 rfl rfl rfl hl.1 rfl (Nat.le_of_ble_eq_true rfl) dX0_transact_92 ⟨Nat.zero_le _, Nat.zero_le _⟩ (fun H locs hP hD hS => ?_)
          refine W.eq (g2 := F0 m 95 ls [.int (yB r4.1)]) rfl ?_
          subst hf
          exact yy_zret (v := yB r4.1) hx hb hr (yB_n _) hP hK hS hlocks dX0_transact_95
        · have h3 := yB_0.mp h3
          have hf := yBf h3 hf
          refine lv_iconst (v := 0) hx hb dX0_transact_84 (by decide) ?_
          subst hf
          exact yy_zret (v := yB false) hx hb hr (yB_n _) hP hK hS hlocks dX0_transact_85
      · have hf := yt h1 hf
        refine lv_iconst (v := 1) hx hb dX0_transact_75 (by decide) ?_
        subst hf
        exact yy_zret (v := yB true) hx hb hr (yB_n _) hP hK hS hlocks dX0_transact_76
    | succ k ih =>
      intro i nd ls H locs hi hf hl hP hD hS
      rw [nd_transact_L2] at hf
      refine lv_iload_n hx hb dX0_transact_2 rfl (lv_at hl 2 rfl) ?_
      refine lv_bipush (v := (nI 8)) hx hb dX0_transact_3 (by decide) ?_
      refine lv_icmp_ge (tgt := 68) hx hb dX0_transact_5 (by decide) (fun h => absurd h (nI_ge (by omega) (by omega))) (fun _ => ?_)
      refine lv_iload_n hx hb dX0_transact_8 rfl (lv_at hl 2 rfl) ?_
      refine lv_aload_n hx hb dX0_transact_9 rfl (lv_at hl 1 rfl) ?_
      refine va_alen (v := nI 8) hx hb hK hP 3 0 rfl rfl rfl dX0_transact_10 ?_
      refine lv_icmp_ge (tgt := 68) hx hb dX0_transact_11 (by decide) (fun h => absurd h (nI_ge (by omega) (by decide))) (fun _ => ?_)
      refine lv_aload_n hx hb dX0_transact_14 rfl (lv_at hl 1 rfl) ?_
      refine lv_iload_n hx hb dX0_transact_15 rfl (lv_at hl 2 rfl) ?_
      refine yr_iald hx hb hK hP 3 0 (f := tg) (j := i) rfl rfl rfl (by omega) (by decide) dX0_transact_16 ?_
      refine lv_bipush (v := (-2)) hx hb dX0_transact_17 (by decide) ?_
      refine lv_icmp_eq (tgt := 62) hx hb dX0_transact_19 (by decide) (fun h6 => ?_) (fun h6 => ?_)
      · have hf := yt h6 hf
        refine lv_iinc (k := 2) (v := (nI (i + 1))) (lv' := [(2, .int (nI (i + 1))), (0, .ref (na 0)), (1, .ref (xa 3))]) hx hb dX0_transact_62 hl rfl (yy_inc _) (by decide) rfl (fun ls hl => ?_)
        refine lv_goto (tgt := 2) hx hb dX0_transact_65 (by decide) ?_
        exact ih (i + 1) nd _ _ _ (by omega) hf (lv_sub hl [1, 2, 0] rfl) hP hD hS
      · have hf := yf h6 hf
        refine lv_aload_n hx hb dX0_transact_22 rfl (lv_at hl 1 rfl) ?_
        refine lv_iload_n hx hb dX0_transact_23 rfl (lv_at hl 2 rfl) ?_
        refine yr_iald hx hb hK hP 3 0 (f := tg) (j := i) rfl rfl rfl (by omega) (by decide) dX0_transact_24 ?_
        refine lv_aload_n hx hb dX0_transact_25 rfl (lv_at hl 0 rfl) ?_
        refine va_get (D := D) (ci := 0) (v := .ref (na 1)) (C := RX0) (T := TX0) (N := 7) hx hb hts (yy_tl inX0) hown hK hP 0 rfl rfl 0 (by decide) (hw _ wq_83) (fun _ h9 => h9) rfl dX0_transact_26 ?_
        refine lv_iload_n hx hb dX0_transact_29 rfl (lv_at hl 2 rfl) ?_
        refine yr_iald hx hb hK hP 1 0 (f := nd.1) (j := i) rfl rfl rfl (by omega) (by decide) dX0_transact_30 ?_
        refine lv_icmp_eq (tgt := 62) hx hb dX0_transact_31 (by decide) (fun h7 => ?_) (fun h7 => ?_)
        · have hf := yt h7 hf
          refine lv_iinc (k := 2) (v := (nI (i + 1))) (lv' := [(2, .int (nI (i + 1))), (0, .ref (na 0)), (1, .ref (xa 3))]) hx hb dX0_transact_62 hl rfl (yy_inc _) (by decide) rfl (fun ls hl => ?_)
          refine lv_goto (tgt := 2) hx hb dX0_transact_65 (by decide) ?_
          exact ih (i + 1) nd _ _ _ (by omega) hf (lv_sub hl [1, 2, 0] rfl) hP hD hS
        · have hf := yf h7 hf
          refine lv_aload_n hx hb dX0_transact_34 rfl (lv_at hl 0 rfl) ?_
          obtain ⟨r8, er8⟩ : ∃ r, r = nd_write nd := ⟨_, rfl⟩
          have hf := yb_e er8 hf
          refine yz_callV (As := []) (rest := []) ⟨hx, hb, hml, hown, hts⟩ (c_nd_write l D cI cJ cZ cN na nd  r8 er8) ⟨callB_of 0 hts (yy_good wq_198) rfl rfl rfl (hw _ wq_36) (hw _ wq_259) (by decide +kernel) ⟨Nat.le_of_ble_eq_true rfl, Nat.le_of_ble_eq_true rfl⟩, hw _ wq_196, hw _ wq_197⟩ hK hN hP hD hS hA [0, 1, 2] rfl (by decide) rfl 3 rfl (w2 := (ndW cI na r8.2 ++ tgW cI xa tg)) rfl 0 rfl rfl rfl hl.1 rfl (Nat.le_of_ble_eq_true rfl) dX0_transact_35 ⟨Nat.zero_le _, Nat.zero_le _⟩ (fun H locs hP hD hS => ?_)
          refine W.eq (g2 := F0 m 38 ls [.int (yB r8.1)]) rfl ?_
          refine lv_if_ne (tgt := 43) hx hb dX0_transact_38 (by decide) (fun h9 => ?_) (fun h9 => ?_)
          · have h9 := yB_1 h9
            have hf := yBt h9 hf
            refine lv_aload_n hx hb dX0_transact_43 rfl (lv_at hl 0 rfl) ?_
            refine va_get (D := D) (ci := 0) (v := .ref (na 2)) (C := RX0) (T := TX0) (N := 7) hx hb hts (yy_tl inX0) hown hK hP 0 rfl rfl 1 (by decide) (hw _ wq_84) (fun _ h9 => h9) rfl dX0_transact_44 ?_
            refine lv_iload_n hx hb dX0_transact_47 rfl (lv_at hl 2 rfl) ?_
            refine lv_aload_n hx hb dX0_transact_48 rfl (lv_at hl 1 rfl) ?_
            refine lv_iload_n hx hb dX0_transact_49 rfl (lv_at hl 2 rfl) ?_
            refine yr_iald hx hb hK hP 3 0 (f := tg) (j := i) rfl rfl rfl (by omega) (by decide) dX0_transact_50 ?_
            refine yr_iast hx hb hK hP hD hS 2 0 (f := r8.2.2.1) (j := i) rfl rfl rfl (by omega) (by decide) dX0_transact_51 (fun H locs hP hD hS => ?_)
            have hP : va_P D vwCl (ndW cI na (r8.2.1, upd r8.2.2.1 i (tg i), r8.2.2.2.1, r8.2.2.2.2.1, r8.2.2.2.2.2.1, r8.2.2.2.2.2.2.1, r8.2.2.2.2.2.2.2) ++ tgW cI xa tg) H := hP
            have hD : va_D A (ndW cI na (r8.2.1, upd r8.2.2.1 i (tg i), r8.2.2.2.1, r8.2.2.2.2.1, r8.2.2.2.2.2.1, r8.2.2.2.2.2.2.1, r8.2.2.2.2.2.2.2) ++ tgW cI xa tg) := hD
            refine lv_aload_n hx hb dX0_transact_52 rfl (lv_at hl 0 rfl) ?_
            refine lv_dup hx hb dX0_transact_53 rfl ?_
            refine va_get (D := D) (ci := 0) (v := .int r8.2.2.2.1) (C := RX0) (T := TX0) (N := 7) hx hb hts (yy_tl inX0) hown hK hP 0 rfl rfl 2 (by decide) (hw _ wq_85) (fun _ h9 => h9) rfl dX0_transact_54 ?_
            refine lv_iconst (v := 1) hx hb dX0_transact_57 (by decide) ?_
            refine lv_iadd hx hb dX0_transact_58 ?_
            refine va_put (D := D) (ci := 0) (v := .int (r8.2.2.2.1 + 1)) (ty := .int) (C := RX0) (T := TX0) (N := 7) hx hb hts (yy_tl inX0) tyX0 tyX0_ok nX0 hown hK hP hD hS 0 rfl rfl 2 (by decide) (hw _ wq_85) (fun _ h9 => h9) rfl (by decide +kernel) rfl rfl (Nat.le_of_ble_eq_true rfl) dX0_transact_59 (fun H locs hP hD hS => ?_)
            have hP : va_P D vwCl (ndW cI na (r8.2.1, upd r8.2.2.1 i (tg i), (r8.2.2.2.1 + 1), r8.2.2.2.2.1, r8.2.2.2.2.2.1, r8.2.2.2.2.2.2.1, r8.2.2.2.2.2.2.2) ++ tgW cI xa tg) H := hP
            have hD : va_D A (ndW cI na (r8.2.1, upd r8.2.2.1 i (tg i), (r8.2.2.2.1 + 1), r8.2.2.2.2.1, r8.2.2.2.2.2.1, r8.2.2.2.2.2.2.1, r8.2.2.2.2.2.2.2) ++ tgW cI xa tg) := hD
            refine lv_iinc (k := 2) (v := (nI (i + 1))) (lv' := [(2, .int (nI (i + 1))), (0, .ref (na 0)), (1, .ref (xa 3))]) hx hb dX0_transact_62 hl rfl (yy_inc _) (by decide) rfl (fun ls hl => ?_)
            refine lv_goto (tgt := 2) hx hb dX0_transact_65 (by decide) ?_
            exact ih (i + 1) (r8.2.1, upd r8.2.2.1 i (tg i), (r8.2.2.2.1 + 1), r8.2.2.2.2.1, r8.2.2.2.2.2.1, r8.2.2.2.2.2.2.1, r8.2.2.2.2.2.2.2) _ _ _ (by omega) hf (lv_sub hl [1, 2, 0] rfl) hP hD hS
          · have h9 := yB_0.mp h9
            have hf := yBf h9 hf
            refine lv_iconst (v := 0) hx hb dX0_transact_41 (by decide) ?_
            subst hf
            exact yy_zret (v := yB false) hx hb hr (yB_n _) hP hK hS hlocks dX0_transact_42
  rw [nd_transact] at hf
  refine lv_iconst (v := (nI 0)) hx hb dX0_transact_0 (by decide) ?_
  refine lv_istore_n (lv' := [(2, .int (nI 0)), (0, .ref (na 0)), (1, .ref (xa 3))]) hx hb dX0_transact_1 rfl hl (by decide) rfl (fun ls hl => ?_)
  exact hL2 8 0 nd _ _ _ (by omega) hf (lv_sub hl [1, 2, 0] rfl) hP hD hS

set_option maxHeartbeats 4000000 in
set_option maxRecDepth 100000 in
theorem c_nd_restore (l : Launch) (D : va_G) (cI cJ cZ cN : ClassId) (na : Nat → Nat) (nd : NS)  (res : Int32 × NS) (hf : res = nd_restore nd) : yy_Met l yX0_restore wsX0_restore { frames := 3, cells := 0, slots := 0, locals := 62 } D vwCl (yT cI cJ cZ cN) [.ref (na 0)] (ndW cI na nd) (some (.int res.1)) (ndW cI na res.2) := by
  intro sz
  refine Met.ofW (cc := cX0_restore) (maxL := 3) (ret := (some .int)) (by decide) rfl ?_
  intro p e s m args below meth c s₁ B hml hv
  obtain ⟨rfl, hsz, hP, hK, hD0, hN⟩ := hv
  have hx := B.exec
  have hb := B.bytes
  have hr := B.returns
  have hts := atoms_spec (ws := wsX0_restore) B.pre
  have hw : ∀ w ∈ yW, w.before _ s = true := fun w h => hts w (List.mem_cons_of_mem _ h)
  have hown : s.vm.findClass RX0 = some m.cls := findClass_of_methodNamed B.named
  have hlocks := B.notSynchronized
  subst hsz
  have hD := hD0.self (sz := s.heap.size)
  generalize hAe : va_A (ndW cI na nd) s.heap.size = A at hD ⊢
  have hA : ∀ q : Nat, s.heap.size ≤ q → A q := fun q h => by rw [← hAe]; exact Or.inr h
  have hS : va_S A s.heap s.heap [] := va_S.rf
  have hl := lv_entry ([.ref (na 0)]) (n := 3) (Nat.le_of_ble_eq_true rfl)
  rw [lg_entry_eq]
  generalize (lg_sl ([.ref (na 0)]) ++ List.replicate (3 - (lg_sl ([.ref (na 0)])).length) Slot.unset).toArray = ls at hl ⊢
  have hl : lv_has ls 3 [(0, .ref (na 0))] := hl
  rw [nd_restore] at hf
  refine lv_aload_n hx hb dX0_restore_0 rfl (lv_at hl 0 rfl) ?_
  refine va_get (D := D) (ci := 0) (v := .int (yB nd.2.2.2.1)) (C := RX0) (T := TX0) (N := 7) hx hb hts (yy_tl inX0) hown hK hP 0 rfl rfl 3 (by decide) (hw _ wq_86) (fun _ h9 => h9) rfl dX0_restore_1 ?_
  refine lv_if_eq (tgt := 14) hx hb dX0_restore_4 (by decide) (fun h1 => ?_) (fun h1 => ?_)
  · have h1 := yB_0.mp h1
    have hf := yBf h1 hf
    refine lv_iconst (v := 0) hx hb dX0_restore_14 (by decide) ?_
    refine lv_istore_n (lv' := [(1, .int 0), (0, .ref (na 0))]) hx hb dX0_restore_15 rfl hl (by decide) rfl (fun ls hl => ?_)
    refine lv_aload_n hx hb dX0_restore_16 rfl (lv_at hl 1 rfl) ?_
    refine va_get (D := D) (ci := 0) (v := .int (yB nd.2.2.2.1)) (C := RX0) (T := TX0) (N := 7) hx hb hts (yy_tl inX0) hown hK hP 0 rfl rfl 3 (by decide) (hw _ wq_86) (fun _ h9 => h9) rfl dX0_restore_17 ?_
    refine lv_if_eq (tgt := 30) hx hb dX0_restore_20 (by decide) (fun _ => ?_) (fun h => absurd (by rw [h1]; decide) h)
    refine lv_aload_n hx hb dX0_restore_30 rfl (lv_at hl 1 rfl) ?_
    refine va_get (D := D) (ci := 0) (v := .int nd.2.2.1) (C := RX0) (T := TX0) (N := 7) hx hb hts (yy_tl inX0) hown hK hP 0 rfl rfl 2 (by decide) (hw _ wq_85) (fun _ h9 => h9) rfl dX0_restore_31 ?_
    refine lv_if_eq (tgt := 44) hx hb dX0_restore_34 (by decide) (fun h3 => ?_) (fun h3 => ?_)
    · have hf := yt h3 hf
      refine lv_iconst (v := 1) hx hb dX0_restore_44 (by decide) ?_
      refine lv_goto (tgt := 49) hx hb dX0_restore_45 (by decide) ?_
      refine lv_istore_n (lv' := [(2, .int 1), (1, .int 0), (0, .ref (na 0))]) hx hb dX0_restore_49 rfl hl (by decide) rfl (fun ls hl => ?_)
      refine lv_iload_n hx hb dX0_restore_50 rfl (lv_at hl 0 rfl) ?_
      refine lv_if_ne (tgt := 57) hx hb dX0_restore_51 (by decide) (fun _ => ?_) (fun h => absurd h (by decide))
      refine lv_aload_n hx hb dX0_restore_57 rfl (lv_at hl 2 rfl) ?_
      refine lv_iconst (v := 1) hx hb dX0_restore_58 (by decide) ?_
      refine va_put (D := D) (ci := 0) (v := .int (yB true)) (ty := .boolean) (C := RX0) (T := TX0) (N := 7) hx hb hts (yy_tl inX0) tyX0 tyX0_ok nX0 hown hK hP hD hS 0 rfl rfl 5 (by decide) (hw _ wq_88) (fun _ h9 => h9) rfl (by decide +kernel) (yB_n _) (yB_fit _) (Nat.le_of_ble_eq_true rfl) dX0_restore_59 (fun H locs hP hD hS => ?_)
      have hP : va_P D vwCl (ndW cI na (nd.1, nd.2.1, nd.2.2.1, nd.2.2.2.1, nd.2.2.2.2.1, true, nd.2.2.2.2.2.2)) H := hP
      have hD : va_D A (ndW cI na (nd.1, nd.2.1, nd.2.2.1, nd.2.2.2.1, nd.2.2.2.2.1, true, nd.2.2.2.2.2.2)) := hD
      refine lv_iload_n hx hb dX0_restore_62 rfl (lv_at hl 1 rfl) ?_
      subst hf
      exact yy_iret (v := 0) hx hb hr hP hK hS hlocks dX0_restore_63
    · have hf := yf h3 hf
      refine lv_aload_n hx hb dX0_restore_37 rfl (lv_at hl 1 rfl) ?_
      obtain ⟨r5, er5⟩ : ∃ r, r = nd_emptyLog nd := ⟨_, rfl⟩
      have hf := yb_e er5 hf
      refine yz_callV (As := []) (rest := []) ⟨hx, hb, hml, hown, hts⟩ (c_nd_emptyLog l D cI cJ cZ cN na nd  r5 er5) ⟨callB_of 0 hts (yy_good wq_267) rfl rfl rfl (hw _ wq_36) (hw _ wq_264) (by decide +kernel) ⟨Nat.le_of_ble_eq_true rfl, Nat.le_of_ble_eq_true rfl⟩, hw _ wq_266, hw _ wq_8⟩ hK hN hP hD hS hA [0, 1, 2] rfl (by decide) rfl 3 rfl (w2 := (ndW cI na r5.2)) rfl 0 rfl rfl rfl hl.1 rfl (Nat.le_of_ble_eq_true rfl) dX0_restore_38 ⟨Nat.zero_le _, Nat.zero_le _⟩ (fun H locs hP hD hS => ?_)
      refine W.eq (g2 := F0 m 41 ls [.int (yB r5.1)]) rfl ?_
      refine lv_if_eq (tgt := 48) hx hb dX0_restore_41 (by decide) (fun h6 => ?_) (fun h6 => ?_)
      · have h6 := yB_0.mp h6
        have hf := yBf h6 hf
        refine lv_iconst (v := 0) hx hb dX0_restore_48 (by decide) ?_
        refine lv_istore_n (lv' := [(2, .int 0), (1, .int 0), (0, .ref (na 0))]) hx hb dX0_restore_49 rfl hl (by decide) rfl (fun ls hl => ?_)
        refine lv_iload_n hx hb dX0_restore_50 rfl (lv_at hl 0 rfl) ?_
        refine lv_if_ne (tgt := 57) hx hb dX0_restore_51 (by decide) (fun h => absurd h (by decide)) (fun _ => ?_)
        refine lv_bipush (v := (-2)) hx hb dX0_restore_54 (by decide) ?_
        subst hf
        exact yy_iret (v := (-2)) hx hb hr hP hK hS hlocks dX0_restore_56
      · have h6 := yB_1 h6
        have hf := yBt h6 hf
        refine lv_iconst (v := 1) hx hb dX0_restore_44 (by decide) ?_
        refine lv_goto (tgt := 49) hx hb dX0_restore_45 (by decide) ?_
        refine lv_istore_n (lv' := [(2, .int 1), (1, .int 0), (0, .ref (na 0))]) hx hb dX0_restore_49 rfl hl (by decide) rfl (fun ls hl => ?_)
        refine lv_iload_n hx hb dX0_restore_50 rfl (lv_at hl 0 rfl) ?_
        refine lv_if_ne (tgt := 57) hx hb dX0_restore_51 (by decide) (fun _ => ?_) (fun h => absurd h (by decide))
        refine lv_aload_n hx hb dX0_restore_57 rfl (lv_at hl 2 rfl) ?_
        refine lv_iconst (v := 1) hx hb dX0_restore_58 (by decide) ?_
        refine va_put (D := D) (ci := 0) (v := .int (yB true)) (ty := .boolean) (C := RX0) (T := TX0) (N := 7) hx hb hts (yy_tl inX0) tyX0 tyX0_ok nX0 hown hK hP hD hS 0 rfl rfl 5 (by decide) (hw _ wq_88) (fun _ h9 => h9) rfl (by decide +kernel) (yB_n _) (yB_fit _) (Nat.le_of_ble_eq_true rfl) dX0_restore_59 (fun H locs hP hD hS => ?_)
        have hP : va_P D vwCl (ndW cI na (r5.2.1, r5.2.2.1, r5.2.2.2.1, r5.2.2.2.2.1, r5.2.2.2.2.2.1, true, r5.2.2.2.2.2.2.2)) H := hP
        have hD : va_D A (ndW cI na (r5.2.1, r5.2.2.1, r5.2.2.2.1, r5.2.2.2.2.1, r5.2.2.2.2.2.1, true, r5.2.2.2.2.2.2.2)) := hD
        refine lv_iload_n hx hb dX0_restore_62 rfl (lv_at hl 1 rfl) ?_
        subst hf
        exact yy_iret (v := 0) hx hb hr hP hK hS hlocks dX0_restore_63
  · have h1 := yB_1 h1
    have hf := yBt h1 hf
    refine lv_aload_n hx hb dX0_restore_7 rfl (lv_at hl 0 rfl) ?_
    refine va_get (D := D) (ci := 0) (v := .int nd.2.2.1) (C := RX0) (T := TX0) (N := 7) hx hb hts (yy_tl inX0) hown hK hP 0 rfl rfl 2 (by decide) (hw _ wq_85) (fun _ h9 => h9) rfl dX0_restore_8 ?_
    refine lv_goto (tgt := 15) hx hb dX0_restore_11 (by decide) ?_
    refine lv_istore_n (lv' := [(1, .int nd.2.2.1), (0, .ref (na 0))]) hx hb dX0_restore_15 rfl hl (by decide) rfl (fun ls hl => ?_)
    refine lv_aload_n hx hb dX0_restore_16 rfl (lv_at hl 1 rfl) ?_
    refine va_get (D := D) (ci := 0) (v := .int (yB nd.2.2.2.1)) (C := RX0) (T := TX0) (N := 7) hx hb hts (yy_tl inX0) hown hK hP 0 rfl rfl 3 (by decide) (hw _ wq_86) (fun _ h9 => h9) rfl dX0_restore_17 ?_
    refine lv_if_eq (tgt := 30) hx hb dX0_restore_20 (by decide) (fun h => absurd h (by rw [h1]; decide)) (fun _ => ?_)
    refine lv_aload_n hx hb dX0_restore_23 rfl (lv_at hl 1 rfl) ?_
    obtain ⟨r10, er10⟩ : ∃ r, r = nd_carryOutLog nd := ⟨_, rfl⟩
    have hf := yb_e er10 hf
    refine yz_callV (As := []) (rest := []) ⟨hx, hb, hml, hown, hts⟩ (c_nd_carryOutLog l D cI cJ cZ cN na nd  r10 er10) ⟨callB_of 0 hts (yy_good wq_263) rfl rfl rfl (hw _ wq_36) (hw _ wq_260) (by decide +kernel) ⟨Nat.le_of_ble_eq_true rfl, Nat.le_of_ble_eq_true rfl⟩, hw _ wq_262, hw _ wq_7⟩ hK hN hP hD hS hA [0, 1, 2] rfl (by decide) rfl 3 rfl (w2 := (ndW cI na r10.2)) rfl 0 rfl rfl rfl hl.1 rfl (Nat.le_of_ble_eq_true rfl) dX0_restore_24 ⟨Nat.zero_le _, Nat.zero_le _⟩ (fun H locs hP hD hS => ?_)
    refine W.eq (g2 := F0 m 27 ls [.int (yB r10.1)]) rfl ?_
    refine lv_goto (tgt := 49) hx hb dX0_restore_27 (by decide) ?_
    refine lv_istore_n (lv' := [(2, .int (yB r10.1)), (1, .int nd.2.2.1), (0, .ref (na 0))]) hx hb dX0_restore_49 rfl hl (by decide) rfl (fun ls hl => ?_)
    refine lv_iload_n hx hb dX0_restore_50 rfl (lv_at hl 0 rfl) ?_
    refine lv_if_ne (tgt := 57) hx hb dX0_restore_51 (by decide) (fun h11 => ?_) (fun h11 => ?_)
    · have h11 := yB_1 h11
      have hf := yBt h11 hf
      refine lv_aload_n hx hb dX0_restore_57 rfl (lv_at hl 2 rfl) ?_
      refine lv_iconst (v := 1) hx hb dX0_restore_58 (by decide) ?_
      refine va_put (D := D) (ci := 0) (v := .int (yB true)) (ty := .boolean) (C := RX0) (T := TX0) (N := 7) hx hb hts (yy_tl inX0) tyX0 tyX0_ok nX0 hown hK hP hD hS 0 rfl rfl 5 (by decide) (hw _ wq_88) (fun _ h9 => h9) rfl (by decide +kernel) (yB_n _) (yB_fit _) (Nat.le_of_ble_eq_true rfl) dX0_restore_59 (fun H locs hP hD hS => ?_)
      have hP : va_P D vwCl (ndW cI na (r10.2.1, r10.2.2.1, r10.2.2.2.1, r10.2.2.2.2.1, r10.2.2.2.2.2.1, true, r10.2.2.2.2.2.2.2)) H := hP
      have hD : va_D A (ndW cI na (r10.2.1, r10.2.2.1, r10.2.2.2.1, r10.2.2.2.2.1, r10.2.2.2.2.2.1, true, r10.2.2.2.2.2.2.2)) := hD
      refine lv_iload_n hx hb dX0_restore_62 rfl (lv_at hl 1 rfl) ?_
      subst hf
      exact yy_iret (v := nd.2.2.1) hx hb hr hP hK hS hlocks dX0_restore_63
    · have h11 := yB_0.mp h11
      have hf := yBf h11 hf
      refine lv_bipush (v := (-2)) hx hb dX0_restore_54 (by decide) ?_
      subst hf
      exact yy_iret (v := (-2)) hx hb hr hP hK hS hlocks dX0_restore_56
