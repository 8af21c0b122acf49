set_option maxHeartbeats 4000000 in
set_option maxRecDepth 100000 in
theorem c_tk_init (l : Launch) (D : va_G) (cI cJ cZ cN : ClassId) (a0 : Nat) : yy_New l yX3_init wsX3_init { frames := 1, cells := 0, slots := 0, locals := 12 } D vwCl (yT cI cJ cZ cN) [.ref a0] ([(a0, .inr (3, [.int 0, .int 0, .int 0]))] : va_W) (fun ad => a0 = ad 0) (fun AD => tkW AD tk_init) 0 0 := by
  intro sz
  refine Met.ofW (cc := cX3_init) (maxL := 1) (ret := none) (by decide) rfl ?_
  intro p e s m args below meth c s₁ B hml hv
  obtain ⟨rfl, hsz, hP, hK, hD0, hN⟩ := hv
  have hx := B.exec
  have hb := B.bytes
  have hr := B.returns
  have hts := atoms_spec (ws := wsX3_init) B.pre
  have hw : ∀ w ∈ yW, w.before _ s = true := fun w h => hts w (List.mem_cons_of_mem _ h)
  have hown : s.vm.findClass RX3 = some m.cls := findClass_of_methodNamed B.named
  have hlocks := B.notSynchronized
  have hin : meth.name = "<init>" := (name_of_methodNamed B.named B.method).1
  subst hsz
  have hD := hD0.self (sz := s.heap.size)
  generalize hAe : va_A ([(a0, .inr (3, [.int 0, .int 0, .int 0]))] : va_W) s.heap.size = A at hD ⊢
  have hA : ∀ q : Nat, s.heap.size ≤ q → A q := fun q h => by rw [← hAe]; exact Or.inr h
  have hS : va_S A s.heap s.heap [] := va_S.rf
  have hl := lv_entry ([.ref a0]) (n := 1) (Nat.le_of_ble_eq_true rfl)
  rw [lg_entry_eq]
  generalize (lg_sl ([.ref a0]) ++ List.replicate (1 - (lg_sl ([.ref a0])).length) Slot.unset).toArray = ls at hl ⊢
  have hl : lv_has ls 1 [(0, .ref a0)] := hl
  refine lv_aload_n hx hb dX3_init_0 rfl (lv_at hl 0 rfl) ?_
  refine W.objInit hx hb hown (hw _ wq_110) (hw _ wq_47) (hw _ wq_48) rfl (by rw [hml]; exact hl.1) rfl dX3_init_1 (Nat.le_of_ble_eq_true rfl) (Nat.le_of_ble_eq_true rfl) ?_
  refine W.eq (g2 := F0 m 4 ls []) rfl ?_
  refine lv_aload_n hx hb dX3_init_4 rfl (lv_at hl 0 rfl) ?_
  refine lv_iconst (v := 0) hx hb dX3_init_5 (by decide) ?_
  refine va_put (D := D) (ci := 3) (v := .int 0) (ty := .int) (C := RX3) (T := TX3) (N := 3) hx hb hts (yy_tl inX3) tyX3 tyX3_ok nX3 hown hK hP hD hS 0 rfl rfl 0 (by decide) (hw _ wq_111) (fun _ h9 => h9) rfl (by decide +kernel) rfl rfl (Nat.le_of_ble_eq_true rfl) dX3_init_6 (fun H locs hP hD hS => ?_)
  have hP : va_P D vwCl ([(a0, .inr (3, [.int 0, .int 0, .int 0]))] : va_W) H := hP
  have hD : va_D A ([(a0, .inr (3, [.int 0, .int 0, .int 0]))] : va_W) := hD
  refine lv_aload_n hx hb dX3_init_9 rfl (lv_at hl 0 rfl) ?_
  refine lv_iconst (v := 0) hx hb dX3_init_10 (by decide) ?_
  refine va_put (D := D) (ci := 3) (v := .int 0) (ty := .int) (C := RX3) (T := TX3) (N := 3) hx hb hts (yy_tl inX3) tyX3 tyX3_ok nX3 hown hK hP hD hS 0 rfl rfl 1 (by decide) (hw _ wq_112) (fun _ h9 => h9) rfl (by decide +kernel) rfl rfl (Nat.le_of_ble_eq_true rfl) dX3_init_11 (fun H locs hP hD hS => ?_)
  have hP : va_P D vwCl ([(a0, .inr (3, [.int 0, .int 0, .int 0]))] : va_W) H := hP
  have hD : va_D A ([(a0, .inr (3, [.int 0, .int 0, .int 0]))] : va_W) := hD
  refine lv_aload_n hx hb dX3_init_14 rfl (lv_at hl 0 rfl) ?_
  refine lv_iconst (v := 0) hx hb dX3_init_15 (by decide) ?_
  refine va_put (D := D) (ci := 3) (v := .int 0) (ty := .int) (C := RX3) (T := TX3) (N := 3) hx hb hts (yy_tl inX3) tyX3 tyX3_ok nX3 hown hK hP hD hS 0 rfl rfl 2 (by decide) (hw _ wq_113) (fun _ h9 => h9) rfl (by decide +kernel) rfl rfl (Nat.le_of_ble_eq_true rfl) dX3_init_16 (fun H locs hP hD hS => ?_)
  have hP : va_P D vwCl ([(a0, .inr (3, [.int 0, .int 0, .int 0]))] : va_W) H := hP
  have hD : va_D A ([(a0, .inr (3, [.int 0, .int 0, .int 0]))] : va_W) := hD
  refine W.widen (k := 0) (n := 0) (Nat.le_of_ble_eq_true rfl) (Nat.le_of_ble_eq_true rfl) ?_
  exact yy_vretN (ad := fun j => ([a0] : List Nat).getD j 0) hx hb hr rfl hP hD hK hS hlocks dX3_init_19
