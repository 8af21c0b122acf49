set_option maxHeartbeats 4000000 in
set_option maxRecDepth 100000 in
theorem c_nd_init (l : Launch) (D : va_G) (cI cJ cZ cN : ClassId) (a0 : Nat) : yy_New l yX0_init wsX0_init { frames := 1, cells := 2, slots := 16, locals := 12 } D vwCl (yT cI cJ cZ cN) [.ref a0] ([(a0, .inr (0, [.null, .null, .int 0, .int 0, .long 0, .int 0, .int 0]))] : va_W) (fun ad => a0 = ad 0) (fun AD => ndW cI AD nd_init) 2 16 := by
  intro sz
  refine Met.ofW (cc := cX0_init) (maxL := 2) (ret := none) (by decide) rfl ?_
  intro p e s m args below meth c s₁ B hml hv
  obtain ⟨rfl, hsz, hP, hK, hD0, hN⟩ := hv
  have hx := B.exec
  have hb := B.bytes
  have hr := B.returns
  have hts := atoms_spec (ws := wsX0_init) B.pre
  have hw : ∀ w ∈ yW, w.before _ s = true := fun w h => hts w (List.mem_cons_of_mem _ h)
  have hown : s.vm.findClass RX0 = some m.cls := findClass_of_methodNamed B.named
  have hlocks := B.notSynchronized
  have hin : meth.name = "<init>" := (name_of_methodNamed B.named B.method).1
  subst hsz
  have hD := hD0.self (sz := s.heap.size)
  generalize hAe : va_A ([(a0, .inr (0, [.null, .null, .int 0, .int 0, .long 0, .int 0, .int 0]))] : va_W) s.heap.size = A at hD ⊢
  have hA : ∀ q : Nat, s.heap.size ≤ q → A q := fun q h => by rw [← hAe]; exact Or.inr h
  have hS : va_S A s.heap s.heap [] := va_S.rf
  have hl := lv_entry ([.ref a0]) (n := 2) (Nat.le_of_ble_eq_true rfl)
  rw [lg_entry_eq]
  generalize (lg_sl ([.ref a0]) ++ List.replicate (2 - (lg_sl ([.ref a0])).length) Slot.unset).toArray = ls at hl ⊢
  have hl : lv_has ls 2 [(0, .ref a0)] := hl
  refine lv_aload_n hx hb dX0_init_0 rfl (lv_at hl 0 rfl) ?_
  refine W.objInit hx hb hown (hw _ wq_82) (hw _ wq_47) (hw _ wq_48) rfl (by rw [hml]; exact hl.1) rfl dX0_init_1 (Nat.le_of_ble_eq_true rfl) (Nat.le_of_ble_eq_true rfl) ?_
  refine W.eq (g2 := F0 m 4 ls []) rfl ?_
  refine lv_aload_n hx hb dX0_init_4 rfl (lv_at hl 0 rfl) ?_
  refine lv_bipush (v := 8) hx hb dX0_init_5 (by decide) ?_
  refine yy_newa (atype := .int) (a0 := (8, .inl (fun _ => 0))) (N' := 8) (t0 := 0) hx hb (hw _ wq_74) rfl hK rfl hP hD hS hA (fun _ => rfl) (by decide) (by decide) (by decide) (Nat.le_of_ble_eq_true rfl) (Nat.le_of_ble_eq_true rfl) dX0_init_7 (fun q7 H hP hD hS => ?_)
  have hP : va_P D vwCl ([(a0, .inr (0, [.null, .null, .int 0, .int 0, .long 0, .int 0, .int 0])), (q7, .inl (cI, 8, .inl (fun _ => 0)))] : va_W) H := hP
  have hD : va_D A ([(a0, .inr (0, [.null, .null, .int 0, .int 0, .long 0, .int 0, .int 0])), (q7, .inl (cI, 8, .inl (fun _ => 0)))] : va_W) := hD
  refine va_putF (D := D) (ci := 0) (v := .ref q7) (ty := .array .int) (C := RX0) (T := TX0) (N := 7) hx hb hts (yy_tl inX0) tyX0 tyX0_ok nX0 hown hK hP hD hS 0 rfl rfl 0 (by decide) (hw _ wq_83) (fun _ h9 => h9) rfl hin rfl (by decide +kernel) rfl rfl (Nat.le_of_ble_eq_true rfl) dX0_init_9 (fun H locs hP hD hS => ?_)
  have hP : va_P D vwCl ([(a0, .inr (0, [.ref q7, .null, .int 0, .int 0, .long 0, .int 0, .int 0])), (q7, .inl (cI, 8, .inl (fun _ => 0)))] : va_W) H := hP
  have hD : va_D A ([(a0, .inr (0, [.ref q7, .null, .int 0, .int 0, .long 0, .int 0, .int 0])), (q7, .inl (cI, 8, .inl (fun _ => 0)))] : va_W) := hD
  refine lv_aload_n hx hb dX0_init_12 rfl (lv_at hl 0 rfl) ?_
  refine lv_bipush (v := 8) hx hb dX0_init_13 (by decide) ?_
  refine yy_newa (atype := .int) (a0 := (8, .inl (fun _ => 0))) (N' := 8) (t0 := 0) hx hb (hw _ wq_74) rfl hK rfl hP hD hS hA (fun _ => rfl) (by decide) (by decide) (by decide) (Nat.le_of_ble_eq_true rfl) (Nat.le_of_ble_eq_true rfl) dX0_init_15 (fun q15 H hP hD hS => ?_)
  have hP : va_P D vwCl ([(a0, .inr (0, [.ref q7, .null, .int 0, .int 0, .long 0, .int 0, .int 0])), (q7, .inl (cI, 8, .inl (fun _ => 0))), (q15, .inl (cI, 8, .inl (fun _ => 0)))] : va_W) H := hP
  have hD : va_D A ([(a0, .inr (0, [.ref q7, .null, .int 0, .int 0, .long 0, .int 0, .int 0])), (q7, .inl (cI, 8, .inl (fun _ => 0))), (q15, .inl (cI, 8, .inl (fun _ => 0)))] : va_W) := hD
  refine va_putF (D := D) (ci := 0) (v := .ref q15) (ty := .array .int) (C := RX0) (T := TX0) (N := 7) hx hb hts (yy_tl inX0) tyX0 tyX0_ok nX0 hown hK hP hD hS 0 rfl rfl 1 (by decide) (hw _ wq_84) (fun _ h9 => h9) rfl hin rfl (by decide +kernel) rfl rfl (Nat.le_of_ble_eq_true rfl) dX0_init_17 (fun H locs hP hD hS => ?_)
  have hP : va_P D vwCl ([(a0, .inr (0, [.ref q7, .ref q15, .int 0, .int 0, .long 0, .int 0, .int 0])), (q7, .inl (cI, 8, .inl (fun _ => 0))), (q15, .inl (cI, 8, .inl (fun _ => 0)))] : va_W) H := hP
  have hD : va_D A ([(a0, .inr (0, [.ref q7, .ref q15, .int 0, .int 0, .long 0, .int 0, .int 0])), (q7, .inl (cI, 8, .inl (fun _ => 0))), (q15, .inl (cI, 8, .inl (fun _ => 0)))] : va_W) := hD
  refine lv_aload_n hx hb dX0_init_20 rfl (lv_at hl 0 rfl) ?_
  refine lv_iconst (v := 0) hx hb dX0_init_21 (by decide) ?_
  refine va_put (D := D) (ci := 0) (v := .int 0) (ty := .int) (C := RX0) (T := TX0) (N := 7) hx hb hts (yy_tl inX0) tyX0 tyX0_ok nX0 hown hK hP hD hS 0 rfl rfl 2 (by decide) (hw _ wq_85) (fun _ h9 => h9) rfl (by decide +kernel) rfl rfl (Nat.le_of_ble_eq_true rfl) dX0_init_22 (fun H locs hP hD hS => ?_)
  have hP : va_P D vwCl ([(a0, .inr (0, [.ref q7, .ref q15, .int 0, .int 0, .long 0, .int 0, .int 0])), (q7, .inl (cI, 8, .inl (fun _ => 0))), (q15, .inl (cI, 8, .inl (fun _ => 0)))] : va_W) H := hP
  have hD : va_D A ([(a0, .inr (0, [.ref q7, .ref q15, .int 0, .int 0, .long 0, .int 0, .int 0])), (q7, .inl (cI, 8, .inl (fun _ => 0))), (q15, .inl (cI, 8, .inl (fun _ => 0)))] : va_W) := hD
  refine lv_aload_n hx hb dX0_init_25 rfl (lv_at hl 0 rfl) ?_
  refine lv_iconst (v := 0) hx hb dX0_init_26 (by decide) ?_
  refine va_put (D := D) (ci := 0) (v := .int 0) (ty := .boolean) (C := RX0) (T := TX0) (N := 7) hx hb hts (yy_tl inX0) tyX0 tyX0_ok nX0 hown hK hP hD hS 0 rfl rfl 3 (by decide) (hw _ wq_86) (fun _ h9 => h9) rfl (by decide +kernel) rfl rfl (Nat.le_of_ble_eq_true rfl) dX0_init_27 (fun H locs hP hD hS => ?_)
  have hP : va_P D vwCl ([(a0, .inr (0, [.ref q7, .ref q15, .int 0, .int 0, .long 0, .int 0, .int 0])), (q7, .inl (cI, 8, .inl (fun _ => 0))), (q15, .inl (cI, 8, .inl (fun _ => 0)))] : va_W) H := hP
  have hD : va_D A ([(a0, .inr (0, [.ref q7, .ref q15, .int 0, .int 0, .long 0, .int 0, .int 0])), (q7, .inl (cI, 8, .inl (fun _ => 0))), (q15, .inl (cI, 8, .inl (fun _ => 0)))] : va_W) := hD
  refine lv_aload_n hx hb dX0_init_30 rfl (lv_at hl 0 rfl) ?_
  refine lv_lconst (v := 0) hx hb dX0_init_31 (by decide) ?_
  refine va_put (D := D) (ci := 0) (v := .long 0) (ty := .long) (C := RX0) (T := TX0) (N := 7) hx hb hts (yy_tl inX0) tyX0 tyX0_ok nX0 hown hK hP hD hS 0 rfl rfl 4 (by decide) (hw _ wq_87) (fun _ h9 => h9) rfl (by decide +kernel) rfl rfl (Nat.le_of_ble_eq_true rfl) dX0_init_32 (fun H locs hP hD hS => ?_)
  have hP : va_P D vwCl ([(a0, .inr (0, [.ref q7, .ref q15, .int 0, .int 0, .long 0, .int 0, .int 0])), (q7, .inl (cI, 8, .inl (fun _ => 0))), (q15, .inl (cI, 8, .inl (fun _ => 0)))] : va_W) H := hP
  have hD : va_D A ([(a0, .inr (0, [.ref q7, .ref q15, .int 0, .int 0, .long 0, .int 0, .int 0])), (q7, .inl (cI, 8, .inl (fun _ => 0))), (q15, .inl (cI, 8, .inl (fun _ => 0)))] : va_W) := hD
  refine lv_aload_n hx hb dX0_init_35 rfl (lv_at hl 0 rfl) ?_
  refine lv_iconst (v := 1) hx hb dX0_init_36 (by decide) ?_
  refine va_put (D := D) (ci := 0) (v := .int 1) (ty := .boolean) (C := RX0) (T := TX0) (N := 7) hx hb hts (yy_tl inX0) tyX0 tyX0_ok nX0 hown hK hP hD hS 0 rfl rfl 5 (by decide) (hw _ wq_88) (fun _ h9 => h9) rfl (by decide +kernel) rfl rfl (Nat.le_of_ble_eq_true rfl) dX0_init_37 (fun H locs hP hD hS => ?_)
  have hP : va_P D vwCl ([(a0, .inr (0, [.ref q7, .ref q15, .int 0, .int 0, .long 0, .int 1, .int 0])), (q7, .inl (cI, 8, .inl (fun _ => 0))), (q15, .inl (cI, 8, .inl (fun _ => 0)))] : va_W) H := hP
  have hD : va_D A ([(a0, .inr (0, [.ref q7, .ref q15, .int 0, .int 0, .long 0, .int 1, .int 0])), (q7, .inl (cI, 8, .inl (fun _ => 0))), (q15, .inl (cI, 8, .inl (fun _ => 0)))] : va_W) := hD
  refine lv_aload_n hx hb dX0_init_40 rfl (lv_at hl 0 rfl) ?_
  refine lv_iconst (v := (-1)) hx hb dX0_init_41 (by decide) ?_
  refine va_put (D := D) (ci := 0) (v := .int (-1)) (ty := .int) (C := RX0) (T := TX0) (N := 7) hx hb hts (yy_tl inX0) tyX0 tyX0_ok nX0 hown hK hP hD hS 0 rfl rfl 6 (by decide) (hw _ wq_89) (fun _ h9 => h9) rfl (by decide +kernel) rfl rfl (Nat.le_of_ble_eq_true rfl) dX0_init_42 (fun H locs hP hD hS => ?_)
  have hP : va_P D vwCl ([(a0, .inr (0, [.ref q7, .ref q15, .int 0, .int 0, .long 0, .int 1, .int (-1)])), (q7, .inl (cI, 8, .inl (fun _ => 0))), (q15, .inl (cI, 8, .inl (fun _ => 0)))] : va_W) H := hP
  have hD : va_D A ([(a0, .inr (0, [.ref q7, .ref q15, .int 0, .int 0, .long 0, .int 1, .int (-1)])), (q7, .inl (cI, 8, .inl (fun _ => 0))), (q15, .inl (cI, 8, .inl (fun _ => 0)))] : va_W) := hD
  refine lv_iconst (v := (nI 0)) hx hb dX0_init_45 (by decide) ?_
  refine lv_istore_n (lv' := [(1, .int (nI 0)), (0, .ref a0)]) hx hb dX0_init_46 rfl hl (by decide) rfl (fun ls hl => ?_)
  refine lv_iload_n hx hb dX0_init_47 rfl (lv_at hl 0 rfl) ?_
  refine lv_bipush (v := (nI 8)) hx hb dX0_init_48 (by decide) ?_
  refine lv_icmp_ge (tgt := 74) hx hb dX0_init_50 (by decide) (fun h => absurd h (by decide)) (fun _ => ?_)
  refine lv_aload_n hx hb dX0_init_53 rfl (lv_at hl 1 rfl) ?_
  refine va_get (D := D) (ci := 0) (v := .ref q7) (C := RX0) (T := TX0) (N := 7) hx hb hts (yy_tl inX0) hown hK hP 0 rfl rfl 0 (by decide) (hw _ wq_83) (fun _ h9 => h9) rfl dX0_init_54 ?_
  refine lv_iload_n hx hb dX0_init_57 rfl (lv_at hl 0 rfl) ?_
  refine lv_iconst (v := (-1)) hx hb dX0_init_58 (by decide) ?_
  refine yr_iast hx hb hK hP hD hS 1 0 (f := (fun _ => 0)) (j := 0) rfl rfl rfl (by decide) (by decide) dX0_init_59 (fun H locs hP hD hS => ?_)
  have hP : va_P D vwCl ([(a0, .inr (0, [.ref q7, .ref q15, .int 0, .int 0, .long 0, .int 1, .int (-1)])), (q7, .inl (cI, 8, .inl (upd (fun _ => 0) 0 (-1)))), (q15, .inl (cI, 8, .inl (fun _ => 0)))] : va_W) H := hP
  have hD : va_D A ([(a0, .inr (0, [.ref q7, .ref q15, .int 0, .int 0, .long 0, .int 1, .int (-1)])), (q7, .inl (cI, 8, .inl (upd (fun _ => 0) 0 (-1)))), (q15, .inl (cI, 8, .inl (fun _ => 0)))] : va_W) := hD
  refine lv_aload_n hx hb dX0_init_60 rfl (lv_at hl 1 rfl) ?_
  refine va_get (D := D) (ci := 0) (v := .ref q15) (C := RX0) (T := TX0) (N := 7) hx hb hts (yy_tl inX0) hown hK hP 0 rfl rfl 1 (by decide) (hw _ wq_84) (fun _ h9 => h9) rfl dX0_init_61 ?_
  refine lv_iload_n hx hb dX0_init_64 rfl (lv_at hl 0 rfl) ?_
  refine lv_bipush (v := (-2)) hx hb dX0_init_65 (by decide) ?_
  refine yr_iast hx hb hK hP hD hS 2 0 (f := (fun _ => 0)) (j := 0) rfl rfl rfl (by decide) (by decide) dX0_init_67 (fun H locs hP hD hS => ?_)
  have hP : va_P D vwCl ([(a0, .inr (0, [.ref q7, .ref q15, .int 0, .int 0, .long 0, .int 1, .int (-1)])), (q7, .inl (cI, 8, .inl (upd (fun _ => 0) 0 (-1)))), (q15, .inl (cI, 8, .inl (upd (fun _ => 0) 0 (-2))))] : va_W) H := hP
  have hD : va_D A ([(a0, .inr (0, [.ref q7, .ref q15, .int 0, .int 0, .long 0, .int 1, .int (-1)])), (q7, .inl (cI, 8, .inl (upd (fun _ => 0) 0 (-1)))), (q15, .inl (cI, 8, .inl (upd (fun _ => 0) 0 (-2))))] : va_W) := hD
  refine lv_iinc (k := 0) (v := (nI 1)) (lv' := [(1, .int (nI 1)), (0, .ref a0)]) hx hb dX0_init_68 hl rfl (yy_inc _) (by decide) rfl (fun ls hl => ?_)
  refine lv_goto (tgt := 47) hx hb dX0_init_71 (by decide) ?_
  refine lv_iload_n hx hb dX0_init_47 rfl (lv_at hl 0 rfl) ?_
  refine lv_bipush (v := (nI 8)) hx hb dX0_init_48 (by decide) ?_
  refine lv_icmp_ge (tgt := 74) hx hb dX0_init_50 (by decide) (fun h => absurd h (by decide)) (fun _ => ?_)
  refine lv_aload_n hx hb dX0_init_53 rfl (lv_at hl 1 rfl) ?_
  refine va_get (D := D) (ci := 0) (v := .ref q7) (C := RX0) (T := TX0) (N := 7) hx hb hts (yy_tl inX0) hown hK hP 0 rfl rfl 0 (by decide) (hw _ wq_83) (fun _ h9 => h9) rfl dX0_init_54 ?_
  refine lv_iload_n hx hb dX0_init_57 rfl (lv_at hl 0 rfl) ?_
  refine lv_iconst (v := (-1)) hx hb dX0_init_58 (by decide) ?_
  refine yr_iast hx hb hK hP hD hS 1 0 (f := upd (fun _ => 0) 0 (-1)) (j := 1) rfl rfl rfl (by decide) (by decide) dX0_init_59 (fun H locs hP hD hS => ?_)
  have hP : va_P D vwCl ([(a0, .inr (0, [.ref q7, .ref q15, .int 0, .int 0, .long 0, .int 1, .int (-1)])), (q7, .inl (cI, 8, .inl (upd (upd (fun _ => 0) 0 (-1)) 1 (-1)))), (q15, .inl (cI, 8, .inl (upd (fun _ => 0) 0 (-2))))] : va_W) H := hP
  have hD : va_D A ([(a0, .inr (0, [.ref q7, .ref q15, .int 0, .int 0, .long 0, .int 1, .int (-1)])), (q7, .inl (cI, 8, .inl (upd (upd (fun _ => 0) 0 (-1)) 1 (-1)))), (q15, .inl (cI, 8, .inl (upd (fun _ => 0) 0 (-2))))] : va_W) := hD
  refine lv_aload_n hx hb dX0_init_60 rfl (lv_at hl 1 rfl) ?_
  refine va_get (D := D) (ci := 0) (v := .ref q15) (C := RX0) (T := TX0) (N := 7) hx hb hts (yy_tl inX0) hown hK hP 0 rfl rfl 1 (by decide) (hw _ wq_84) (fun _ h9 => h9) rfl dX0_init_61 ?_
  refine lv_iload_n hx hb dX0_init_64 rfl (lv_at hl 0 rfl) ?_
  refine lv_bipush (v := (-2)) hx hb dX0_init_65 (by decide) ?_
  refine yr_iast hx hb hK hP hD hS 2 0 (f := upd (fun _ => 0) 0 (-2)) (j := 1) rfl rfl rfl (by decide) (by decide) dX0_init_67 (fun H locs hP hD hS => ?_)
  have hP : va_P D vwCl ([(a0, .inr (0, [.ref q7, .ref q15, .int 0, .int 0, .long 0, .int 1, .int (-1)])), (q7, .inl (cI, 8, .inl (upd (upd (fun _ => 0) 0 (-1)) 1 (-1)))), (q15, .inl (cI, 8, .inl (upd (upd (fun _ => 0) 0 (-2)) 1 (-2))))] : va_W) H := hP
  have hD : va_D A ([(a0, .inr (0, [.ref q7, .ref q15, .int 0, .int 0, .long 0, .int 1, .int (-1)])), (q7, .inl (cI, 8, .inl (upd (upd (fun _ => 0) 0 (-1)) 1 (-1)))), (q15, .inl (cI, 8, .inl (upd (upd (fun _ => 0) 0 (-2)) 1 (-2))))] : va_W) := hD
  refine lv_iinc (k := 0) (v := (nI 2)) (lv' := [(1, .int (nI 2)), (0, .ref a0)]) hx hb dX0_init_68 hl rfl (yy_inc _) (by decide) rfl (fun ls hl => ?_)
  refine lv_goto (tgt := 47) hx hb dX0_init_71 (by decide) ?_
  refine lv_iload_n hx hb dX0_init_47 rfl (lv_at hl 0 rfl) ?_
  refine lv_bipush (v := (nI 8)) hx hb dX0_init_48 (by decide) ?_
  refine lv_icmp_ge (tgt := 74) hx hb dX0_init_50 (by decide) (fun h => absurd h (by decide)) (fun _ => ?_)
  refine lv_aload_n hx hb dX0_init_53 rfl (lv_at hl 1 rfl) ?_
  refine va_get (D := D) (ci := 0) (v := .ref q7) (C := RX0) (T := TX0) (N := 7) hx hb hts (yy_tl inX0) hown hK hP 0 rfl rfl 0 (by decide) (hw _ wq_83) (fun _ h9 => h9) rfl dX0_init_54 ?_
  refine lv_iload_n hx hb dX0_init_57 rfl (lv_at hl 0 rfl) ?_
  refine lv_iconst (v := (-1)) hx hb dX0_init_58 (by decide) ?_
  refine yr_iast hx hb hK hP hD hS 1 0 (f := upd (upd (fun _ => 0) 0 (-1)) 1 (-1)) (j := 2) rfl rfl rfl (by decide) (by decide) dX0_init_59 (fun H locs hP hD hS => ?_)
  have hP : va_P D vwCl ([(a0, .inr (0, [.ref q7, .ref q15, .int 0, .int 0, .long 0, .int 1, .int (-1)])), (q7, .inl (cI, 8, .inl (upd (upd (upd (fun _ => 0) 0 (-1)) 1 (-1)) 2 (-1)))), (q15, .inl (cI, 8, .inl (upd (upd (fun _ => 0) 0 (-2)) 1 (-2))))] : va_W) H := hP
  have hD : va_D A ([(a0, .inr (0, [.ref q7, .ref q15, .int 0, .int 0, .long 0, .int 1, .int (-1)])), (q7, .inl (cI, 8, .inl (upd (upd (upd (fun _ => 0) 0 (-1)) 1 (-1)) 2 (-1)))), (q15, .inl (cI, 8, .inl (upd (upd (fun _ => 0) 0 (-2)) 1 (-2))))] : va_W) := hD
  refine lv_aload_n hx hb dX0_init_60 rfl (lv_at hl 1 rfl) ?_
  refine va_get (D := D) (ci := 0) (v := .ref q15) (C := RX0) (T := TX0) (N := 7) hx hb hts (yy_tl inX0) hown hK hP 0 rfl rfl 1 (by decide) (hw _ wq_84) (fun _ h9 => h9) rfl dX0_init_61 ?_
  refine lv_iload_n hx hb dX0_init_64 rfl (lv_at hl 0 rfl) ?_
  refine lv_bipush (v := (-2)) hx hb dX0_init_65 (by decide) ?_
  refine yr_iast hx hb hK hP hD hS 2 0 (f := upd (upd (fun _ => 0) 0 (-2)) 1 (-2)) (j := 2) rfl rfl rfl (by decide) (by decide) dX0_init_67 (fun H locs hP hD hS => ?_)
  have hP : va_P D vwCl ([(a0, .inr (0, [.ref q7, .ref q15, .int 0, .int 0, .long 0, .int 1, .int (-1)])), (q7, .inl (cI, 8, .inl (upd (upd (upd (fun _ => 0) 0 (-1)) 1 (-1)) 2 (-1)))), (q15, .inl (cI, 8, .inl (upd (upd (upd (fun _ => 0) 0 (-2)) 1 (-2)) 2 (-2))))] : va_W) H := hP
  have hD : va_D A ([(a0, .inr (0, [.ref q7, .ref q15, .int 0, .int 0, .long 0, .int 1, .int (-1)])), (q7, .inl (cI, 8, .inl (upd (upd (upd (fun _ => 0) 0 (-1)) 1 (-1)) 2 (-1)))), (q15, .inl (cI, 8, .inl (upd (upd (upd (fun _ => 0) 0 (-2)) 1 (-2)) 2 (-2))))] : va_W) := hD
  refine lv_iinc (k := 0) (v := (nI 3)) (lv' := [(1, .int (nI 3)), (0, .ref a0)]) hx hb dX0_init_68 hl rfl (yy_inc _) (by decide) rfl (fun ls hl => ?_)
  refine lv_goto (tgt := 47) hx hb dX0_init_71 (by decide) ?_
  refine lv_iload_n hx hb dX0_init_47 rfl (lv_at hl 0 rfl) ?_
  refine lv_bipush (v := (nI 8)) hx hb dX0_init_48 (by decide) ?_
  refine lv_icmp_ge (tgt := 74) hx hb dX0_init_50 (by decide) (fun h => absurd h (by decide)) (fun _ => ?_)
  refine lv_aload_n hx hb dX0_init_53 rfl (lv_at hl 1 rfl) ?_
  refine va_get (D := D) (ci := 0) (v := .ref q7) (C := RX0) (T := TX0) (N := 7) hx hb hts (yy_tl inX0) hown hK hP 0 rfl rfl 0 (by decide) (hw _ wq_83) (fun _ h9 => h9) rfl dX0_init_54 ?_
  refine lv_iload_n hx hb dX0_init_57 rfl (lv_at hl 0 rfl) ?_
  refine lv_iconst (v := (-1)) hx hb dX0_init_58 (by decide) ?_
  refine yr_iast hx hb hK hP hD hS 1 0 (f := upd (upd (upd (fun _ => 0) 0 (-1)) 1 (-1)) 2 (-1)) (j := 3) rfl rfl rfl (by decide) (by decide) dX0_init_59 (fun H locs hP hD hS => ?_)
  have hP : va_P D vwCl ([(a0, .inr (0, [.ref q7, .ref q15, .int 0, .int 0, .long 0, .int 1, .int (-1)])), (q7, .inl (cI, 8, .inl (upd (upd (upd (upd (fun _ => 0) 0 (-1)) 1 (-1)) 2 (-1)) 3 (-1)))), (q15, .inl (cI, 8, .inl (upd (upd (upd (fun _ => 0) 0 (-2)) 1 (-2)) 2 (-2))))] : va_W) H := hP
  have hD : va_D A ([(a0, .inr (0, [.ref q7, .ref q15, .int 0, .int 0, .long 0, .int 1, .int (-1)])), (q7, .inl (cI, 8, .inl (upd (upd (upd (upd (fun _ => 0) 0 (-1)) 1 (-1)) 2 (-1)) 3 (-1)))), (q15, .inl (cI, 8, .inl (upd (upd (upd (fun _ => 0) 0 (-2)) 1 (-2)) 2 (-2))))] : va_W) := hD
  refine lv_aload_n hx hb dX0_init_60 rfl (lv_at hl 1 rfl) ?_
  refine va_get (D := D) (ci := 0) (v := .ref q15) (C := RX0) (T := TX0) (N := 7) hx hb hts (yy_tl inX0) hown hK hP 0 rfl rfl 1 (by decide) (hw _ wq_84) (fun _ h9 => h9) rfl dX0_init_61 ?_
  refine lv_iload_n hx hb dX0_init_64 rfl (lv_at hl 0 rfl) ?_
  refine lv_bipush (v := (-2)) hx hb dX0_init_65 (by decide) ?_
  refine yr_iast hx hb hK hP hD hS 2 0 (f := upd (upd (upd (fun _ => 0) 0 (-2)) 1 (-2)) 2 (-2)) (j := 3) rfl rfl rfl (by decide) (by decide) dX0_init_67 (fun H locs hP hD hS => ?_)
  have hP : va_P D vwCl ([(a0, .inr (0, [.ref q7, .ref q15, .int 0, .int 0, .long 0, .int 1, .int (-1)])), (q7, .inl (cI, 8, .inl (upd (upd (upd (upd (fun _ => 0) 0 (-1)) 1 (-1)) 2 (-1)) 3 (-1)))), (q15, .inl (cI, 8, .inl (upd (upd (upd (upd (fun _ => 0) 0 (-2)) 1 (-2)) 2 (-2)) 3 (-2))))] : va_W) H := hP
  have hD : va_D A ([(a0, .inr (0, [.ref q7, .ref q15, .int 0, .int 0, .long 0, .int 1, .int (-1)])), (q7, .inl (cI, 8, .inl (upd (upd (upd (upd (fun _ => 0) 0 (-1)) 1 (-1)) 2 (-1)) 3 (-1)))), (q15, .inl (cI, 8, .inl (upd (upd (upd (upd (fun _ => 0) 0 (-2)) 1 (-2)) 2 (-2)) 3 (-2))))] : va_W) := hD
  refine lv_iinc (k := 0) (v := (nI 4)) (lv' := [(1, .int (nI 4)), (0, .ref a0)]) hx hb dX0_init_68 hl rfl (yy_inc _) (by decide) rfl (fun ls hl => ?_)
  refine lv_goto (tgt := 47) hx hb dX0_init_71 (by decide) ?_
  refine lv_iload_n hx hb dX0_init_47 rfl (lv_at hl 0 rfl) ?_
  refine lv_bipush (v := (nI 8)) hx hb dX0_init_48 (by decide) ?_
  refine lv_icmp_ge (tgt := 74) hx hb dX0_init_50 (by decide) (fun h => absurd h (by decide)) (fun _ => ?_)
  refine lv_aload_n hx hb dX0_init_53 rfl (lv_at hl 1 rfl) ?_
  refine va_get (D := D) (ci := 0) (v := .ref q7) (C := RX0) (T := TX0) (N := 7) hx hb hts (yy_tl inX0) hown hK hP 0 rfl rfl 0 (by decide) (hw _ wq_83) (fun _ h9 => h9) rfl dX0_init_54 ?_
  refine lv_iload_n hx hb dX0_init_57 rfl (lv_at hl 0 rfl) ?_
  refine lv_iconst (v := (-1)) hx hb dX0_init_58 (by decide) ?_
  refine yr_iast hx hb hK hP hD hS 1 0 (f := upd (upd (upd (upd (fun _ => 0) 0 (-1)) 1 (-1)) 2 (-1)) 3 (-1)) (j := 4) rfl rfl rfl (by decide) (by decide) dX0_init_59 (fun H locs hP hD hS => ?_)
  have hP : va_P D vwCl ([(a0, .inr (0, [.ref q7, .ref q15, .int 0, .int 0, .long 0, .int 1, .int (-1)])), (q7, .inl (cI, 8, .inl (upd (upd (upd (upd (upd (fun _ => 0) 0 (-1)) 1 (-1)) 2 (-1)) 3 (-1)) 4 (-1)))), (q15, .inl (cI, 8, .inl (upd (upd (upd (upd (fun _ => 0) 0 (-2)) 1 (-2)) 2 (-2)) 3 (-2))))] : va_W) H := hP
  have hD : va_D A ([(a0, .inr (0, [.ref q7, .ref q15, .int 0, .int 0, .long 0, .int 1, .int (-1)])), (q7, .inl (cI, 8, .inl (upd (upd (upd (upd (upd (fun _ => 0) 0 (-1)) 1 (-1)) 2 (-1)) 3 (-1)) 4 (-1)))), (q15, .inl (cI, 8, .inl (upd (upd (upd (upd (fun _ => 0) 0 (-2)) 1 (-2)) 2 (-2)) 3 (-2))))] : va_W) := hD
  refine lv_aload_n hx hb dX0_init_60 rfl (lv_at hl 1 rfl) ?_
  refine va_get (D := D) (ci := 0) (v := .ref q15) (C := RX0) (T := TX0) (N := 7) hx hb hts (yy_tl inX0) hown hK hP 0 rfl rfl 1 (by decide) (hw _ wq_84) (fun _ h9 => h9) rfl dX0_init_61 ?_
  refine lv_iload_n hx hb dX0_init_64 rfl (lv_at hl 0 rfl) ?_
  refine lv_bipush (v := (-2)) hx hb dX0_init_65 (by decide) ?_
  refine yr_iast hx hb hK hP hD hS 2 0 (f := upd (upd (upd (upd (fun _ => 0) 0 (-2)) 1 (-2)) 2 (-2)) 3 (-2)) (j := 4) rfl rfl rfl (by decide) (by decide) dX0_init_67 (fun H locs hP hD hS => ?_)
  have hP : va_P D vwCl ([(a0, .inr (0, [.ref q7, .ref q15, .int 0, .int 0, .long 0, .int 1, .int (-1)])), (q7, .inl (cI, 8, .inl (upd (upd (upd (upd (upd (fun _ => 0) 0 (-1)) 1 (-1)) 2 (-1)) 3 (-1)) 4 (-1)))), (q15, .inl (cI, 8, .inl (upd (upd (upd (upd (upd (fun _ => 0) 0 (-2)) 1 (-2)) 2 (-2)) 3 (-2)) 4 (-2))))] : va_W) H := hP
  have hD : va_D A ([(a0, .inr (0, [.ref q7, .ref q15, .int 0, .int 0, .long 0, .int 1, .int (-1)])), (q7, .inl (cI, 8, .inl (upd (upd (upd (upd (upd (fun _ => 0) 0 (-1)) 1 (-1)) 2 (-1)) 3 (-1)) 4 (-1)))), (q15, .inl (cI, 8, .inl (upd (upd (upd (upd (upd (fun _ => 0) 0 (-2)) 1 (-2)) 2 (-2)) 3 (-2)) 4 (-2))))] : va_W) := hD
  refine lv_iinc (k := 0) (v := (nI 5)) (lv' := [(1, .int (nI 5)), (0, .ref a0)]) hx hb dX0_init_68 hl rfl (yy_inc _) (by decide) rfl (fun ls hl => ?_)
  refine lv_goto (tgt := 47) hx hb dX0_init_71 (by decide) ?_
  refine lv_iload_n hx hb dX0_init_47 rfl (lv_at hl 0 rfl) ?_
  refine lv_bipush (v := (nI 8)) hx hb dX0_init_48 (by decide) ?_
  refine lv_icmp_ge (tgt := 74) hx hb dX0_init_50 (by decide) (fun h => absurd h (by decide)) (fun _ => ?_)
  refine lv_aload_n hx hb dX0_init_53 rfl (lv_at hl 1 rfl) ?_
  refine va_get (D := D) (ci := 0) (v := .ref q7) (C := RX0) (T := TX0) (N := 7) hx hb hts (yy_tl inX0) hown hK hP 0 rfl rfl 0 (by decide) (hw _ wq_83) (fun _ h9 => h9) rfl dX0_init_54 ?_
  refine lv_iload_n hx hb dX0_init_57 rfl (lv_at hl 0 rfl) ?_
  refine lv_iconst (v := (-1)) hx hb dX0_init_58 (by decide) ?_
  refine yr_iast hx hb hK hP hD hS 1 0 (f := upd (upd (upd (upd (upd (fun _ => 0) 0 (-1)) 1 (-1)) 2 (-1)) 3 (-1)) 4 (-1)) (j := 5) rfl rfl rfl (by decide) (by decide) dX0_init_59 (fun H locs hP hD hS => ?_)
  have hP : va_P D vwCl ([(a0, .inr (0, [.ref q7, .ref q15, .int 0, .int 0, .long 0, .int 1, .int (-1)])), (q7, .inl (cI, 8, .inl (upd (upd (upd (upd (upd (upd (fun _ => 0) 0 (-1)) 1 (-1)) 2 (-1)) 3 (-1)) 4 (-1)) 5 (-1)))), (q15, .inl (cI, 8, .inl (upd (upd (upd (upd (upd (fun _ => 0) 0 (-2)) 1 (-2)) 2 (-2)) 3 (-2)) 4 (-2))))] : va_W) H := hP
  have hD : va_D A ([(a0, .inr (0, [.ref q7, .ref q15, .int 0, .int 0, .long 0, .int 1, .int (-1)])), (q7, .inl (cI, 8, .inl (upd (upd (upd (upd (upd (upd (fun _ => 0) 0 (-1)) 1 (-1)) 2 (-1)) 3 (-1)) 4 (-1)) 5 (-1)))), (q15, .inl (cI, 8, .inl (upd (upd (upd (upd (upd (fun _ => 0) 0 (-2)) 1 (-2)) 2 (-2)) 3 (-2)) 4 (-2))))] : va_W) := hD
  refine lv_aload_n hx hb dX0_init_60 rfl (lv_at hl 1 rfl) ?_
  refine va_get (D := D) (ci := 0) (v := .ref q15) (C := RX0) (T := TX0) (N := 7) hx hb hts (yy_tl inX0) hown hK hP 0 rfl rfl 1 (by decide) (hw _ wq_84) (fun _ h9 => h9) rfl dX0_init_61 ?_
  refine lv_iload_n hx hb dX0_init_64 rfl (lv_at hl 0 rfl) ?_
  refine lv_bipush (v := (-2)) hx hb dX0_init_65 (by decide) ?_
  refine yr_iast hx hb hK hP hD hS 2 0 (f := upd (upd (upd (upd (upd (fun _ => 0) 0 (-2)) 1 (-2)) 2 (-2)) 3 (-2)) 4 (-2)) (j := 5) rfl rfl rfl (by decide) (by decide) dX0_init_67 (fun H locs hP hD hS => ?_)
  have hP : va_P D vwCl ([(a0, .inr (0, [.ref q7, .ref q15, .int 0, .int 0, .long 0, .int 1, .int (-1)])), (q7, .inl (cI, 8, .inl (upd (upd (upd (upd (upd (upd (fun _ => 0) 0 (-1)) 1 (-1)) 2 (-1)) 3 (-1)) 4 (-1)) 5 (-1)))), (q15, .inl (cI, 8, .inl (upd (upd (upd (upd (upd (upd (fun _ => 0) 0 (-2)) 1 (-2)) 2 (-2)) 3 (-2)) 4 (-2)) 5 (-2))))] : va_W) H := hP
  have hD : va_D A ([(a0, .inr (0, [.ref q7, .ref q15, .int 0, .int 0, .long 0, .int 1, .int (-1)])), (q7, .inl (cI, 8, .inl (upd (upd (upd (upd (upd (upd (fun _ => 0) 0 (-1)) 1 (-1)) 2 (-1)) 3 (-1)) 4 (-1)) 5 (-1)))), (q15, .inl (cI, 8, .inl (upd (upd (upd (upd (upd (upd (fun _ => 0) 0 (-2)) 1 (-2)) 2 (-2)) 3 (-2)) 4 (-2)) 5 (-2))))] : va_W) := hD
  refine lv_iinc (k := 0) (v := (nI 6)) (lv' := [(1, .int (nI 6)), (0, .ref a0)]) hx hb dX0_init_68 hl rfl (yy_inc _) (by decide) rfl (fun ls hl => ?_)
  refine lv_goto (tgt := 47) hx hb dX0_init_71 (by decide) ?_
  refine lv_iload_n hx hb dX0_init_47 rfl (lv_at hl 0 rfl) ?_
  refine lv_bipush (v := (nI 8)) hx hb dX0_init_48 (by decide) ?_
  refine lv_icmp_ge (tgt := 74) hx hb dX0_init_50 (by decide) (fun h => absurd h (by decide)) (fun _ => ?_)
  refine lv_aload_n hx hb dX0_init_53 rfl (lv_at hl 1 rfl) ?_
  refine va_get (D := D) (ci := 0) (v := .ref q7) (C := RX0) (T := TX0) (N := 7) hx hb hts (yy_tl inX0) hown hK hP 0 rfl rfl 0 (by decide) (hw _ wq_83) (fun _ h9 => h9) rfl dX0_init_54 ?_
  refine lv_iload_n hx hb dX0_init_57 rfl (lv_at hl 0 rfl) ?_
  refine lv_iconst (v := (-1)) hx hb dX0_init_58 (by decide) ?_
  refine yr_iast hx hb hK hP hD hS 1 0 (f := upd (upd (upd (upd (upd (upd (fun _ => 0) 0 (-1)) 1 (-1)) 2 (-1)) 3 (-1)) 4 (-1)) 5 (-1)) (j := 6) rfl rfl rfl (by decide) (by decide) dX0_init_59 (fun H locs hP hD hS => ?_)
  have hP : va_P D vwCl ([(a0, .inr (0, [.ref q7, .ref q15, .int 0, .int 0, .long 0, .int 1, .int (-1)])), (q7, .inl (cI, 8, .inl (upd (upd (upd (upd (upd (upd (upd (fun _ => 0) 0 (-1)) 1 (-1)) 2 (-1)) 3 (-1)) 4 (-1)) 5 (-1)) 6 (-1)))), (q15, .inl (cI, 8, .inl (upd (upd (upd (upd (upd (upd (fun _ => 0) 0 (-2)) 1 (-2)) 2 (-2)) 3 (-2)) 4 (-2)) 5 (-2))))] : va_W) H := hP
  have hD : va_D A ([(a0, .inr (0, [.ref q7, .ref q15, .int 0, .int 0, .long 0, .int 1, .int (-1)])), (q7, .inl (cI, 8, .inl (upd (upd (upd (upd (upd (upd (upd (fun _ => 0) 0 (-1)) 1 (-1)) 2 (-1)) 3 (-1)) 4 (-1)) 5 (-1)) 6 (-1)))), (q15, .inl (cI, 8, .inl (upd (upd (upd (upd (upd (upd (fun _ => 0) 0 (-2)) 1 (-2)) 2 (-2)) 3 (-2)) 4 (-2)) 5 (-2))))] : va_W) := hD
  refine lv_aload_n hx hb dX0_init_60 rfl (lv_at hl 1 rfl) ?_
  refine va_get (D := D) (ci := 0) (v := .ref q15) (C := RX0) (T := TX0) (N := 7) hx hb hts (yy_tl inX0) hown hK hP 0 rfl rfl 1 (by decide) (hw _ wq_84) (fun _ h9 => h9) rfl dX0_init_61 ?_
  refine lv_iload_n hx hb dX0_init_64 rfl (lv_at hl 0 rfl) ?_
  refine lv_bipush (v := (-2)) hx hb dX0_init_65 (by decide) ?_
  refine yr_iast hx hb hK hP hD hS 2 0 (f := upd (upd (upd (upd (upd (upd (fun _ => 0) 0 (-2)) 1 (-2)) 2 (-2)) 3 (-2)) 4 (-2)) 5 (-2)) (j := 6) rfl rfl rfl (by decide) (by decide) dX0_init_67 (fun H locs hP hD hS => ?_)
  have hP : va_P D vwCl ([(a0, .inr (0, [.ref q7, .ref q15, .int 0, .int 0, .long 0, .int 1, .int (-1)])), (q7, .inl (cI, 8, .inl (upd (upd (upd (upd (upd (upd (upd (fun _ => 0) 0 (-1)) 1 (-1)) 2 (-1)) 3 (-1)) 4 (-1)) 5 (-1)) 6 (-1)))), (q15, .inl (cI, 8, .inl (upd (upd (upd (upd (upd (upd (upd (fun _ => 0) 0 (-2)) 1 (-2)) 2 (-2)) 3 (-2)) 4 (-2)) 5 (-2)) 6 (-2))))] : va_W) H := hP
  have hD : va_D A ([(a0, .inr (0, [.ref q7, .ref q15, .int 0, .int 0, .long 0, .int 1, .int (-1)])), (q7, .inl (cI, 8, .inl (upd (upd (upd (upd (upd (upd (upd (fun _ => 0) 0 (-1)) 1 (-1)) 2 (-1)) 3 (-1)) 4 (-1)) 5 (-1)) 6 (-1)))), (q15, .inl (cI, 8, .inl (upd (upd (upd (upd (upd (upd (upd (fun _ => 0) 0 (-2)) 1 (-2)) 2 (-2)) 3 (-2)) 4 (-2)) 5 (-2)) 6 (-2))))] : va_W) := hD
  refine lv_iinc (k := 0) (v := (nI 7)) (lv' := [(1, .int (nI 7)), (0, .ref a0)]) hx hb dX0_init_68 hl rfl (yy_inc _) (by decide) rfl (fun ls hl => ?_)
  refine lv_goto (tgt := 47) hx hb dX0_init_71 (by decide) ?_
  refine lv_iload_n hx hb dX0_init_47 rfl (lv_at hl 0 rfl) ?_
  refine lv_bipush (v := (nI 8)) hx hb dX0_init_48 (by decide) ?_
  refine lv_icmp_ge (tgt := 74) hx hb dX0_init_50 (by decide) (fun h => absurd h (by decide)) (fun _ => ?_)
  refine lv_aload_n hx hb dX0_init_53 rfl (lv_at hl 1 rfl) ?_
  refine va_get (D := D) (ci := 0) (v := .ref q7) (C := RX0) (T := TX0) (N := 7) hx hb hts (yy_tl inX0) hown hK hP 0 rfl rfl 0 (by decide) (hw _ wq_83) (fun _ h9 => h9) rfl dX0_init_54 ?_
  refine lv_iload_n hx hb dX0_init_57 rfl (lv_at hl 0 rfl) ?_
  refine lv_iconst (v := (-1)) hx hb dX0_init_58 (by decide) ?_
  refine yr_iast hx hb hK hP hD hS 1 0 (f := upd (upd (upd (upd (upd (upd (upd (fun _ => 0) 0 (-1)) 1 (-1)) 2 (-1)) 3 (-1)) 4 (-1)) 5 (-1)) 6 (-1)) (j := 7) rfl rfl rfl (by decide) (by decide) dX0_init_59 (fun H locs hP hD hS => ?_)
  have hP : va_P D vwCl ([(a0, .inr (0, [.ref q7, .ref q15, .int 0, .int 0, .long 0, .int 1, .int (-1)])), (q7, .inl (cI, 8, .inl (upd (upd (upd (upd (upd (upd (upd (upd (fun _ => 0) 0 (-1)) 1 (-1)) 2 (-1)) 3 (-1)) 4 (-1)) 5 (-1)) 6 (-1)) 7 (-1)))), (q15, .inl (cI, 8, .inl (upd (upd (upd (upd (upd (upd (upd (fun _ => 0) 0 (-2)) 1 (-2)) 2 (-2)) 3 (-2)) 4 (-2)) 5 (-2)) 6 (-2))))] : va_W) H := hP
  have hD : va_D A ([(a0, .inr (0, [.ref q7, .ref q15, .int 0, .int 0, .long 0, .int 1, .int (-1)])), (q7, .inl (cI, 8, .inl (upd (upd (upd (upd (upd (upd (upd (upd (fun _ => 0) 0 (-1)) 1 (-1)) 2 (-1)) 3 (-1)) 4 (-1)) 5 (-1)) 6 (-1)) 7 (-1)))), (q15, .inl (cI, 8, .inl (upd (upd (upd (upd (upd (upd (upd (fun _ => 0) 0 (-2)) 1 (-2)) 2 (-2)) 3 (-2)) 4 (-2)) 5 (-2)) 6 (-2))))] : va_W) := hD
  refine lv_aload_n hx hb dX0_init_60 rfl (lv_at hl 1 rfl) ?_
  refine va_get (D := D) (ci := 0) (v := .ref q15) (C := RX0) (T := TX0) (N := 7) hx hb hts (yy_tl inX0) hown hK hP 0 rfl rfl 1 (by decide) (hw _ wq_84) (fun _ h9 => h9) rfl dX0_init_61 ?_
  refine lv_iload_n hx hb dX0_init_64 rfl (lv_at hl 0 rfl) ?_
  refine lv_bipush (v := (-2)) hx hb dX0_init_65 (by decide) ?_
  refine yr_iast hx hb hK hP hD hS 2 0 (f := upd (upd (upd (upd (upd (upd (upd (fun _ => 0) 0 (-2)) 1 (-2)) 2 (-2)) 3 (-2)) 4 (-2)) 5 (-2)) 6 (-2)) (j := 7) rfl rfl rfl (by decide) (by decide) dX0_init_67 (fun H locs hP hD hS => ?_)
  have hP : va_P D vwCl ([(a0, .inr (0, [.ref q7, .ref q15, .int 0, .int 0, .long 0, .int 1, .int (-1)])), (q7, .inl (cI, 8, .inl (upd (upd (upd (upd (upd (upd (upd (upd (fun _ => 0) 0 (-1)) 1 (-1)) 2 (-1)) 3 (-1)) 4 (-1)) 5 (-1)) 6 (-1)) 7 (-1)))), (q15, .inl (cI, 8, .inl (upd (upd (upd (upd (upd (upd (upd (upd (fun _ => 0) 0 (-2)) 1 (-2)) 2 (-2)) 3 (-2)) 4 (-2)) 5 (-2)) 6 (-2)) 7 (-2))))] : va_W) H := hP
  have hD : va_D A ([(a0, .inr (0, [.ref q7, .ref q15, .int 0, .int 0, .long 0, .int 1, .int (-1)])), (q7, .inl (cI, 8, .inl (upd (upd (upd (upd (upd (upd (upd (upd (fun _ => 0) 0 (-1)) 1 (-1)) 2 (-1)) 3 (-1)) 4 (-1)) 5 (-1)) 6 (-1)) 7 (-1)))), (q15, .inl (cI, 8, .inl (upd (upd (upd (upd (upd (upd (upd (upd (fun _ => 0) 0 (-2)) 1 (-2)) 2 (-2)) 3 (-2)) 4 (-2)) 5 (-2)) 6 (-2)) 7 (-2))))] : va_W) := hD
  refine lv_iinc (k := 0) (v := (nI 8)) (lv' := [(1, .int (nI 8)), (0, .ref a0)]) hx hb dX0_init_68 hl rfl (yy_inc _) (by decide) rfl (fun ls hl => ?_)
  refine lv_goto (tgt := 47) hx hb dX0_init_71 (by decide) ?_
  refine lv_iload_n hx hb dX0_init_47 rfl (lv_at hl 0 rfl) ?_
  refine lv_bipush (v := (nI 8)) hx hb dX0_init_48 (by decide) ?_
  refine lv_icmp_ge (tgt := 74) hx hb dX0_init_50 (by decide) (fun _ => ?_) (fun h => absurd (by decide) h)
  refine W.widen (k := 2) (n := 16) (Nat.le_of_ble_eq_true rfl) (Nat.le_of_ble_eq_true rfl) ?_
  exact yy_vretN (ad := fun j => ([a0, q7, q15] : List Nat).getD j 0) hx hb hr rfl hP hD hK hS hlocks dX0_init_74
