set_option maxHeartbeats 4000000 in
set_option maxRecDepth 100000 in
theorem lw_c_arm {p : Program} {l : Launch} {e : Env} {s : State} {m : MethodId} {below : List Frame} {meth : Method} {c : Code} {b L : Nat} {xs : Nat → Int32} {D : va_G} {cI cJ cZ cN : ClassId} {xa sa ta pa ma : Nat → Nat} {nad : Nat → Nat → Nat} {Q : State → Prop} {ls : Array Slot} (hx : p.tables.exec = Jvm.exec) (hb : c.code = code) (hml : c.maxLocals = 4) (hown : s.vm.findClass RL = some m.cls) (hts : ∀ w ∈ (Cond.initialized RX4 :: yW), w.before #[Value.ref b] s = true) (hw : ∀ w ∈ yW, w.before #[Value.ref b] s = true) (hX : va_X b L xs s s.heap) (hbl : b < s.heap.size) (hK : va_K D vwCl (yT cI cJ cZ cN) s) (hN : yy_N s) {j : Nat} (hj : 5 * j + 5 ≤ L) (hL : L ≤ 2560) (so : SS) (tk : TS) (pk : PS) (vd : Nat → Int32) (tg : Nat → Int32) (ns : Nat → NS) (mo : MO) (mn : MN) (mw : MW) (mt : MT) (mv : Nat → Int32) (mp : MP) (H : Heap) (locs : List Loc) (hR : REL so tk pk vd ns mo mn mt mv mp) (hl : lv_has ls 4 [(0, .ref b), (1, .ref (xa 0)), (2, .ref (ma 0)), (3, .int (nI (5 * j)))]) (hP : va_P D vwCl (xcW xa sa ta pa ++ stW cI cJ sa so ++ naW cN xa nad ++ tkW ta tk ++ pkW cI pa pk ++ vdW cI xa vd ++ tgW cI xa tg ++ n3W cI nad ns ++ mW cI cJ cZ ma mo mn mw mt mv mp) H) (hD : va_D (fun q => s.heap.size ≤ q) (xcW xa sa ta pa ++ stW cI cJ sa so ++ naW cN xa nad ++ tkW ta tk ++ pkW cI pa pk ++ vdW cI xa vd ++ tgW cI xa tg ++ n3W cI nad ns ++ mW cI cJ cZ ma mo mn mw mt mv mp)) (hS : va_S (fun q => s.heap.size ≤ q) s.heap H locs)
    (kk : ∀ (so : SS) (tk : TS) (pk : PS) (vd : Nat → Int32) (tg : Nat → Int32) (ns : Nat → NS) (mo : MO) (mn : MN) (mw : MW) (mt : MT) (mv : Nat → Int32) (mp : MP) (H : Heap) (locs : List Loc), REL so tk pk vd ns mo mn mt mv mp → va_P D vwCl (xcW xa sa ta pa ++ stW cI cJ sa so ++ naW cN xa nad ++ tkW ta tk ++ pkW cI pa pk ++ vdW cI xa vd ++ tgW cI xa tg ++ n3W cI nad ns ++ mW cI cJ cZ ma mo mn mw mt mv mp) H → va_D (fun q => s.heap.size ≤ q) (xcW xa sa ta pa ++ stW cI cJ sa so ++ naW cN xa nad ++ tkW ta tk ++ pkW cI pa pk ++ vdW cI xa vd ++ tgW cI xa tg ++ n3W cI nad ns ++ mW cI cJ cZ ma mo mn mw mt mv mp) → va_S (fun q => s.heap.size ≤ q) s.heap H locs → W p l e room_1 s m #[Value.ref b] below meth c H locs 44 1165 Q (F0 m 671 ls [])) : W p l e room_1 s m #[Value.ref b] below meth c H locs 44 1165 Q (F0 m 362 ls []) := by
  have hA : ∀ q : Nat, s.heap.size ≤ q → (fun q => s.heap.size ≤ q) q := fun q h => h
  have hbA : ¬ (fun q => s.heap.size ≤ q) b := fun h => absurd (show s.heap.size ≤ b from h) (by omega)
  have hs : so.2.2.2.2.2 ≤ 60 := by rw [hR.1.1]; exact hR.1.2.1
  have hp : pk.2.2.2.2.1 ≤ 60 := by rw [hR.2.2.2.1.2.2.2.1]; exact hR.2.2.2.1.2.2.2.2.1
  have ho : mo.1 ≤ 60 := hR.1.2.1
  have hq : mp.1 ≤ 60 := hR.2.2.2.1.2.2.2.2.1
  refine lv_aload_n hx hb dXL_law_362 rfl (lv_at hl 1 rfl) ?_
  refine lv_aload_n hx hb dXL_law_363 rfl (lv_at hl 0 rfl) ?_
  refine lv_iload_n hx hb dXL_law_364 rfl (lv_at hl 3 rfl) ?_
  refine lv_iconst (v := nI 1) hx hb dXL_law_365 (by decide) ?_
  refine yr_iaddN hx hb dXL_law_366 ?_
  refine yr_sld (n := 5 * j + 1) hx hb hX hbl hbA hS rfl (by omega) (by omega) dXL_law_367 ?_
  refine lv_aload_n hx hb dXL_law_368 rfl (lv_at hl 0 rfl) ?_
  refine lv_iload_n hx hb dXL_law_369 rfl (lv_at hl 3 rfl) ?_
  refine lv_iconst (v := nI 2) hx hb dXL_law_370 (by decide) ?_
  refine yr_iaddN hx hb dXL_law_371 ?_
  refine yr_sld (n := 5 * j + 2) hx hb hX hbl hbA hS rfl (by omega) (by omega) dXL_law_372 ?_
  obtain ⟨r1, er1⟩ : ∃ r, r = x_arm (xs (5 * j + 1)) (xs (5 * j + 2)) ns := ⟨_, rfl⟩
  refine yz_callV (As := [.int (xs (5 * j + 1)), .int (xs (5 * j + 2))]) (rest := []) ⟨hx, hb, hml, hown, hts⟩ (c_x_arm l D cI cJ cZ cN xa sa ta pa nad (xs (5 * j + 1)) (xs (5 * j + 2)) so tk pk vd tg ns (by (try dsimp only) <;> omega) (by (try dsimp only) <;> omega) r1 er1) ⟨callB_of 2 hts (yy_good wq_388) rfl rfl rfl (hw _ wq_34) (hw _ wq_385) (by decide +kernel) ⟨Nat.le_of_ble_eq_true rfl, Nat.le_of_ble_eq_true rfl⟩, hw _ wq_386, hw _ wq_387⟩ hK hN hP hD hS hA [0, 1, 2, 3, 4, 5, 6, 7, 8, 9, 10, 11, 12, 13, 14, 15, 16, 17, 18, 19, 20, 21, 22, 23] rfl (by decide) rfl 24 rfl (w2 := (xcW xa sa ta pa ++ stW cI cJ sa so ++ naW cN xa nad ++ tkW ta tk ++ pkW cI pa pk ++ vdW cI xa vd ++ tgW cI xa tg ++ n3W cI nad r1.2 ++ mW cI cJ cZ ma mo mn mw mt mv mp)) rfl 0 rfl rfl rfl hl.1 rfl (Nat.le_of_ble_eq_true rfl) dXL_law_373 ⟨Nat.le_of_ble_eq_true rfl, Nat.le_of_ble_eq_true rfl⟩ (fun H locs hP hD hS => ?_)
  refine W.eq (g2 := F0 m 376 ls [.int (yB r1.1)]) rfl ?_
  refine lv_aload_n hx hb dXL_law_376 rfl (lv_at hl 2 rfl) ?_
  refine lv_aload_n hx hb dXL_law_377 rfl (lv_at hl 0 rfl) ?_
  refine lv_iload_n hx hb dXL_law_378 rfl (lv_at hl 3 rfl) ?_
  refine lv_iconst (v := nI 1) hx hb dXL_law_379 (by decide) ?_
  refine yr_iaddN hx hb dXL_law_380 ?_
  refine yr_sld (n := 5 * j + 1) hx hb hX hbl hbA hS rfl (by omega) (by omega) dXL_law_381 ?_
  refine lv_aload_n hx hb dXL_law_382 rfl (lv_at hl 0 rfl) ?_
  refine lv_iload_n hx hb dXL_law_383 rfl (lv_at hl 3 rfl) ?_
  refine lv_iconst (v := nI 2) hx hb dXL_law_384 (by decide) ?_
  refine yr_iaddN hx hb dXL_law_385 ?_
  refine yr_sld (n := 5 * j + 2) hx hb hX hbl hbA hS rfl (by omega) (by omega) dXL_law_386 ?_
  obtain ⟨r2, er2⟩ : ∃ r, r = md_arm (xs (5 * j + 1)) (xs (5 * j + 2)) mn := ⟨_, rfl⟩
  refine yz_callV (As := [.int (xs (5 * j + 1)), .int (xs (5 * j + 2))]) (rest := [.int (yB r1.1)]) ⟨hx, hb, hml, hown, hts⟩ (c_md_arm l D cI cJ cZ cN ma (xs (5 * j + 1)) (xs (5 * j + 2)) mo mn mw mt mv mp (by (try dsimp only) <;> omega) (by (try dsimp only) <;> omega) r2 er2) ⟨callB_of 2 hts (yy_good wq_664) rfl rfl rfl (hw _ wq_39) (hw _ wq_661) (by decide +kernel) ⟨Nat.le_of_ble_eq_true rfl, Nat.le_of_ble_eq_true rfl⟩, hw _ wq_662, hw _ wq_663⟩ hK hN hP hD hS hA [24, 25, 26, 27, 28, 29, 30, 31, 32, 33, 34, 35, 36, 37, 38, 39, 40, 41, 42, 43] rfl (by decide) rfl 44 rfl (w2 := (xcW xa sa ta pa ++ stW cI cJ sa so ++ naW cN xa nad ++ tkW ta tk ++ pkW cI pa pk ++ vdW cI xa vd ++ tgW cI xa tg ++ n3W cI nad r1.2 ++ mW cI cJ cZ ma mo r2.2 mw mt mv mp)) rfl 24 rfl rfl rfl hl.1 rfl (Nat.le_of_ble_eq_true rfl) dXL_law_387 ⟨Nat.le_of_ble_eq_true rfl, Nat.le_of_ble_eq_true rfl⟩ (fun H locs hP hD hS => ?_)
  refine W.eq (g2 := F0 m 390 ls [.int (yB r2.1), .int (yB r1.1)]) rfl ?_
  have hrel := rel_arm hR (xs (5 * j + 1)) (xs (5 * j + 2))
  rw [← er1, ← er2] at hrel
  have heq : (yB r1.1) = (yB r2.1) := by rw [hrel.1]
  refine lv_icmp_eq (tgt := 671) hx hb dXL_law_390 (by decide) (fun _ => ?_) (fun h => absurd heq h)
  exact kk so tk pk vd tg r1.2 mo r2.2 mw mt mv mp H locs hrel.2 hP hD hS

set_option maxHeartbeats 4000000 in
set_option maxRecDepth 100000 in
theorem lw_c_recover {p : Program} {l : Launch} {e : Env} {s : State} {m : MethodId} {below : List Frame} {meth : Method} {c : Code} {b L : Nat} {xs : Nat → Int32} {D : va_G} {cI cJ cZ cN : ClassId} {xa sa ta pa ma : Nat → Nat} {nad : Nat → Nat → Nat} {Q : State → Prop} {ls : Array Slot} (hx : p.tables.exec = Jvm.exec) (hb : c.code = code) (hml : c.maxLocals = 4) (hown : s.vm.findClass RL = some m.cls) (hts : ∀ w ∈ (Cond.initialized RX4 :: yW), w.before #[Value.ref b] s = true) (hw : ∀ w ∈ yW, w.before #[Value.ref b] s = true) (hX : va_X b L xs s s.heap) (hbl : b < s.heap.size) (hK : va_K D vwCl (yT cI cJ cZ cN) s) (hN : yy_N s) {j : Nat} (hj : 5 * j + 5 ≤ L) (hL : L ≤ 2560) (so : SS) (tk : TS) (pk : PS) (vd : Nat → Int32) (tg : Nat → Int32) (ns : Nat → NS) (mo : MO) (mn : MN) (mw : MW) (mt : MT) (mv : Nat → Int32) (mp : MP) (H : Heap) (locs : List Loc) (hR : REL so tk pk vd ns mo mn mt mv mp) (hl : lv_has ls 4 [(0, .ref b), (1, .ref (xa 0)), (2, .ref (ma 0)), (3, .int (nI (5 * j)))]) (hP : va_P D vwCl (xcW xa sa ta pa ++ stW cI cJ sa so ++ naW cN xa nad ++ tkW ta tk ++ pkW cI pa pk ++ vdW cI xa vd ++ tgW cI xa tg ++ n3W cI nad ns ++ mW cI cJ cZ ma mo mn mw mt mv mp) H) (hD : va_D (fun q => s.heap.size ≤ q) (xcW xa sa ta pa ++ stW cI cJ sa so ++ naW cN xa nad ++ tkW ta tk ++ pkW cI pa pk ++ vdW cI xa vd ++ tgW cI xa tg ++ n3W cI nad ns ++ mW cI cJ cZ ma mo mn mw mt mv mp)) (hS : va_S (fun q => s.heap.size ≤ q) s.heap H locs)
    (kk : ∀ (so : SS) (tk : TS) (pk : PS) (vd : Nat → Int32) (tg : Nat → Int32) (ns : Nat → NS) (mo : MO) (mn : MN) (mw : MW) (mt : MT) (mv : Nat → Int32) (mp : MP) (H : Heap) (locs : List Loc), REL so tk pk vd ns mo mn mt mv mp → va_P D vwCl (xcW xa sa ta pa ++ stW cI cJ sa so ++ naW cN xa nad ++ tkW ta tk ++ pkW cI pa pk ++ vdW cI xa vd ++ tgW cI xa tg ++ n3W cI nad ns ++ mW cI cJ cZ ma mo mn mw mt mv mp) H → va_D (fun q => s.heap.size ≤ q) (xcW xa sa ta pa ++ stW cI cJ sa so ++ naW cN xa nad ++ tkW ta tk ++ pkW cI pa pk ++ vdW cI xa vd ++ tgW cI xa tg ++ n3W cI nad ns ++ mW cI cJ cZ ma mo mn mw mt mv mp) → va_S (fun q => s.heap.size ≤ q) s.heap H locs → W p l e room_1 s m #[Value.ref b] below meth c H locs 44 1165 Q (F0 m 671 ls [])) : W p l e room_1 s m #[Value.ref b] below meth c H locs 44 1165 Q (F0 m 395 ls []) := by
  have hA : ∀ q : Nat, s.heap.size ≤ q → (fun q => s.heap.size ≤ q) q := fun q h => h
  have hbA : ¬ (fun q => s.heap.size ≤ q) b := fun h => absurd (show s.heap.size ≤ b from h) (by omega)
  have hs : so.2.2.2.2.2 ≤ 60 := by rw [hR.1.1]; exact hR.1.2.1
  have hp : pk.2.2.2.2.1 ≤ 60 := by rw [hR.2.2.2.1.2.2.2.1]; exact hR.2.2.2.1.2.2.2.2.1
  have ho : mo.1 ≤ 60 := hR.1.2.1
  have hq : mp.1 ≤ 60 := hR.2.2.2.1.2.2.2.2.1
  refine lv_aload_n hx hb dXL_law_395 rfl (lv_at hl 1 rfl) ?_
  refine lv_aload_n hx hb dXL_law_396 rfl (lv_at hl 0 rfl) ?_
  refine lv_iload_n hx hb dXL_law_397 rfl (lv_at hl 3 rfl) ?_
  refine lv_iconst (v := nI 1) hx hb dXL_law_398 (by decide) ?_
  refine yr_iaddN hx hb dXL_law_399 ?_
  refine yr_sld (n := 5 * j + 1) hx hb hX hbl hbA hS rfl (by omega) (by omega) dXL_law_400 ?_
  obtain ⟨r1, er1⟩ : ∃ r, r = x_recover (xs (5 * j + 1)) ns := ⟨_, rfl⟩
  refine yz_callV (As := [.int (xs (5 * j + 1))]) (rest := []) ⟨hx, hb, hml, hown, hts⟩ (c_x_recover l D cI cJ cZ cN xa sa ta pa nad (xs (5 * j + 1)) so tk pk vd tg ns (by (try dsimp only) <;> omega) (by (try dsimp only) <;> omega) r1 er1) ⟨callB_of 1 hts (yy_good wq_396) rfl rfl rfl (hw _ wq_34) (hw _ wq_393) (by decide +kernel) ⟨Nat.le_of_ble_eq_true rfl, Nat.le_of_ble_eq_true rfl⟩, hw _ wq_394, hw _ wq_395⟩ hK hN hP hD hS hA [0, 1, 2, 3, 4, 5, 6, 7, 8, 9, 10, 11, 12, 13, 14, 15, 16, 17, 18, 19, 20, 21, 22, 23] rfl (by decide) rfl 24 rfl (w2 := (xcW xa sa ta pa ++ stW cI cJ sa so ++ naW cN xa nad ++ tkW ta tk ++ pkW cI pa pk ++ vdW cI xa vd ++ tgW cI xa tg ++ n3W cI nad r1.2 ++ mW cI cJ cZ ma mo mn mw mt mv mp)) rfl 0 rfl rfl rfl hl.1 rfl (Nat.le_of_ble_eq_true rfl) dXL_law_401 ⟨Nat.le_of_ble_eq_true rfl, Nat.le_of_ble_eq_true rfl⟩ (fun H locs hP hD hS => ?_)
  refine W.eq (g2 := F0 m 404 ls [.int r1.1]) rfl ?_
  refine lv_aload_n hx hb dXL_law_404 rfl (lv_at hl 2 rfl) ?_
  refine lv_aload_n hx hb dXL_law_405 rfl (lv_at hl 0 rfl) ?_
  refine lv_iload_n hx hb dXL_law_406 rfl (lv_at hl 3 rfl) ?_
  refine lv_iconst (v := nI 1) hx hb dXL_law_407 (by decide) ?_
  refine yr_iaddN hx hb dXL_law_408 ?_
  refine yr_sld (n := 5 * j + 1) hx hb hX hbl hbA hS rfl (by omega) (by omega) dXL_law_409 ?_
  obtain ⟨r2, er2⟩ : ∃ r, r = md_recover (xs (5 * j + 1)) mn := ⟨_, rfl⟩
  refine yz_callV (As := [.int (xs (5 * j + 1))]) (rest := [.int r1.1]) ⟨hx, hb, hml, hown, hts⟩ (c_md_recover l D cI cJ cZ cN ma (xs (5 * j + 1)) mo mn mw mt mv mp (by (try dsimp only) <;> omega) (by (try dsimp only) <;> omega) r2 er2) ⟨callB_of 1 hts (yy_good wq_668) rfl rfl rfl (hw _ wq_39) (hw _ wq_665) (by decide +kernel) ⟨Nat.le_of_ble_eq_true rfl, Nat.le_of_ble_eq_true rfl⟩, hw _ wq_666, hw _ wq_667⟩ hK hN hP hD hS hA [24, 25, 26, 27, 28, 29, 30, 31, 32, 33, 34, 35, 36, 37, 38, 39, 40, 41, 42, 43] rfl (by decide) rfl 44 rfl (w2 := (xcW xa sa ta pa ++ stW cI cJ sa so ++ naW cN xa nad ++ tkW ta tk ++ pkW cI pa pk ++ vdW cI xa vd ++ tgW cI xa tg ++ n3W cI nad r1.2 ++ mW cI cJ cZ ma mo r2.2 mw mt mv mp)) rfl 24 rfl rfl rfl hl.1 rfl (Nat.le_of_ble_eq_true rfl) dXL_law_410 ⟨Nat.le_of_ble_eq_true rfl, Nat.le_of_ble_eq_true rfl⟩ (fun H locs hP hD hS => ?_)
  refine W.eq (g2 := F0 m 413 ls [.int r2.1, .int r1.1]) rfl ?_
  have hrel := rel_recover hR (xs (5 * j + 1))
  rw [← er1, ← er2] at hrel
  have heq : r1.1 = r2.1 := by rw [hrel.1]
  refine lv_icmp_eq (tgt := 671) hx hb dXL_law_413 (by decide) (fun _ => ?_) (fun h => absurd heq h)
  exact kk so tk pk vd tg r1.2 mo r2.2 mw mt mv mp H locs hrel.2 hP hD hS

set_option maxHeartbeats 4000000 in
set_option maxRecDepth 100000 in
theorem lw_c_collect {p : Program} {l : Launch} {e : Env} {s : State} {m : MethodId} {below : List Frame} {meth : Method} {c : Code} {b L : Nat} {xs : Nat → Int32} {D : va_G} {cI cJ cZ cN : ClassId} {xa sa ta pa ma : Nat → Nat} {nad : Nat → Nat → Nat} {Q : State → Prop} {ls : Array Slot} (hx : p.tables.exec = Jvm.exec) (hb : c.code = code) (hml : c.maxLocals = 4) (hown : s.vm.findClass RL = some m.cls) (hts : ∀ w ∈ (Cond.initialized RX4 :: yW), w.before #[Value.ref b] s = true) (hw : ∀ w ∈ yW, w.before #[Value.ref b] s = true) (hX : va_X b L xs s s.heap) (hbl : b < s.heap.size) (hK : va_K D vwCl (yT cI cJ cZ cN) s) (hN : yy_N s) {j : Nat} (hj : 5 * j + 5 ≤ L) (hL : L ≤ 2560) (so : SS) (tk : TS) (pk : PS) (vd : Nat → Int32) (tg : Nat → Int32) (ns : Nat → NS) (mo : MO) (mn : MN) (mw : MW) (mt : MT) (mv : Nat → Int32) (mp : MP) (H : Heap) (locs : List Loc) (hR : REL so tk pk vd ns mo mn mt mv mp) (hl : lv_has ls 4 [(0, .ref b), (1, .ref (xa 0)), (2, .ref (ma 0)), (3, .int (nI (5 * j)))]) (hP : va_P D vwCl (xcW xa sa ta pa ++ stW cI cJ sa so ++ naW cN xa nad ++ tkW ta tk ++ pkW cI pa pk ++ vdW cI xa vd ++ tgW cI xa tg ++ n3W cI nad ns ++ mW cI cJ cZ ma mo mn mw mt mv mp) H) (hD : va_D (fun q => s.heap.size ≤ q) (xcW xa sa ta pa ++ stW cI cJ sa so ++ naW cN xa nad ++ tkW ta tk ++ pkW cI pa pk ++ vdW cI xa vd ++ tgW cI xa tg ++ n3W cI nad ns ++ mW cI cJ cZ ma mo mn mw mt mv mp)) (hS : va_S (fun q => s.heap.size ≤ q) s.heap H locs)
    (kk : ∀ (so : SS) (tk : TS) (pk : PS) (vd : Nat → Int32) (tg : Nat → Int32) (ns : Nat → NS) (mo : MO) (mn : MN) (mw : MW) (mt : MT) (mv : Nat → Int32) (mp : MP) (H : Heap) (locs : List Loc), REL so tk pk vd ns mo mn mt mv mp → va_P D vwCl (xcW xa sa ta pa ++ stW cI cJ sa so ++ naW cN xa nad ++ tkW ta tk ++ pkW cI pa pk ++ vdW cI xa vd ++ tgW cI xa tg ++ n3W cI nad ns ++ mW cI cJ cZ ma mo mn mw mt mv mp) H → va_D (fun q => s.heap.size ≤ q) (xcW xa sa ta pa ++ stW cI cJ sa so ++ naW cN xa nad ++ tkW ta tk ++ pkW cI pa pk ++ vdW cI xa vd ++ tgW cI xa tg ++ n3W cI nad ns ++ mW cI cJ cZ ma mo mn mw mt mv mp) → va_S (fun q => s.heap.size ≤ q) s.heap H locs → W p l e room_1 s m #[Value.ref b] below meth c H locs 44 1165 Q (F0 m 671 ls [])) : W p l e room_1 s m #[Value.ref b] below meth c H locs 44 1165 Q (F0 m 418 ls []) := by
  have hA : ∀ q : Nat, s.heap.size ≤ q → (fun q => s.heap.size ≤ q) q := fun q h => h
  have hbA : ¬ (fun q => s.heap.size ≤ q) b := fun h => absurd (show s.heap.size ≤ b from h) (by omega)
  have hs : so.2.2.2.2.2 ≤ 60 := by rw [hR.1.1]; exact hR.1.2.1
  have hp : pk.2.2.2.2.1 ≤ 60 := by rw [hR.2.2.2.1.2.2.2.1]; exact hR.2.2.2.1.2.2.2.2.1
  have ho : mo.1 ≤ 60 := hR.1.2.1
  have hq : mp.1 ≤ 60 := hR.2.2.2.1.2.2.2.2.1
  refine lv_aload_n hx hb dXL_law_418 rfl (lv_at hl 1 rfl) ?_
  refine lv_aload_n hx hb dXL_law_419 rfl (lv_at hl 0 rfl) ?_
  refine lv_iload_n hx hb dXL_law_420 rfl (lv_at hl 3 rfl) ?_
  refine lv_iconst (v := nI 1) hx hb dXL_law_421 (by decide) ?_
  refine yr_iaddN hx hb dXL_law_422 ?_
  refine yr_sld (n := 5 * j + 1) hx hb hX hbl hbA hS rfl (by omega) (by omega) dXL_law_423 ?_
  obtain ⟨r1, er1⟩ : ∃ r, r = x_collect (xs (5 * j + 1)) so ns := ⟨_, rfl⟩
  refine yz_callV (As := [.int (xs (5 * j + 1))]) (rest := []) ⟨hx, hb, hml, hown, hts⟩ (c_x_collect l D cI cJ cZ cN xa sa ta pa nad (xs (5 * j + 1)) so tk pk vd tg ns (by (try dsimp only) <;> omega) (by (try dsimp only) <;> omega) r1 er1) ⟨callB_of 1 hts (yy_good wq_404) rfl rfl rfl (hw _ wq_34) (hw _ wq_401) (by decide +kernel) ⟨Nat.le_of_ble_eq_true rfl, Nat.le_of_ble_eq_true rfl⟩, hw _ wq_402, hw _ wq_403⟩ hK hN hP hD hS hA [0, 1, 2, 3, 4, 5, 6, 7, 8, 9, 10, 11, 12, 13, 14, 15, 16, 17, 18, 19, 20, 21, 22, 23] rfl (by decide) rfl 24 rfl (w2 := (xcW xa sa ta pa ++ stW cI cJ sa so ++ naW cN xa nad ++ tkW ta tk ++ pkW cI pa pk ++ vdW cI xa vd ++ tgW cI xa tg ++ n3W cI nad r1.2 ++ mW cI cJ cZ ma mo mn mw mt mv mp)) rfl 0 rfl rfl rfl hl.1 rfl (Nat.le_of_ble_eq_true rfl) dXL_law_424 ⟨Nat.le_of_ble_eq_true rfl, Nat.le_of_ble_eq_true rfl⟩ (fun H locs hP hD hS => ?_)
  refine W.eq (g2 := F0 m 427 ls [.int r1.1]) rfl ?_
  refine lv_aload_n hx hb dXL_law_427 rfl (lv_at hl 2 rfl) ?_
  refine lv_aload_n hx hb dXL_law_428 rfl (lv_at hl 0 rfl) ?_
  refine lv_iload_n hx hb dXL_law_429 rfl (lv_at hl 3 rfl) ?_
  refine lv_iconst (v := nI 1) hx hb dXL_law_430 (by decide) ?_
  refine yr_iaddN hx hb dXL_law_431 ?_
  refine yr_sld (n := 5 * j + 1) hx hb hX hbl hbA hS rfl (by omega) (by omega) dXL_law_432 ?_
  obtain ⟨r2, er2⟩ : ∃ r, r = md_collect (xs (5 * j + 1)) mo mn := ⟨_, rfl⟩
  refine yz_callV (As := [.int (xs (5 * j + 1))]) (rest := [.int r1.1]) ⟨hx, hb, hml, hown, hts⟩ (c_md_collect l D cI cJ cZ cN ma (xs (5 * j + 1)) mo mn mw mt mv mp (by (try dsimp only) <;> omega) (by (try dsimp only) <;> omega) r2 er2) ⟨callB_of 1 hts (yy_good wq_672) rfl rfl rfl (hw _ wq_39) (hw _ wq_669) (by decide +kernel) ⟨Nat.le_of_ble_eq_true rfl, Nat.le_of_ble_eq_true rfl⟩, hw _ wq_670, hw _ wq_671⟩ hK hN hP hD hS hA [24, 25, 26, 27, 28, 29, 30, 31, 32, 33, 34, 35, 36, 37, 38, 39, 40, 41, 42, 43] rfl (by decide) rfl 44 rfl (w2 := (xcW xa sa ta pa ++ stW cI cJ sa so ++ naW cN xa nad ++ tkW ta tk ++ pkW cI pa pk ++ vdW cI xa vd ++ tgW cI xa tg ++ n3W cI nad r1.2 ++ mW cI cJ cZ ma mo r2.2 mw mt mv mp)) rfl 24 rfl rfl rfl hl.1 rfl (Nat.le_of_ble_eq_true rfl) dXL_law_433 ⟨Nat.le_of_ble_eq_true rfl, Nat.le_of_ble_eq_true rfl⟩ (fun H locs hP hD hS => ?_)
  refine W.eq (g2 := F0 m 436 ls [.int r2.1, .int r1.1]) rfl ?_
  have hrel := rel_collect hR (xs (5 * j + 1))
  rw [← er1, ← er2] at hrel
  have heq : r1.1 = r2.1 := by rw [hrel.1]
  refine lv_icmp_eq (tgt := 671) hx hb dXL_law_436 (by decide) (fun _ => ?_) (fun h => absurd heq h)
  exact kk so tk pk vd tg r1.2 mo r2.2 mw mt mv mp H locs hrel.2 hP hD hS

set_option maxHeartbeats 4000000 in
set_option maxRecDepth 100000 in
theorem lw_c_up {p : Program} {l : Launch} {e : Env} {s : State} {m : MethodId} {below : List Frame} {meth : Method} {c : Code} {b L : Nat} {xs : Nat → Int32} {D : va_G} {cI cJ cZ cN : ClassId} {xa sa ta pa ma : Nat → Nat} {nad : Nat → Nat → Nat} {Q : State → Prop} {ls : Array Slot} (hx : p.tables.exec = Jvm.exec) (hb : c.code = code) (hml : c.maxLocals = 4) (hown : s.vm.findClass RL = some m.cls) (hts : ∀ w ∈ (Cond.initialized RX4 :: yW), w.before #[Value.ref b] s = true) (hw : ∀ w ∈ yW, w.before #[Value.ref b] s = true) (hX : va_X b L xs s s.heap) (hbl : b < s.heap.size) (hK : va_K D vwCl (yT cI cJ cZ cN) s) (hN : yy_N s) {j : Nat} (hj : 5 * j + 5 ≤ L) (hL : L ≤ 2560) (so : SS) (tk : TS) (pk : PS) (vd : Nat → Int32) (tg : Nat → Int32) (ns : Nat → NS) (mo : MO) (mn : MN) (mw : MW) (mt : MT) (mv : Nat → Int32) (mp : MP) (H : Heap) (locs : List Loc) (hR : REL so tk pk vd ns mo mn mt mv mp) (hl : lv_has ls 4 [(0, .ref b), (1, .ref (xa 0)), (2, .ref (ma 0)), (3, .int (nI (5 * j)))]) (hP : va_P D vwCl (xcW xa sa ta pa ++ stW cI cJ sa so ++ naW cN xa nad ++ tkW ta tk ++ pkW cI pa pk ++ vdW cI xa vd ++ tgW cI xa tg ++ n3W cI nad ns ++ mW cI cJ cZ ma mo mn mw mt mv mp) H) (hD : va_D (fun q => s.heap.size ≤ q) (xcW xa sa ta pa ++ stW cI cJ sa so ++ naW cN xa nad ++ tkW ta tk ++ pkW cI pa pk ++ vdW cI xa vd ++ tgW cI xa tg ++ n3W cI nad ns ++ mW cI cJ cZ ma mo mn mw mt mv mp)) (hS : va_S (fun q => s.heap.size ≤ q) s.heap H locs)
    (kk : ∀ (so : SS) (tk : TS) (pk : PS) (vd : Nat → Int32) (tg : Nat → Int32) (ns : Nat → NS) (mo : MO) (mn : MN) (mw : MW) (mt : MT) (mv : Nat → Int32) (mp : MP) (H : Heap) (locs : List Loc), REL so tk pk vd ns mo mn mt mv mp → va_P D vwCl (xcW xa sa ta pa ++ stW cI cJ sa so ++ naW cN xa nad ++ tkW ta tk ++ pkW cI pa pk ++ vdW cI xa vd ++ tgW cI xa tg ++ n3W cI nad ns ++ mW cI cJ cZ ma mo mn mw mt mv mp) H → va_D (fun q => s.heap.size ≤ q) (xcW xa sa ta pa ++ stW cI cJ sa so ++ naW cN xa nad ++ tkW ta tk ++ pkW cI pa pk ++ vdW cI xa vd ++ tgW cI xa tg ++ n3W cI nad ns ++ mW cI cJ cZ ma mo mn mw mt mv mp) → va_S (fun q => s.heap.size ≤ q) s.heap H locs → W p l e room_1 s m #[Value.ref b] below meth c H locs 44 1165 Q (F0 m 671 ls [])) : W p l e room_1 s m #[Value.ref b] below meth c H locs 44 1165 Q (F0 m 441 ls []) := by
  have hA : ∀ q : Nat, s.heap.size ≤ q → (fun q => s.heap.size ≤ q) q := fun q h => h
  have hbA : ¬ (fun q => s.heap.size ≤ q) b := fun h => absurd (show s.heap.size ≤ b from h) (by omega)
  have hs : so.2.2.2.2.2 ≤ 60 := by rw [hR.1.1]; exact hR.1.2.1
  have hp : pk.2.2.2.2.1 ≤ 60 := by rw [hR.2.2.2.1.2.2.2.1]; exact hR.2.2.2.1.2.2.2.2.1
  have ho : mo.1 ≤ 60 := hR.1.2.1
  have hq : mp.1 ≤ 60 := hR.2.2.2.1.2.2.2.2.1
  refine lv_aload_n hx hb dXL_law_441 rfl (lv_at hl 1 rfl) ?_
  refine lv_aload_n hx hb dXL_law_442 rfl (lv_at hl 0 rfl) ?_
  refine lv_iload_n hx hb dXL_law_443 rfl (lv_at hl 3 rfl) ?_
  refine lv_iconst (v := nI 1) hx hb dXL_law_444 (by decide) ?_
  refine yr_iaddN hx hb dXL_law_445 ?_
  refine yr_sld (n := 5 * j + 1) hx hb hX hbl hbA hS rfl (by omega) (by omega) dXL_law_446 ?_
  obtain ⟨r1, er1⟩ : ∃ r, r = x_up (xs (5 * j + 1)) ns := ⟨_, rfl⟩
  refine yz_callV (As := [.int (xs (5 * j + 1))]) (rest := []) ⟨hx, hb, hml, hown, hts⟩ (c_x_up l D cI cJ cZ cN xa sa ta pa nad (xs (5 * j + 1)) so tk pk vd tg ns (by (try dsimp only) <;> omega) (by (try dsimp only) <;> omega) r1 er1) ⟨callB_of 1 hts (yy_good wq_413) rfl rfl rfl (hw _ wq_34) (hw _ wq_410) (by decide +kernel) ⟨Nat.le_of_ble_eq_true rfl, Nat.le_of_ble_eq_true rfl⟩, hw _ wq_411, hw _ wq_412⟩ hK hN hP hD hS hA [0, 1, 2, 3, 4, 5, 6, 7, 8, 9, 10, 11, 12, 13, 14, 15, 16, 17, 18, 19, 20, 21, 22, 23] rfl (by decide) rfl 24 rfl (w2 := (xcW xa sa ta pa ++ stW cI cJ sa so ++ naW cN xa nad ++ tkW ta tk ++ pkW cI pa pk ++ vdW cI xa vd ++ tgW cI xa tg ++ n3W cI nad ns ++ mW cI cJ cZ ma mo mn mw mt mv mp)) rfl 0 rfl rfl rfl hl.1 rfl (Nat.le_of_ble_eq_true rfl) dXL_law_447 ⟨Nat.le_of_ble_eq_true rfl, Nat.le_of_ble_eq_true rfl⟩ (fun H locs hP hD hS => ?_)
  refine W.eq (g2 := F0 m 450 ls [.int (yB r1)]) rfl ?_
  refine lv_aload_n hx hb dXL_law_450 rfl (lv_at hl 2 rfl) ?_
  refine lv_aload_n hx hb dXL_law_451 rfl (lv_at hl 0 rfl) ?_
  refine lv_iload_n hx hb dXL_law_452 rfl (lv_at hl 3 rfl) ?_
  refine lv_iconst (v := nI 1) hx hb dXL_law_453 (by decide) ?_
  refine yr_iaddN hx hb dXL_law_454 ?_
  refine yr_sld (n := 5 * j + 1) hx hb hX hbl hbA hS rfl (by omega) (by omega) dXL_law_455 ?_
  obtain ⟨r2, er2⟩ : ∃ r, r = md_up (xs (5 * j + 1)) mn := ⟨_, rfl⟩
  refine yz_callV (As := [.int (xs (5 * j + 1))]) (rest := [.int (yB r1)]) ⟨hx, hb, hml, hown, hts⟩ (c_md_up l D cI cJ cZ cN ma (xs (5 * j + 1)) mo mn mw mt mv mp (by (try dsimp only) <;> omega) (by (try dsimp only) <;> omega) r2 er2) ⟨callB_of 1 hts (yy_good wq_676) rfl rfl rfl (hw _ wq_39) (hw _ wq_673) (by decide +kernel) ⟨Nat.le_of_ble_eq_true rfl, Nat.le_of_ble_eq_true rfl⟩, hw _ wq_674, hw _ wq_675⟩ hK hN hP hD hS hA [24, 25, 26, 27, 28, 29, 30, 31, 32, 33, 34, 35, 36, 37, 38, 39, 40, 41, 42, 43] rfl (by decide) rfl 44 rfl (w2 := (xcW xa sa ta pa ++ stW cI cJ sa so ++ naW cN xa nad ++ tkW ta tk ++ pkW cI pa pk ++ vdW cI xa vd ++ tgW cI xa tg ++ n3W cI nad ns ++ mW cI cJ cZ ma mo mn mw mt mv mp)) rfl 24 rfl rfl rfl hl.1 rfl (Nat.le_of_ble_eq_true rfl) dXL_law_456 ⟨Nat.le_of_ble_eq_true rfl, Nat.le_of_ble_eq_true rfl⟩ (fun H locs hP hD hS => ?_)
  refine W.eq (g2 := F0 m 459 ls [.int (yB r2), .int (yB r1)]) rfl ?_
  have hrel := rel_up hR (xs (5 * j + 1))
  rw [← er1, ← er2] at hrel
  have heq : (yB r1) = (yB r2) := by rw [hrel]
  refine lv_icmp_eq (tgt := 671) hx hb dXL_law_459 (by decide) (fun _ => ?_) (fun h => absurd heq h)
  exact kk so tk pk vd tg ns mo mn mw mt mv mp H locs hR hP hD hS

set_option maxHeartbeats 4000000 in
set_option maxRecDepth 100000 in
theorem lw_c_reference {p : Program} {l : Launch} {e : Env} {s : State} {m : MethodId} {below : List Frame} {meth : Method} {c : Code} {b L : Nat} {xs : Nat → Int32} {D : va_G} {cI cJ cZ cN : ClassId} {xa sa ta pa ma : Nat → Nat} {nad : Nat → Nat → Nat} {Q : State → Prop} {ls : Array Slot} (hx : p.tables.exec = Jvm.exec) (hb : c.code = code) (hml : c.maxLocals = 4) (hown : s.vm.findClass RL = some m.cls) (hts : ∀ w ∈ (Cond.initialized RX4 :: yW), w.before #[Value.ref b] s = true) (hw : ∀ w ∈ yW, w.before #[Value.ref b] s = true) (hX : va_X b L xs s s.heap) (hbl : b < s.heap.size) (hK : va_K D vwCl (yT cI cJ cZ cN) s) (hN : yy_N s) {j : Nat} (hj : 5 * j + 5 ≤ L) (hL : L ≤ 2560) (so : SS) (tk : TS) (pk : PS) (vd : Nat → Int32) (tg : Nat → Int32) (ns : Nat → NS) (mo : MO) (mn : MN) (mw : MW) (mt : MT) (mv : Nat → Int32) (mp : MP) (H : Heap) (locs : List Loc) (hR : REL so tk pk vd ns mo mn mt mv mp) (hl : lv_has ls 4 [(0, .ref b), (1, .ref (xa 0)), (2, .ref (ma 0)), (3, .int (nI (5 * j)))]) (hP : va_P D vwCl (xcW xa sa ta pa ++ stW cI cJ sa so ++ naW cN xa nad ++ tkW ta tk ++ pkW cI pa pk ++ vdW cI xa vd ++ tgW cI xa tg ++ n3W cI nad ns ++ mW cI cJ cZ ma mo mn mw mt mv mp) H) (hD : va_D (fun q => s.heap.size ≤ q) (xcW xa sa ta pa ++ stW cI cJ sa so ++ naW cN xa nad ++ tkW ta tk ++ pkW cI pa pk ++ vdW cI xa vd ++ tgW cI xa tg ++ n3W cI nad ns ++ mW cI cJ cZ ma mo mn mw mt mv mp)) (hS : va_S (fun q => s.heap.size ≤ q) s.heap H locs)
    (kk : ∀ (so : SS) (tk : TS) (pk : PS) (vd : Nat → Int32) (tg : Nat → Int32) (ns : Nat → NS) (mo : MO) (mn : MN) (mw : MW) (mt : MT) (mv : Nat → Int32) (mp : MP) (H : Heap) (locs : List Loc), REL so tk pk vd ns mo mn mt mv mp → va_P D vwCl (xcW xa sa ta pa ++ stW cI cJ sa so ++ naW cN xa nad ++ tkW ta tk ++ pkW cI pa pk ++ vdW cI xa vd ++ tgW cI xa tg ++ n3W cI nad ns ++ mW cI cJ cZ ma mo mn mw mt mv mp) H → va_D (fun q => s.heap.size ≤ q) (xcW xa sa ta pa ++ stW cI cJ sa so ++ naW cN xa nad ++ tkW ta tk ++ pkW cI pa pk ++ vdW cI xa vd ++ tgW cI xa tg ++ n3W cI nad ns ++ mW cI cJ cZ ma mo mn mw mt mv mp) → va_S (fun q => s.heap.size ≤ q) s.heap H locs → W p l e room_1 s m #[Value.ref b] below meth c H locs 44 1165 Q (F0 m 671 ls [])) : W p l e room_1 s m #[Value.ref b] below meth c H locs 44 1165 Q (F0 m 464 ls []) := by
  have hA : ∀ q : Nat, s.heap.size ≤ q → (fun q => s.heap.size ≤ q) q := fun q h => h
  have hbA : ¬ (fun q => s.heap.size ≤ q) b := fun h => absurd (show s.heap.size ≤ b from h) (by omega)
  have hs : so.2.2.2.2.2 ≤ 60 := by rw [hR.1.1]; exact hR.1.2.1
  have hp : pk.2.2.2.2.1 ≤ 60 := by rw [hR.2.2.2.1.2.2.2.1]; exact hR.2.2.2.1.2.2.2.2.1
  have ho : mo.1 ≤ 60 := hR.1.2.1
  have hq : mp.1 ≤ 60 := hR.2.2.2.1.2.2.2.2.1
  refine lv_aload_n hx hb dXL_law_464 rfl (lv_at hl 1 rfl) ?_
  refine lv_aload_n hx hb dXL_law_465 rfl (lv_at hl 0 rfl) ?_
  refine lv_iload_n hx hb dXL_law_466 rfl (lv_at hl 3 rfl) ?_
  refine lv_iconst (v := nI 1) hx hb dXL_law_467 (by decide) ?_
  refine yr_iaddN hx hb dXL_law_468 ?_
  refine yr_sld (n := 5 * j + 1) hx hb hX hbl hbA hS rfl (by omega) (by omega) dXL_law_469 ?_
  refine lv_aload_n hx hb dXL_law_470 rfl (lv_at hl 0 rfl) ?_
  refine lv_iload_n hx hb dXL_law_471 rfl (lv_at hl 3 rfl) ?_
  refine lv_iconst (v := nI 2) hx hb dXL_law_472 (by decide) ?_
  refine yr_iaddN hx hb dXL_law_473 ?_
  refine yr_sld (n := 5 * j + 2) hx hb hX hbl hbA hS rfl (by omega) (by omega) dXL_law_474 ?_
  obtain ⟨r1, er1⟩ : ∃ r, r = x_reference (xs (5 * j + 1)) (xs (5 * j + 2)) ns := ⟨_, rfl⟩
  refine yz_callV (As := [.int (xs (5 * j + 1)), .int (xs (5 * j + 2))]) (rest := []) ⟨hx, hb, hml, hown, hts⟩ (c_x_reference l D cI cJ cZ cN xa sa ta pa nad (xs (5 * j + 1)) (xs (5 * j + 2)) so tk pk vd tg ns (by (try dsimp only) <;> omega) (by (try dsimp only) <;> omega) r1 er1) ⟨callB_of 2 hts (yy_good wq_417) rfl rfl rfl (hw _ wq_34) (hw _ wq_414) (by decide +kernel) ⟨Nat.le_of_ble_eq_true rfl, Nat.le_of_ble_eq_true rfl⟩, hw _ wq_415, hw _ wq_416⟩ hK hN hP hD hS hA [0, 1, 2, 3, 4, 5, 6, 7, 8, 9, 10, 11, 12, 13, 14, 15, 16, 17, 18, 19, 20, 21, 22, 23] rfl (by decide) rfl 24 rfl (w2 := (xcW xa sa ta pa ++ stW cI cJ sa so ++ naW cN xa nad ++ tkW ta tk ++ pkW cI pa pk ++ vdW cI xa vd ++ tgW cI xa tg ++ n3W cI nad ns ++ mW cI cJ cZ ma mo mn mw mt mv mp)) rfl 0 rfl rfl rfl hl.1 rfl (Nat.le_of_ble_eq_true rfl) dXL_law_475 ⟨Nat.le_of_ble_eq_true rfl, Nat.le_of_ble_eq_true rfl⟩ (fun H locs hP hD hS => ?_)
  refine W.eq (g2 := F0 m 478 ls [.int r1]) rfl ?_
  refine lv_aload_n hx hb dXL_law_478 rfl (lv_at hl 2 rfl) ?_
  refine lv_aload_n hx hb dXL_law_479 rfl (lv_at hl 0 rfl) ?_
  refine lv_iload_n hx hb dXL_law_480 rfl (lv_at hl 3 rfl) ?_
  refine lv_iconst (v := nI 1) hx hb dXL_law_481 (by decide) ?_
  refine yr_iaddN hx hb dXL_law_482 ?_
  refine yr_sld (n := 5 * j + 1) hx hb hX hbl hbA hS rfl (by omega) (by omega) dXL_law_483 ?_
  refine lv_aload_n hx hb dXL_law_484 rfl (lv_at hl 0 rfl) ?_
  refine lv_iload_n hx hb dXL_law_485 rfl (lv_at hl 3 rfl) ?_
  refine lv_iconst (v := nI 2) hx hb dXL_law_486 (by decide) ?_
  refine yr_iaddN hx hb dXL_law_487 ?_
  refine yr_sld (n := 5 * j + 2) hx hb hX hbl hbA hS rfl (by omega) (by omega) dXL_law_488 ?_
  obtain ⟨r2, er2⟩ : ∃ r, r = md_reference (xs (5 * j + 1)) (xs (5 * j + 2)) mn := ⟨_, rfl⟩
  refine yz_callV (As := [.int (xs (5 * j + 1)), .int (xs (5 * j + 2))]) (rest := [.int r1]) ⟨hx, hb, hml, hown, hts⟩ (c_md_reference l D cI cJ cZ cN ma (xs (5 * j + 1)) (xs (5 * j + 2)) mo mn mw mt mv mp (by (try dsimp only) <;> omega) (by (try dsimp only) <;> omega) r2 er2) ⟨callB_of 2 hts (yy_good wq_680) rfl rfl rfl (hw _ wq_39) (hw _ wq_677) (by decide +kernel) ⟨Nat.le_of_ble_eq_true rfl, Nat.le_of_ble_eq_true rfl⟩, hw _ wq_678, hw _ wq_679⟩ hK hN hP hD hS hA [24, 25, 26, 27, 28, 29, 30, 31, 32, 33, 34, 35, 36, 37, 38, 39, 40, 41, 42, 43] rfl (by decide) rfl 44 rfl (w2 := (xcW xa sa ta pa ++ stW cI cJ sa so ++ naW cN xa nad ++ tkW ta tk ++ pkW cI pa pk ++ vdW cI xa vd ++ tgW cI xa tg ++ n3W cI nad ns ++ mW cI cJ cZ ma mo mn mw mt mv mp)) rfl 24 rfl rfl rfl hl.1 rfl (Nat.le_of_ble_eq_true rfl) dXL_law_489 ⟨Nat.le_of_ble_eq_true rfl, Nat.le_of_ble_eq_true rfl⟩ (fun H locs hP hD hS => ?_)
  refine W.eq (g2 := F0 m 492 ls [.int r2, .int r1]) rfl ?_
  have hrel := rel_reference hR (xs (5 * j + 1)) (xs (5 * j + 2))
  rw [← er1, ← er2] at hrel
  have heq : r1 = r2 := by rw [hrel]
  refine lv_icmp_eq (tgt := 671) hx hb dXL_law_492 (by decide) (fun _ => ?_) (fun h => absurd heq h)
  exact kk so tk pk vd tg ns mo mn mw mt mv mp H locs hR hP hD hS

set_option maxHeartbeats 4000000 in
set_option maxRecDepth 100000 in
theorem lw_c_holds {p : Program} {l : Launch} {e : Env} {s : State} {m : MethodId} {below : List Frame} {meth : Method} {c : Code} {b L : Nat} {xs : Nat → Int32} {D : va_G} {cI cJ cZ cN : ClassId} {xa sa ta pa ma : Nat → Nat} {nad : Nat → Nat → Nat} {Q : State → Prop} {ls : Array Slot} (hx : p.tables.exec = Jvm.exec) (hb : c.code = code) (hml : c.maxLocals = 4) (hown : s.vm.findClass RL = some m.cls) (hts : ∀ w ∈ (Cond.initialized RX4 :: yW), w.before #[Value.ref b] s = true) (hw : ∀ w ∈ yW, w.before #[Value.ref b] s = true) (hX : va_X b L xs s s.heap) (hbl : b < s.heap.size) (hK : va_K D vwCl (yT cI cJ cZ cN) s) (hN : yy_N s) {j : Nat} (hj : 5 * j + 5 ≤ L) (hL : L ≤ 2560) (so : SS) (tk : TS) (pk : PS) (vd : Nat → Int32) (tg : Nat → Int32) (ns : Nat → NS) (mo : MO) (mn : MN) (mw : MW) (mt : MT) (mv : Nat → Int32) (mp : MP) (H : Heap) (locs : List Loc) (hR : REL so tk pk vd ns mo mn mt mv mp) (hl : lv_has ls 4 [(0, .ref b), (1, .ref (xa 0)), (2, .ref (ma 0)), (3, .int (nI (5 * j)))]) (hP : va_P D vwCl (xcW xa sa ta pa ++ stW cI cJ sa so ++ naW cN xa nad ++ tkW ta tk ++ pkW cI pa pk ++ vdW cI xa vd ++ tgW cI xa tg ++ n3W cI nad ns ++ mW cI cJ cZ ma mo mn mw mt mv mp) H) (hD : va_D (fun q => s.heap.size ≤ q) (xcW xa sa ta pa ++ stW cI cJ sa so ++ naW cN xa nad ++ tkW ta tk ++ pkW cI pa pk ++ vdW cI xa vd ++ tgW cI xa tg ++ n3W cI nad ns ++ mW cI cJ cZ ma mo mn mw mt mv mp)) (hS : va_S (fun q => s.heap.size ≤ q) s.heap H locs)
    (kk : ∀ (so : SS) (tk : TS) (pk : PS) (vd : Nat → Int32) (tg : Nat → Int32) (ns : Nat → NS) (mo : MO) (mn : MN) (mw : MW) (mt : MT) (mv : Nat → Int32) (mp : MP) (H : Heap) (locs : List Loc), REL so tk pk vd ns mo mn mt mv mp → va_P D vwCl (xcW xa sa ta pa ++ stW cI cJ sa so ++ naW cN xa nad ++ tkW ta tk ++ pkW cI pa pk ++ vdW cI xa vd ++ tgW cI xa tg ++ n3W cI nad ns ++ mW cI cJ cZ ma mo mn mw mt mv mp) H → va_D (fun q => s.heap.size ≤ q) (xcW xa sa ta pa ++ stW cI cJ sa so ++ naW cN xa nad ++ tkW ta tk ++ pkW cI pa pk ++ vdW cI xa vd ++ tgW cI xa tg ++ n3W cI nad ns ++ mW cI cJ cZ ma mo mn mw mt mv mp) → va_S (fun q => s.heap.size ≤ q) s.heap H locs → W p l e room_1 s m #[Value.ref b] below meth c H locs 44 1165 Q (F0 m 671 ls [])) : W p l e room_1 s m #[Value.ref b] below meth c H locs 44 1165 Q (F0 m 497 ls []) := by
  have hA : ∀ q : Nat, s.heap.size ≤ q → (fun q => s.heap.size ≤ q) q := fun q h => h
  have hbA : ¬ (fun q => s.heap.size ≤ q) b := fun h => absurd (show s.heap.size ≤ b from h) (by omega)
  have hs : so.2.2.2.2.2 ≤ 60 := by rw [hR.1.1]; exact hR.1.2.1
  have hp : pk.2.2.2.2.1 ≤ 60 := by rw [hR.2.2.2.1.2.2.2.1]; exact hR.2.2.2.1.2.2.2.2.1
  have ho : mo.1 ≤ 60 := hR.1.2.1
  have hq : mp.1 ≤ 60 := hR.2.2.2.1.2.2.2.2.1
  refine lv_aload_n hx hb dXL_law_497 rfl (lv_at hl 1 rfl) ?_
  refine lv_aload_n hx hb dXL_law_498 rfl (lv_at hl 0 rfl) ?_
  refine lv_iload_n hx hb dXL_law_499 rfl (lv_at hl 3 rfl) ?_
  refine lv_iconst (v := nI 1) hx hb dXL_law_500 (by decide) ?_
  refine yr_iaddN hx hb dXL_law_501 ?_
  refine yr_sld (n := 5 * j + 1) hx hb hX hbl hbA hS rfl (by omega) (by omega) dXL_law_502 ?_
  refine lv_aload_n hx hb dXL_law_503 rfl (lv_at hl 0 rfl) ?_
  refine lv_iload_n hx hb dXL_law_504 rfl (lv_at hl 3 rfl) ?_
  refine lv_iconst (v := nI 2) hx hb dXL_law_505 (by decide) ?_
  refine yr_iaddN hx hb dXL_law_506 ?_
  refine yr_sld (n := 5 * j + 2) hx hb hX hbl hbA hS rfl (by omega) (by omega) dXL_law_507 ?_
  obtain ⟨r1, er1⟩ : ∃ r, r = x_holds (xs (5 * j + 1)) (xs (5 * j + 2)) ns := ⟨_, rfl⟩
  refine yz_callV (As := [.int (xs (5 * j + 1)), .int (xs (5 * j + 2))]) (rest := []) ⟨hx, hb, hml, hown, hts⟩ (c_x_holds l D cI cJ cZ cN xa sa ta pa nad (xs (5 * j + 1)) (xs (5 * j + 2)) so tk pk vd tg ns (by (try dsimp only) <;> omega) (by (try dsimp only) <;> omega) r1 er1) ⟨callB_of 2 hts (yy_good wq_421) rfl rfl rfl (hw _ wq_34) (hw _ wq_418) (by decide +kernel) ⟨Nat.le_of_ble_eq_true rfl, Nat.le_of_ble_eq_true rfl⟩, hw _ wq_419, hw _ wq_420⟩ hK hN hP hD hS hA [0, 1, 2, 3, 4, 5, 6, 7, 8, 9, 10, 11, 12, 13, 14, 15, 16, 17, 18, 19, 20, 21, 22, 23] rfl (by decide) rfl 24 rfl (w2 := (xcW xa sa ta pa ++ stW cI cJ sa so ++ naW cN xa nad ++ tkW ta tk ++ pkW cI pa pk ++ vdW cI xa vd ++ tgW cI xa tg ++ n3W cI nad ns ++ mW cI cJ cZ ma mo mn mw mt mv mp)) rfl 0 rfl rfl rfl hl.1 rfl (Nat.le_of_ble_eq_true rfl) dXL_law_508 ⟨Nat.le_of_ble_eq_true rfl, Nat.le_of_ble_eq_true rfl⟩ (fun H locs hP hD hS => ?_)
  refine W.eq (g2 := F0 m 511 ls [.int r1]) rfl ?_
  refine lv_aload_n hx hb dXL_law_511 rfl (lv_at hl 2 rfl) ?_
  refine lv_aload_n hx hb dXL_law_512 rfl (lv_at hl 0 rfl) ?_
  refine lv_iload_n hx hb dXL_law_513 rfl (lv_at hl 3 rfl) ?_
  refine lv_iconst (v := nI 1) hx hb dXL_law_514 (by decide) ?_
  refine yr_iaddN hx hb dXL_law_515 ?_
  refine yr_sld (n := 5 * j + 1) hx hb hX hbl hbA hS rfl (by omega) (by omega) dXL_law_516 ?_
  refine lv_aload_n hx hb dXL_law_517 rfl (lv_at hl 0 rfl) ?_
  refine lv_iload_n hx hb dXL_law_518 rfl (lv_at hl 3 rfl) ?_
  refine lv_iconst (v := nI 2) hx hb dXL_law_519 (by decide) ?_
  refine yr_iaddN hx hb dXL_law_520 ?_
  refine yr_sld (n := 5 * j + 2) hx hb hX hbl hbA hS rfl (by omega) (by omega) dXL_law_521 ?_
  obtain ⟨r2, er2⟩ : ∃ r, r = md_holds (xs (5 * j + 1)) (xs (5 * j + 2)) mo mn := ⟨_, rfl⟩
  refine yz_callV (As := [.int (xs (5 * j + 1)), .int (xs (5 * j + 2))]) (rest := [.int r1]) ⟨hx, hb, hml, hown, hts⟩ (c_md_holds l D cI cJ cZ cN ma (xs (5 * j + 1)) (xs (5 * j + 2)) mo mn mw mt mv mp (by (try dsimp only) <;> omega) (by (try dsimp only) <;> omega) r2 er2) ⟨callB_of 2 hts (yy_good wq_684) rfl rfl rfl (hw _ wq_39) (hw _ wq_681) (by decide +kernel) ⟨Nat.le_of_ble_eq_true rfl, Nat.le_of_ble_eq_true rfl⟩, hw _ wq_682, hw _ wq_683⟩ hK hN hP hD hS hA [24, 25, 26, 27, 28, 29, 30, 31, 32, 33, 34, 35, 36, 37, 38, 39, 40, 41, 42, 43] rfl (by decide) rfl 44 rfl (w2 := (xcW xa sa ta pa ++ stW cI cJ sa so ++ naW cN xa nad ++ tkW ta tk ++ pkW cI pa pk ++ vdW cI xa vd ++ tgW cI xa tg ++ n3W cI nad ns ++ mW cI cJ cZ ma mo mn mw mt mv mp)) rfl 24 rfl rfl rfl hl.1 rfl (Nat.le_of_ble_eq_true rfl) dXL_law_522 ⟨Nat.le_of_ble_eq_true rfl, Nat.le_of_ble_eq_true rfl⟩ (fun H locs hP hD hS => ?_)
  refine W.eq (g2 := F0 m 525 ls [.int r2, .int r1]) rfl ?_
  have hrel := rel_holds hR (xs (5 * j + 1)) (xs (5 * j + 2))
  rw [← er1, ← er2] at hrel
  have heq : r1 = r2 := by rw [hrel]
  refine lv_icmp_eq (tgt := 671) hx hb dXL_law_525 (by decide) (fun _ => ?_) (fun h => absurd heq h)
  exact kk so tk pk vd tg ns mo mn mw mt mv mp H locs hR hP hD hS

set_option maxHeartbeats 4000000 in
set_option maxRecDepth 100000 in
theorem lw_c_count {p : Program} {l : Launch} {e : Env} {s : State} {m : MethodId} {below : List Frame} {meth : Method} {c : Code} {b L : Nat} {xs : Nat → Int32} {D : va_G} {cI cJ cZ cN : ClassId} {xa sa ta pa ma : Nat → Nat} {nad : Nat → Nat → Nat} {Q : State → Prop} {ls : Array Slot} (hx : p.tables.exec = Jvm.exec) (hb : c.code = code) (hml : c.maxLocals = 4) (hown : s.vm.findClass RL = some m.cls) (hts : ∀ w ∈ (Cond.initialized RX4 :: yW), w.before #[Value.ref b] s = true) (hw : ∀ w ∈ yW, w.before #[Value.ref b] s = true) (hX : va_X b L xs s s.heap) (hbl : b < s.heap.size) (hK : va_K D vwCl (yT cI cJ cZ cN) s) (hN : yy_N s) {j : Nat} (hj : 5 * j + 5 ≤ L) (hL : L ≤ 2560) (so : SS) (tk : TS) (pk : PS) (vd : Nat → Int32) (tg : Nat → Int32) (ns : Nat → NS) (mo : MO) (mn : MN) (mw : MW) (mt : MT) (mv : Nat → Int32) (mp : MP) (H : Heap) (locs : List Loc) (hR : REL so tk pk vd ns mo mn mt mv mp) (hl : lv_has ls 4 [(0, .ref b), (1, .ref (xa 0)), (2, .ref (ma 0)), (3, .int (nI (5 * j)))]) (hP : va_P D vwCl (xcW xa sa ta pa ++ stW cI cJ sa so ++ naW cN xa nad ++ tkW ta tk ++ pkW cI pa pk ++ vdW cI xa vd ++ tgW cI xa tg ++ n3W cI nad ns ++ mW cI cJ cZ ma mo mn mw mt mv mp) H) (hD : va_D (fun q => s.heap.size ≤ q) (xcW xa sa ta pa ++ stW cI cJ sa so ++ naW cN xa nad ++ tkW ta tk ++ pkW cI pa pk ++ vdW cI xa vd ++ tgW cI xa tg ++ n3W cI nad ns ++ mW cI cJ cZ ma mo mn mw mt mv mp)) (hS : va_S (fun q => s.heap.size ≤ q) s.heap H locs)
    (kk : ∀ (so : SS) (tk : TS) (pk : PS) (vd : Nat → Int32) (tg : Nat → Int32) (ns : Nat → NS) (mo : MO) (mn : MN) (mw : MW) (mt : MT) (mv : Nat → Int32) (mp : MP) (H : Heap) (locs : List Loc), REL so tk pk vd ns mo mn mt mv mp → va_P D vwCl (xcW xa sa ta pa ++ stW cI cJ sa so ++ naW cN xa nad ++ tkW ta tk ++ pkW cI pa pk ++ vdW cI xa vd ++ tgW cI xa tg ++ n3W cI nad ns ++ mW cI cJ cZ ma mo mn mw mt mv mp) H → va_D (fun q => s.heap.size ≤ q) (xcW xa sa ta pa ++ stW cI cJ sa so ++ naW cN xa nad ++ tkW ta tk ++ pkW cI pa pk ++ vdW cI xa vd ++ tgW cI xa tg ++ n3W cI nad ns ++ mW cI cJ cZ ma mo mn mw mt mv mp) → va_S (fun q => s.heap.size ≤ q) s.heap H locs → W p l e room_1 s m #[Value.ref b] below meth c H locs 44 1165 Q (F0 m 671 ls [])) : W p l e room_1 s m #[Value.ref b] below meth c H locs 44 1165 Q (F0 m 530 ls []) := by
  have hA : ∀ q : Nat, s.heap.size ≤ q → (fun q => s.heap.size ≤ q) q := fun q h => h
  have hbA : ¬ (fun q => s.heap.size ≤ q) b := fun h => absurd (show s.heap.size ≤ b from h) (by omega)
  have hs : so.2.2.2.2.2 ≤ 60 := by rw [hR.1.1]; exact hR.1.2.1
  have hp : pk.2.2.2.2.1 ≤ 60 := by rw [hR.2.2.2.1.2.2.2.1]; exact hR.2.2.2.1.2.2.2.2.1
  have ho : mo.1 ≤ 60 := hR.1.2.1
  have hq : mp.1 ≤ 60 := hR.2.2.2.1.2.2.2.2.1
  refine lv_aload_n hx hb dXL_law_530 rfl (lv_at hl 1 rfl) ?_
  refine lv_aload_n hx hb dXL_law_531 rfl (lv_at hl 0 rfl) ?_
  refine lv_iload_n hx hb dXL_law_532 rfl (lv_at hl 3 rfl) ?_
  refine lv_iconst (v := nI 1) hx hb dXL_law_533 (by decide) ?_
  refine yr_iaddN hx hb dXL_law_534 ?_
  refine yr_sld (n := 5 * j + 1) hx hb hX hbl hbA hS rfl (by omega) (by omega) dXL_law_535 ?_
  obtain ⟨r1, er1⟩ : ∃ r, r = x_count (xs (5 * j + 1)) ns := ⟨_, rfl⟩
  refine yz_callV (As := [.int (xs (5 * j + 1))]) (rest := []) ⟨hx, hb, hml, hown, hts⟩ (c_x_count l D cI cJ cZ cN xa sa ta pa nad (xs (5 * j + 1)) so tk pk vd tg ns (by (try dsimp only) <;> omega) (by (try dsimp only) <;> omega) r1 er1) ⟨callB_of 1 hts (yy_good wq_425) rfl rfl rfl (hw _ wq_34) (hw _ wq_422) (by decide +kernel) ⟨Nat.le_of_ble_eq_true rfl, Nat.le_of_ble_eq_true rfl⟩, hw _ wq_423, hw _ wq_424⟩ hK hN hP hD hS hA [0, 1, 2, 3, 4, 5, 6, 7, 8, 9, 10, 11, 12, 13, 14, 15, 16, 17, 18, 19, 20, 21, 22, 23] rfl (by decide) rfl 24 rfl (w2 := (xcW xa sa ta pa ++ stW cI cJ sa so ++ naW cN xa nad ++ tkW ta tk ++ pkW cI pa pk ++ vdW cI xa vd ++ tgW cI xa tg ++ n3W cI nad ns ++ mW cI cJ cZ ma mo mn mw mt mv mp)) rfl 0 rfl rfl rfl hl.1 rfl (Nat.le_of_ble_eq_true rfl) dXL_law_536 ⟨Nat.le_of_ble_eq_true rfl, Nat.le_of_ble_eq_true rfl⟩ (fun H locs hP hD hS => ?_)
  refine W.eq (g2 := F0 m 539 ls [.int r1]) rfl ?_
  refine lv_aload_n hx hb dXL_law_539 rfl (lv_at hl 2 rfl) ?_
  refine lv_aload_n hx hb dXL_law_540 rfl (lv_at hl 0 rfl) ?_
  refine lv_iload_n hx hb dXL_law_541 rfl (lv_at hl 3 rfl) ?_
  refine lv_iconst (v := nI 1) hx hb dXL_law_542 (by decide) ?_
  refine yr_iaddN hx hb dXL_law_543 ?_
  refine yr_sld (n := 5 * j + 1) hx hb hX hbl hbA hS rfl (by omega) (by omega) dXL_law_544 ?_
  obtain ⟨r2, er2⟩ : ∃ r, r = md_count (xs (5 * j + 1)) mn := ⟨_, rfl⟩
  refine yz_callV (As := [.int (xs (5 * j + 1))]) (rest := [.int r1]) ⟨hx, hb, hml, hown, hts⟩ (c_md_count l D cI cJ cZ cN ma (xs (5 * j + 1)) mo mn mw mt mv mp (by (try dsimp only) <;> omega) (by (try dsimp only) <;> omega) r2 er2) ⟨callB_of 1 hts (yy_good wq_688) rfl rfl rfl (hw _ wq_39) (hw _ wq_685) (by decide +kernel) ⟨Nat.le_of_ble_eq_true rfl, Nat.le_of_ble_eq_true rfl⟩, hw _ wq_686, hw _ wq_687⟩ hK hN hP hD hS hA [24, 25, 26, 27, 28, 29, 30, 31, 32, 33, 34, 35, 36, 37, 38, 39, 40, 41, 42, 43] rfl (by decide) rfl 44 rfl (w2 := (xcW xa sa ta pa ++ stW cI cJ sa so ++ naW cN xa nad ++ tkW ta tk ++ pkW cI pa pk ++ vdW cI xa vd ++ tgW cI xa tg ++ n3W cI nad ns ++ mW cI cJ cZ ma mo mn mw mt mv mp)) rfl 24 rfl rfl rfl hl.1 rfl (Nat.le_of_ble_eq_true rfl) dXL_law_545 ⟨Nat.le_of_ble_eq_true rfl, Nat.le_of_ble_eq_true rfl⟩ (fun H locs hP hD hS => ?_)
  refine W.eq (g2 := F0 m 548 ls [.int r2, .int r1]) rfl ?_
  have hrel := rel_count hR (xs (5 * j + 1))
  rw [← er1, ← er2] at hrel
  have heq : r1 = r2 := by rw [hrel]
  refine lv_icmp_eq (tgt := 671) hx hb dXL_law_548 (by decide) (fun _ => ?_) (fun h => absurd heq h)
  exact kk so tk pk vd tg ns mo mn mw mt mv mp H locs hR hP hD hS

set_option maxHeartbeats 4000000 in
set_option maxRecDepth 100000 in
theorem lw_c_talk {p : Program} {l : Launch} {e : Env} {s : State} {m : MethodId} {below : List Frame} {meth : Method} {c : Code} {b L : Nat} {xs : Nat → Int32} {D : va_G} {cI cJ cZ cN : ClassId} {xa sa ta pa ma : Nat → Nat} {nad : Nat → Nat → Nat} {Q : State → Prop} {ls : Array Slot} (hx : p.tables.exec = Jvm.exec) (hb : c.code = code) (hml : c.maxLocals = 4) (hown : s.vm.findClass RL = some m.cls) (hts : ∀ w ∈ (Cond.initialized RX4 :: yW), w.before #[Value.ref b] s = true) (hw : ∀ w ∈ yW, w.before #[Value.ref b] s = true) (hX : va_X b L xs s s.heap) (hbl : b < s.heap.size) (hK : va_K D vwCl (yT cI cJ cZ cN) s) (hN : yy_N s) {j : Nat} (hj : 5 * j + 5 ≤ L) (hL : L ≤ 2560) (so : SS) (tk : TS) (pk : PS) (vd : Nat → Int32) (tg : Nat → Int32) (ns : Nat → NS) (mo : MO) (mn : MN) (mw : MW) (mt : MT) (mv : Nat → Int32) (mp : MP) (H : Heap) (locs : List Loc) (hR : REL so tk pk vd ns mo mn mt mv mp) (hl : lv_has ls 4 [(0, .ref b), (1, .ref (xa 0)), (2, .ref (ma 0)), (3, .int (nI (5 * j)))]) (hP : va_P D vwCl (xcW xa sa ta pa ++ stW cI cJ sa so ++ naW cN xa nad ++ tkW ta tk ++ pkW cI pa pk ++ vdW cI xa vd ++ tgW cI xa tg ++ n3W cI nad ns ++ mW cI cJ cZ ma mo mn mw mt mv mp) H) (hD : va_D (fun q => s.heap.size ≤ q) (xcW xa sa ta pa ++ stW cI cJ sa so ++ naW cN xa nad ++ tkW ta tk ++ pkW cI pa pk ++ vdW cI xa vd ++ tgW cI xa tg ++ n3W cI nad ns ++ mW cI cJ cZ ma mo mn mw mt mv mp)) (hS : va_S (fun q => s.heap.size ≤ q) s.heap H locs)
    (kk : ∀ (so : SS) (tk : TS) (pk : PS) (vd : Nat → Int32) (tg : Nat → Int32) (ns : Nat → NS) (mo : MO) (mn : MN) (mw : MW) (mt : MT) (mv : Nat → Int32) (mp : MP) (H : Heap) (locs : List Loc), REL so tk pk vd ns mo mn mt mv mp → va_P D vwCl (xcW xa sa ta pa ++ stW cI cJ sa so ++ naW cN xa nad ++ tkW ta tk ++ pkW cI pa pk ++ vdW cI xa vd ++ tgW cI xa tg ++ n3W cI nad ns ++ mW cI cJ cZ ma mo mn mw mt mv mp) H → va_D (fun q => s.heap.size ≤ q) (xcW xa sa ta pa ++ stW cI cJ sa so ++ naW cN xa nad ++ tkW ta tk ++ pkW cI pa pk ++ vdW cI xa vd ++ tgW cI xa tg ++ n3W cI nad ns ++ mW cI cJ cZ ma mo mn mw mt mv mp) → va_S (fun q => s.heap.size ≤ q) s.heap H locs → W p l e room_1 s m #[Value.ref b] below meth c H locs 44 1165 Q (F0 m 671 ls [])) : W p l e room_1 s m #[Value.ref b] below meth c H locs 44 1165 Q (F0 m 553 ls []) := by
  have hA : ∀ q : Nat, s.heap.size ≤ q → (fun q => s.heap.size ≤ q) q := fun q h => h
  have hbA : ¬ (fun q => s.heap.size ≤ q) b := fun h => absurd (show s.heap.size ≤ b from h) (by omega)
  have hs : so.2.2.2.2.2 ≤ 60 := by rw [hR.1.1]; exact hR.1.2.1
  have hp : pk.2.2.2.2.1 ≤ 60 := by rw [hR.2.2.2.1.2.2.2.1]; exact hR.2.2.2.1.2.2.2.2.1
  have ho : mo.1 ≤ 60 := hR.1.2.1
  have hq : mp.1 ≤ 60 := hR.2.2.2.1.2.2.2.2.1
  refine lv_aload_n hx hb dXL_law_553 rfl (lv_at hl 1 rfl) ?_
  refine lv_aload_n hx hb dXL_law_554 rfl (lv_at hl 0 rfl) ?_
  refine lv_iload_n hx hb dXL_law_555 rfl (lv_at hl 3 rfl) ?_
  refine lv_iconst (v := nI 1) hx hb dXL_law_556 (by decide) ?_
  refine yr_iaddN hx hb dXL_law_557 ?_
  refine yr_sld (n := 5 * j + 1) hx hb hX hbl hbA hS rfl (by omega) (by omega) dXL_law_558 ?_
  obtain ⟨r1, er1⟩ : ∃ r, r = x_talk (xs (5 * j + 1)) tk := ⟨_, rfl⟩
  refine yz_callV (As := [.int (xs (5 * j + 1))]) (rest := []) ⟨hx, hb, hml, hown, hts⟩ (c_x_talk l D cI cJ cZ cN xa sa ta pa nad (xs (5 * j + 1)) so tk pk vd tg ns (by (try dsimp only) <;> omega) (by (try dsimp only) <;> omega) r1 er1) ⟨callB_of 1 hts (yy_good wq_430) rfl rfl rfl (hw _ wq_34) (hw _ wq_427) (by decide +kernel) ⟨Nat.le_of_ble_eq_true rfl, Nat.le_of_ble_eq_true rfl⟩, hw _ wq_428, hw _ wq_429⟩ hK hN hP hD hS hA [0, 1, 2, 3, 4, 5, 6, 7, 8, 9, 10, 11, 12, 13, 14, 15, 16, 17, 18, 19, 20, 21, 22, 23] rfl (by decide) rfl 24 rfl (w2 := (xcW xa sa ta pa ++ stW cI cJ sa so ++ naW cN xa nad ++ tkW ta tk ++ pkW cI pa pk ++ vdW cI xa vd ++ tgW cI xa tg ++ n3W cI nad ns ++ mW cI cJ cZ ma mo mn mw mt mv mp)) rfl 0 rfl rfl rfl hl.1 rfl (Nat.le_of_ble_eq_true rfl) dXL_law_559 ⟨Nat.le_of_ble_eq_true rfl, Nat.le_of_ble_eq_true rfl⟩ (fun H locs hP hD hS => ?_)
  refine W.eq (g2 := F0 m 562 ls [.int r1]) rfl ?_
  refine lv_aload_n hx hb dXL_law_562 rfl (lv_at hl 2 rfl) ?_
  refine lv_aload_n hx hb dXL_law_563 rfl (lv_at hl 0 rfl) ?_
  refine lv_iload_n hx hb dXL_law_564 rfl (lv_at hl 3 rfl) ?_
  refine lv_iconst (v := nI 1) hx hb dXL_law_565 (by decide) ?_
  refine yr_iaddN hx hb dXL_law_566 ?_
  refine yr_sld (n := 5 * j + 1) hx hb hX hbl hbA hS rfl (by omega) (by omega) dXL_law_567 ?_
  obtain ⟨r2, er2⟩ : ∃ r, r = md_talk (xs (5 * j + 1)) mt := ⟨_, rfl⟩
  refine yz_callV (As := [.int (xs (5 * j + 1))]) (rest := [.int r1]) ⟨hx, hb, hml, hown, hts⟩ (c_md_talk l D cI cJ cZ cN ma (xs (5 * j + 1)) mo mn mw mt mv mp (by (try dsimp only) <;> omega) (by (try dsimp only) <;> omega) r2 er2) ⟨callB_of 1 hts (yy_good wq_692) rfl rfl rfl (hw _ wq_39) (hw _ wq_689) (by decide +kernel) ⟨Nat.le_of_ble_eq_true rfl, Nat.le_of_ble_eq_true rfl⟩, hw _ wq_690, hw _ wq_691⟩ hK hN hP hD hS hA [24, 25, 26, 27, 28, 29, 30, 31, 32, 33, 34, 35, 36, 37, 38, 39, 40, 41, 42, 43] rfl (by decide) rfl 44 rfl (w2 := (xcW xa sa ta pa ++ stW cI cJ sa so ++ naW cN xa nad ++ tkW ta tk ++ pkW cI pa pk ++ vdW cI xa vd ++ tgW cI xa tg ++ n3W cI nad ns ++ mW cI cJ cZ ma mo mn mw mt mv mp)) rfl 24 rfl rfl rfl hl.1 rfl (Nat.le_of_ble_eq_true rfl) dXL_law_568 ⟨Nat.le_of_ble_eq_true rfl, Nat.le_of_ble_eq_true rfl⟩ (fun H locs hP hD hS => ?_)
  refine W.eq (g2 := F0 m 571 ls [.int r2, .int r1]) rfl ?_
  have hrel := rel_talk hR (xs (5 * j + 1))
  rw [← er1, ← er2] at hrel
  have heq : r1 = r2 := by rw [hrel]
  refine lv_icmp_eq (tgt := 671) hx hb dXL_law_571 (by decide) (fun _ => ?_) (fun h => absurd heq h)
  exact kk so tk pk vd tg ns mo mn mw mt mv mp H locs hR hP hD hS

set_option maxHeartbeats 4000000 in
set_option maxRecDepth 100000 in
theorem lw_c_packed {p : Program} {l : Launch} {e : Env} {s : State} {m : MethodId} {below : List Frame} {meth : Method} {c : Code} {b L : Nat} {xs : Nat → Int32} {D : va_G} {cI cJ cZ cN : ClassId} {xa sa ta pa ma : Nat → Nat} {nad : Nat → Nat → Nat} {Q : State → Prop} {ls : Array Slot} (hx : p.tables.exec = Jvm.exec) (hb : c.code = code) (hml : c.maxLocals = 4) (hown : s.vm.findClass RL = some m.cls) (hts : ∀ w ∈ (Cond.initialized RX4 :: yW), w.before #[Value.ref b] s = true) (hw : ∀ w ∈ yW, w.before #[Value.ref b] s = true) (hX : va_X b L xs s s.heap) (hbl : b < s.heap.size) (hK : va_K D vwCl (yT cI cJ cZ cN) s) (hN : yy_N s) {j : Nat} (hj : 5 * j + 5 ≤ L) (hL : L ≤ 2560) (so : SS) (tk : TS) (pk : PS) (vd : Nat → Int32) (tg : Nat → Int32) (ns : Nat → NS) (mo : MO) (mn : MN) (mw : MW) (mt : MT) (mv : Nat → Int32) (mp : MP) (H : Heap) (locs : List Loc) (hR : REL so tk pk vd ns mo mn mt mv mp) (hl : lv_has ls 4 [(0, .ref b), (1, .ref (xa 0)), (2, .ref (ma 0)), (3, .int (nI (5 * j)))]) (hP : va_P D vwCl (xcW xa sa ta pa ++ stW cI cJ sa so ++ naW cN xa nad ++ tkW ta tk ++ pkW cI pa pk ++ vdW cI xa vd ++ tgW cI xa tg ++ n3W cI nad ns ++ mW cI cJ cZ ma mo mn mw mt mv mp) H) (hD : va_D (fun q => s.heap.size ≤ q) (xcW xa sa ta pa ++ stW cI cJ sa so ++ naW cN xa nad ++ tkW ta tk ++ pkW cI pa pk ++ vdW cI xa vd ++ tgW cI xa tg ++ n3W cI nad ns ++ mW cI cJ cZ ma mo mn mw mt mv mp)) (hS : va_S (fun q => s.heap.size ≤ q) s.heap H locs)
    (kk : ∀ (so : SS) (tk : TS) (pk : PS) (vd : Nat → Int32) (tg : Nat → Int32) (ns : Nat → NS) (mo : MO) (mn : MN) (mw : MW) (mt : MT) (mv : Nat → Int32) (mp : MP) (H : Heap) (locs : List Loc), REL so tk pk vd ns mo mn mt mv mp → va_P D vwCl (xcW xa sa ta pa ++ stW cI cJ sa so ++ naW cN xa nad ++ tkW ta tk ++ pkW cI pa pk ++ vdW cI xa vd ++ tgW cI xa tg ++ n3W cI nad ns ++ mW cI cJ cZ ma mo mn mw mt mv mp) H → va_D (fun q => s.heap.size ≤ q) (xcW xa sa ta pa ++ stW cI cJ sa so ++ naW cN xa nad ++ tkW ta tk ++ pkW cI pa pk ++ vdW cI xa vd ++ tgW cI xa tg ++ n3W cI nad ns ++ mW cI cJ cZ ma mo mn mw mt mv mp) → va_S (fun q => s.heap.size ≤ q) s.heap H locs → W p l e room_1 s m #[Value.ref b] below meth c H locs 44 1165 Q (F0 m 671 ls [])) : W p l e room_1 s m #[Value.ref b] below meth c H locs 44 1165 Q (F0 m 576 ls []) := by
  have hA : ∀ q : Nat, s.heap.size ≤ q → (fun q => s.heap.size ≤ q) q := fun q h => h
  have hbA : ¬ (fun q => s.heap.size ≤ q) b := fun h => absurd (show s.heap.size ≤ b from h) (by omega)
  have hs : so.2.2.2.2.2 ≤ 60 := by rw [hR.1.1]; exact hR.1.2.1
  have hp : pk.2.2.2.2.1 ≤ 60 := by rw [hR.2.2.2.1.2.2.2.1]; exact hR.2.2.2.1.2.2.2.2.1
  have ho : mo.1 ≤ 60 := hR.1.2.1
  have hq : mp.1 ≤ 60 := hR.2.2.2.1.2.2.2.2.1
  refine lv_aload_n hx hb dXL_law_576 rfl (lv_at hl 1 rfl) ?_
  obtain ⟨r1, er1⟩ : ∃ r, r = x_packed pk := ⟨_, rfl⟩
  refine yz_callV (As := []) (rest := []) ⟨hx, hb, hml, hown, hts⟩ (c_x_packed l D cI cJ cZ cN xa sa ta pa nad so tk pk vd tg ns (by (try dsimp only) <;> omega) (by (try dsimp only) <;> omega) r1 er1) ⟨callB_of 0 hts (yy_good wq_446) rfl rfl rfl (hw _ wq_34) (hw _ wq_443) (by decide +kernel) ⟨Nat.le_of_ble_eq_true rfl, Nat.le_of_ble_eq_true rfl⟩, hw _ wq_444, hw _ wq_445⟩ hK hN hP hD hS hA [0, 1, 2, 3, 4, 5, 6, 7, 8, 9, 10, 11, 12, 13, 14, 15, 16, 17, 18, 19, 20, 21, 22, 23] rfl (by decide) rfl 24 rfl (w2 := (xcW xa sa ta pa ++ stW cI cJ sa so ++ naW cN xa nad ++ tkW ta tk ++ pkW cI pa pk ++ vdW cI xa vd ++ tgW cI xa tg ++ n3W cI nad ns ++ mW cI cJ cZ ma mo mn mw mt mv mp)) rfl 0 rfl rfl rfl hl.1 rfl (Nat.le_of_ble_eq_true rfl) dXL_law_577 ⟨Nat.le_of_ble_eq_true rfl, Nat.le_of_ble_eq_true rfl⟩ (fun H locs hP hD hS => ?_)
  refine W.eq (g2 := F0 m 580 ls [.int (nI r1)]) rfl ?_
  refine lv_aload_n hx hb dXL_law_580 rfl (lv_at hl 2 rfl) ?_
  obtain ⟨r2, er2⟩ : ∃ r, r = md_packed mp := ⟨_, rfl⟩
  refine yz_callV (As := []) (rest := [.int (nI r1)]) ⟨hx, hb, hml, hown, hts⟩ (c_md_packed l D cI cJ cZ cN ma mo mn mw mt mv mp (by (try dsimp only) <;> omega) (by (try dsimp only) <;> omega) r2 er2) ⟨callB_of 0 hts (yy_good wq_696) rfl rfl rfl (hw _ wq_39) (hw _ wq_693) (by decide +kernel) ⟨Nat.le_of_ble_eq_true rfl, Nat.le_of_ble_eq_true rfl⟩, hw _ wq_694, hw _ wq_695⟩ hK hN hP hD hS hA [24, 25, 26, 27, 28, 29, 30, 31, 32, 33, 34, 35, 36, 37, 38, 39, 40, 41, 42, 43] rfl (by decide) rfl 44 rfl (w2 := (xcW xa sa ta pa ++ stW cI cJ sa so ++ naW cN xa nad ++ tkW ta tk ++ pkW cI pa pk ++ vdW cI xa vd ++ tgW cI xa tg ++ n3W cI nad ns ++ mW cI cJ cZ ma mo mn mw mt mv mp)) rfl 24 rfl rfl rfl hl.1 rfl (Nat.le_of_ble_eq_true rfl) dXL_law_581 ⟨Nat.le_of_ble_eq_true rfl, Nat.le_of_ble_eq_true rfl⟩ (fun H locs hP hD hS => ?_)
  refine W.eq (g2 := F0 m 584 ls [.int (nI r2), .int (nI r1)]) rfl ?_
  have hrel := rel_packed hR 
  rw [← er1, ← er2] at hrel
  have heq : (nI r1) = (nI r2) := by rw [hrel]
  refine lv_icmp_eq (tgt := 671) hx hb dXL_law_584 (by decide) (fun _ => ?_) (fun h => absurd heq h)
  exact kk so tk pk vd tg ns mo mn mw mt mv mp H locs hR hP hD hS

set_option maxHeartbeats 4000000 in
set_option maxRecDepth 100000 in
theorem lw_c_packAt {p : Program} {l : Launch} {e : Env} {s : State} {m : MethodId} {below : List Frame} {meth : Method} {c : Code} {b L : Nat} {xs : Nat → Int32} {D : va_G} {cI cJ cZ cN : ClassId} {xa sa ta pa ma : Nat → Nat} {nad : Nat → Nat → Nat} {Q : State → Prop} {ls : Array Slot} (hx : p.tables.exec = Jvm.exec) (hb : c.code = code) (hml : c.maxLocals = 4) (hown : s.vm.findClass RL = some m.cls) (hts : ∀ w ∈ (Cond.initialized RX4 :: yW), w.before #[Value.ref b] s = true) (hw : ∀ w ∈ yW, w.before #[Value.ref b] s = true) (hX : va_X b L xs s s.heap) (hbl : b < s.heap.size) (hK : va_K D vwCl (yT cI cJ cZ cN) s) (hN : yy_N s) {j : Nat} (hj : 5 * j + 5 ≤ L) (hL : L ≤ 2560) (so : SS) (tk : TS) (pk : PS) (vd : Nat → Int32) (tg : Nat → Int32) (ns : Nat → NS) (mo : MO) (mn : MN) (mw : MW) (mt : MT) (mv : Nat → Int32) (mp : MP) (H : Heap) (locs : List Loc) (hR : REL so tk pk vd ns mo mn mt mv mp) (hl : lv_has ls 4 [(0, .ref b), (1, .ref (xa 0)), (2, .ref (ma 0)), (3, .int (nI (5 * j)))]) (hP : va_P D vwCl (xcW xa sa ta pa ++ stW cI cJ sa so ++ naW cN xa nad ++ tkW ta tk ++ pkW cI pa pk ++ vdW cI xa vd ++ tgW cI xa tg ++ n3W cI nad ns ++ mW cI cJ cZ ma mo mn mw mt mv mp) H) (hD : va_D (fun q => s.heap.size ≤ q) (xcW xa sa ta pa ++ stW cI cJ sa so ++ naW cN xa nad ++ tkW ta tk ++ pkW cI pa pk ++ vdW cI xa vd ++ tgW cI xa tg ++ n3W cI nad ns ++ mW cI cJ cZ ma mo mn mw mt mv mp)) (hS : va_S (fun q => s.heap.size ≤ q) s.heap H locs)
    (kk : ∀ (so : SS) (tk : TS) (pk : PS) (vd : Nat → Int32) (tg : Nat → Int32) (ns : Nat → NS) (mo : MO) (mn : MN) (mw : MW) (mt : MT) (mv : Nat → Int32) (mp : MP) (H : Heap) (locs : List Loc), REL so tk pk vd ns mo mn mt mv mp → va_P D vwCl (xcW xa sa ta pa ++ stW cI cJ sa so ++ naW cN xa nad ++ tkW ta tk ++ pkW cI pa pk ++ vdW cI xa vd ++ tgW cI xa tg ++ n3W cI nad ns ++ mW cI cJ cZ ma mo mn mw mt mv mp) H → va_D (fun q => s.heap.size ≤ q) (xcW xa sa ta pa ++ stW cI cJ sa so ++ naW cN xa nad ++ tkW ta tk ++ pkW cI pa pk ++ vdW cI xa vd ++ tgW cI xa tg ++ n3W cI nad ns ++ mW cI cJ cZ ma mo mn mw mt mv mp) → va_S (fun q => s.heap.size ≤ q) s.heap H locs → W p l e room_1 s m #[Value.ref b] below meth c H locs 44 1165 Q (F0 m 671 ls [])) : W p l e room_1 s m #[Value.ref b] below meth c H locs 44 1165 Q (F0 m 589 ls []) := by
  have hA : ∀ q : Nat, s.heap.size ≤ q → (fun q => s.heap.size ≤ q) q := fun q h => h
  have hbA : ¬ (fun q => s.heap.size ≤ q) b := fun h => absurd (show s.heap.size ≤ b from h) (by omega)
  have hs : so.2.2.2.2.2 ≤ 60 := by rw [hR.1.1]; exact hR.1.2.1
  have hp : pk.2.2.2.2.1 ≤ 60 := by rw [hR.2.2.2.1.2.2.2.1]; exact hR.2.2.2.1.2.2.2.2.1
  have ho : mo.1 ≤ 60 := hR.1.2.1
  have hq : mp.1 ≤ 60 := hR.2.2.2.1.2.2.2.2.1
  refine lv_aload_n hx hb dXL_law_589 rfl (lv_at hl 1 rfl) ?_
  refine lv_aload_n hx hb dXL_law_590 rfl (lv_at hl 0 rfl) ?_
  refine lv_iload_n hx hb dXL_law_591 rfl (lv_at hl 3 rfl) ?_
  refine lv_iconst (v := nI 1) hx hb dXL_law_592 (by decide) ?_
  refine yr_iaddN hx hb dXL_law_593 ?_
  refine yr_sld (n := 5 * j + 1) hx hb hX hbl hbA hS rfl (by omega) (by omega) dXL_law_594 ?_
  obtain ⟨r1, er1⟩ : ∃ r, r = x_packAt (xs (5 * j + 1)) pk := ⟨_, rfl⟩
  refine yz_callV (As := [.int (xs (5 * j + 1))]) (rest := []) ⟨hx, hb, hml, hown, hts⟩ (c_x_packAt l D cI cJ cZ cN xa sa ta pa nad (xs (5 * j + 1)) so tk pk vd tg ns (by (try dsimp only) <;> omega) (by (try dsimp only) <;> omega) r1 er1) ⟨callB_of 1 hts (yy_good wq_450) rfl rfl rfl (hw _ wq_34) (hw _ wq_447) (by decide +kernel) ⟨Nat.le_of_ble_eq_true rfl, Nat.le_of_ble_eq_true rfl⟩, hw _ wq_448, hw _ wq_449⟩ hK hN hP hD hS hA [0, 1, 2, 3, 4, 5, 6, 7, 8, 9, 10, 11, 12, 13, 14, 15, 16, 17, 18, 19, 20, 21, 22, 23] rfl (by decide) rfl 24 rfl (w2 := (xcW xa sa ta pa ++ stW cI cJ sa so ++ naW cN xa nad ++ tkW ta tk ++ pkW cI pa pk ++ vdW cI xa vd ++ tgW cI xa tg ++ n3W cI nad ns ++ mW cI cJ cZ ma mo mn mw mt mv mp)) rfl 0 rfl rfl rfl hl.1 rfl (Nat.le_of_ble_eq_true rfl) dXL_law_595 ⟨Nat.le_of_ble_eq_true rfl, Nat.le_of_ble_eq_true rfl⟩ (fun H locs hP hD hS => ?_)
  refine W.eq (g2 := F0 m 598 ls [.int r1]) rfl ?_
  refine lv_aload_n hx hb dXL_law_598 rfl (lv_at hl 2 rfl) ?_
  refine lv_aload_n hx hb dXL_law_599 rfl (lv_at hl 0 rfl) ?_
  refine lv_iload_n hx hb dXL_law_600 rfl (lv_at hl 3 rfl) ?_
  refine lv_iconst (v := nI 1) hx hb dXL_law_601 (by decide) ?_
  refine yr_iaddN hx hb dXL_law_602 ?_
  refine yr_sld (n := 5 * j + 1) hx hb hX hbl hbA hS rfl (by omega) (by omega) dXL_law_603 ?_
  obtain ⟨r2, er2⟩ : ∃ r, r = md_packAt (xs (5 * j + 1)) mp := ⟨_, rfl⟩
  refine yz_callV (As := [.int (xs (5 * j + 1))]) (rest := [.int r1]) ⟨hx, hb, hml, hown, hts⟩ (c_md_packAt l D cI cJ cZ cN ma (xs (5 * j + 1)) mo mn mw mt mv mp (by (try dsimp only) <;> omega) (by (try dsimp only) <;> omega) r2 er2) ⟨callB_of 1 hts (yy_good wq_700) rfl rfl rfl (hw _ wq_39) (hw _ wq_697) (by decide +kernel) ⟨Nat.le_of_ble_eq_true rfl, Nat.le_of_ble_eq_true rfl⟩, hw _ wq_698, hw _ wq_699⟩ hK hN hP hD hS hA [24, 25, 26, 27, 28, 29, 30, 31, 32, 33, 34, 35, 36, 37, 38, 39, 40, 41, 42, 43] rfl (by decide) rfl 44 rfl (w2 := (xcW xa sa ta pa ++ stW cI cJ sa so ++ naW cN xa nad ++ tkW ta tk ++ pkW cI pa pk ++ vdW cI xa vd ++ tgW cI xa tg ++ n3W cI nad ns ++ mW cI cJ cZ ma mo mn mw mt mv mp)) rfl 24 rfl rfl rfl hl.1 rfl (Nat.le_of_ble_eq_true rfl) dXL_law_604 ⟨Nat.le_of_ble_eq_true rfl, Nat.le_of_ble_eq_true rfl⟩ (fun H locs hP hD hS => ?_)
  refine W.eq (g2 := F0 m 607 ls [.int r2, .int r1]) rfl ?_
  have hrel := rel_packAt hR (xs (5 * j + 1))
  rw [← er1, ← er2] at hrel
  have heq : r1 = r2 := by rw [hrel]
  refine lv_icmp_eq (tgt := 671) hx hb dXL_law_607 (by decide) (fun _ => ?_) (fun h => absurd heq h)
  exact kk so tk pk vd tg ns mo mn mw mt mv mp H locs hR hP hD hS

set_option maxHeartbeats 4000000 in
set_option maxRecDepth 100000 in
theorem lw_c_base {p : Program} {l : Launch} {e : Env} {s : State} {m : MethodId} {below : List Frame} {meth : Method} {c : Code} {b L : Nat} {xs : Nat → Int32} {D : va_G} {cI cJ cZ cN : ClassId} {xa sa ta pa ma : Nat → Nat} {nad : Nat → Nat → Nat} {Q : State → Prop} {ls : Array Slot} (hx : p.tables.exec = Jvm.exec) (hb : c.code = code) (hml : c.maxLocals = 4) (hown : s.vm.findClass RL = some m.cls) (hts : ∀ w ∈ (Cond.initialized RX4 :: yW), w.before #[Value.ref b] s = true) (hw : ∀ w ∈ yW, w.before #[Value.ref b] s = true) (hX : va_X b L xs s s.heap) (hbl : b < s.heap.size) (hK : va_K D vwCl (yT cI cJ cZ cN) s) (hN : yy_N s) {j : Nat} (hj : 5 * j + 5 ≤ L) (hL : L ≤ 2560) (so : SS) (tk : TS) (pk : PS) (vd : Nat → Int32) (tg : Nat → Int32) (ns : Nat → NS) (mo : MO) (mn : MN) (mw : MW) (mt : MT) (mv : Nat → Int32) (mp : MP) (H : Heap) (locs : List Loc) (hR : REL so tk pk vd ns mo mn mt mv mp) (hl : lv_has ls 4 [(0, .ref b), (1, .ref (xa 0)), (2, .ref (ma 0)), (3, .int (nI (5 * j)))]) (hP : va_P D vwCl (xcW xa sa ta pa ++ stW cI cJ sa so ++ naW cN xa nad ++ tkW ta tk ++ pkW cI pa pk ++ vdW cI xa vd ++ tgW cI xa tg ++ n3W cI nad ns ++ mW cI cJ cZ ma mo mn mw mt mv mp) H) (hD : va_D (fun q => s.heap.size ≤ q) (xcW xa sa ta pa ++ stW cI cJ sa so ++ naW cN xa nad ++ tkW ta tk ++ pkW cI pa pk ++ vdW cI xa vd ++ tgW cI xa tg ++ n3W cI nad ns ++ mW cI cJ cZ ma mo mn mw mt mv mp)) (hS : va_S (fun q => s.heap.size ≤ q) s.heap H locs)
    (kk : ∀ (so : SS) (tk : TS) (pk : PS) (vd : Nat → Int32) (tg : Nat → Int32) (ns : Nat → NS) (mo : MO) (mn : MN) (mw : MW) (mt : MT) (mv : Nat → Int32) (mp : MP) (H : Heap) (locs : List Loc), REL so tk pk vd ns mo mn mt mv mp → va_P D vwCl (xcW xa sa ta pa ++ stW cI cJ sa so ++ naW cN xa nad ++ tkW ta tk ++ pkW cI pa pk ++ vdW cI xa vd ++ tgW cI xa tg ++ n3W cI nad ns ++ mW cI cJ cZ ma mo mn mw mt mv mp) H → va_D (fun q => s.heap.size ≤ q) (xcW xa sa ta pa ++ stW cI cJ sa so ++ naW cN xa nad ++ tkW ta tk ++ pkW cI pa pk ++ vdW cI xa vd ++ tgW cI xa tg ++ n3W cI nad ns ++ mW cI cJ cZ ma mo mn mw mt mv mp) → va_S (fun q => s.heap.size ≤ q) s.heap H locs → W p l e room_1 s m #[Value.ref b] below meth c H locs 44 1165 Q (F0 m 671 ls [])) : W p l e room_1 s m #[Value.ref b] below meth c H locs 44 1165 Q (F0 m 612 ls []) := by
  have hA : ∀ q : Nat, s.heap.size ≤ q → (fun q => s.heap.size ≤ q) q := fun q h => h
  have hbA : ¬ (fun q => s.heap.size ≤ q) b := fun h => absurd (show s.heap.size ≤ b from h) (by omega)
  have hs : so.2.2.2.2.2 ≤ 60 := by rw [hR.1.1]; exact hR.1.2.1
  have hp : pk.2.2.2.2.1 ≤ 60 := by rw [hR.2.2.2.1.2.2.2.1]; exact hR.2.2.2.1.2.2.2.2.1
  have ho : mo.1 ≤ 60 := hR.1.2.1
  have hq : mp.1 ≤ 60 := hR.2.2.2.1.2.2.2.2.1
  refine lv_aload_n hx hb dXL_law_612 rfl (lv_at hl 1 rfl) ?_
  refine lv_aload_n hx hb dXL_law_613 rfl (lv_at hl 0 rfl) ?_
  refine lv_iload_n hx hb dXL_law_614 rfl (lv_at hl 3 rfl) ?_
  refine lv_iconst (v := nI 1) hx hb dXL_law_615 (by decide) ?_
  refine yr_iaddN hx hb dXL_law_616 ?_
  refine yr_sld (n := 5 * j + 1) hx hb hX hbl hbA hS rfl (by omega) (by omega) dXL_law_617 ?_
  obtain ⟨r1, er1⟩ : ∃ r, r = x_base (xs (5 * j + 1)) pk := ⟨_, rfl⟩
  refine yz_callV (As := [.int (xs (5 * j + 1))]) (rest := []) ⟨hx, hb, hml, hown, hts⟩ (c_x_base l D cI cJ cZ cN xa sa ta pa nad (xs (5 * j + 1)) so tk pk vd tg ns (by (try dsimp only) <;> omega) (by (try dsimp only) <;> omega) r1 er1) ⟨callB_of 1 hts (yy_good wq_462) rfl rfl rfl (hw _ wq_34) (hw _ wq_459) (by decide +kernel) ⟨Nat.le_of_ble_eq_true rfl, Nat.le_of_ble_eq_true rfl⟩, hw _ wq_460, hw _ wq_461⟩ hK hN hP hD hS hA [0, 1, 2, 3, 4, 5, 6, 7, 8, 9, 10, 11, 12, 13, 14, 15, 16, 17, 18, 19, 20, 21, 22, 23] rfl (by decide) rfl 24 rfl (w2 := (xcW xa sa ta pa ++ stW cI cJ sa so ++ naW cN xa nad ++ tkW ta tk ++ pkW cI pa pk ++ vdW cI xa vd ++ tgW cI xa tg ++ n3W cI nad ns ++ mW cI cJ cZ ma mo mn mw mt mv mp)) rfl 0 rfl rfl rfl hl.1 rfl (Nat.le_of_ble_eq_true rfl) dXL_law_618 ⟨Nat.le_of_ble_eq_true rfl, Nat.le_of_ble_eq_true rfl⟩ (fun H locs hP hD hS => ?_)
  refine W.eq (g2 := F0 m 621 ls [.int r1]) rfl ?_
  refine lv_aload_n hx hb dXL_law_621 rfl (lv_at hl 2 rfl) ?_
  refine lv_aload_n hx hb dXL_law_622 rfl (lv_at hl 0 rfl) ?_
  refine lv_iload_n hx hb dXL_law_623 rfl (lv_at hl 3 rfl) ?_
  refine lv_iconst (v := nI 1) hx hb dXL_law_624 (by decide) ?_
  refine yr_iaddN hx hb dXL_law_625 ?_
  refine yr_sld (n := 5 * j + 1) hx hb hX hbl hbA hS rfl (by omega) (by omega) dXL_law_626 ?_
  obtain ⟨r2, er2⟩ : ∃ r, r = md_base (xs (5 * j + 1)) mp := ⟨_, rfl⟩
  refine yz_callV (As := [.int (xs (5 * j + 1))]) (rest := [.int r1]) ⟨hx, hb, hml, hown, hts⟩ (c_md_base l D cI cJ cZ cN ma (xs (5 * j + 1)) mo mn mw mt mv mp (by (try dsimp only) <;> omega) (by (try dsimp only) <;> omega) r2 er2) ⟨callB_of 1 hts (yy_good wq_704) rfl rfl rfl (hw _ wq_39) (hw _ wq_701) (by decide +kernel) ⟨Nat.le_of_ble_eq_true rfl, Nat.le_of_ble_eq_true rfl⟩, hw _ wq_702, hw _ wq_703⟩ hK hN hP hD hS hA [24, 25, 26, 27, 28, 29, 30, 31, 32, 33, 34, 35, 36, 37, 38, 39, 40, 41, 42, 43] rfl (by decide) rfl 44 rfl (w2 := (xcW xa sa ta pa ++ stW cI cJ sa so ++ naW cN xa nad ++ tkW ta tk ++ pkW cI pa pk ++ vdW cI xa vd ++ tgW cI xa tg ++ n3W cI nad ns ++ mW cI cJ cZ ma mo mn mw mt mv mp)) rfl 24 rfl rfl rfl hl.1 rfl (Nat.le_of_ble_eq_true rfl) dXL_law_627 ⟨Nat.le_of_ble_eq_true rfl, Nat.le_of_ble_eq_true rfl⟩ (fun H locs hP hD hS => ?_)
  refine W.eq (g2 := F0 m 630 ls [.int r2, .int r1]) rfl ?_
  have hrel := rel_base hR (xs (5 * j + 1))
  rw [← er1, ← er2] at hrel
  have heq : r1 = r2 := by rw [hrel]
  refine lv_icmp_eq (tgt := 671) hx hb dXL_law_630 (by decide) (fun _ => ?_) (fun h => absurd heq h)
  exact kk so tk pk vd tg ns mo mn mw mt mv mp H locs hR hP hD hS

set_option maxHeartbeats 4000000 in
set_option maxRecDepth 100000 in
theorem lw_c_weight {p : Program} {l : Launch} {e : Env} {s : State} {m : MethodId} {below : List Frame} {meth : Method} {c : Code} {b L : Nat} {xs : Nat → Int32} {D : va_G} {cI cJ cZ cN : ClassId} {xa sa ta pa ma : Nat → Nat} {nad : Nat → Nat → Nat} {Q : State → Prop} {ls : Array Slot} (hx : p.tables.exec = Jvm.exec) (hb : c.code = code) (hml : c.maxLocals = 4) (hown : s.vm.findClass RL = some m.cls) (hts : ∀ w ∈ (Cond.initialized RX4 :: yW), w.before #[Value.ref b] s = true) (hw : ∀ w ∈ yW, w.before #[Value.ref b] s = true) (hX : va_X b L xs s s.heap) (hbl : b < s.heap.size) (hK : va_K D vwCl (yT cI cJ cZ cN) s) (hN : yy_N s) {j : Nat} (hj : 5 * j + 5 ≤ L) (hL : L ≤ 2560) (so : SS) (tk : TS) (pk : PS) (vd : Nat → Int32) (tg : Nat → Int32) (ns : Nat → NS) (mo : MO) (mn : MN) (mw : MW) (mt : MT) (mv : Nat → Int32) (mp : MP) (H : Heap) (locs : List Loc) (hR : REL so tk pk vd ns mo mn mt mv mp) (hl : lv_has ls 4 [(0, .ref b), (1, .ref (xa 0)), (2, .ref (ma 0)), (3, .int (nI (5 * j)))]) (hP : va_P D vwCl (xcW xa sa ta pa ++ stW cI cJ sa so ++ naW cN xa nad ++ tkW ta tk ++ pkW cI pa pk ++ vdW cI xa vd ++ tgW cI xa tg ++ n3W cI nad ns ++ mW cI cJ cZ ma mo mn mw mt mv mp) H) (hD : va_D (fun q => s.heap.size ≤ q) (xcW xa sa ta pa ++ stW cI cJ sa so ++ naW cN xa nad ++ tkW ta tk ++ pkW cI pa pk ++ vdW cI xa vd ++ tgW cI xa tg ++ n3W cI nad ns ++ mW cI cJ cZ ma mo mn mw mt mv mp)) (hS : va_S (fun q => s.heap.size ≤ q) s.heap H locs)
    (kk : ∀ (so : SS) (tk : TS) (pk : PS) (vd : Nat → Int32) (tg : Nat → Int32) (ns : Nat → NS) (mo : MO) (mn : MN) (mw : MW) (mt : MT) (mv : Nat → Int32) (mp : MP) (H : Heap) (locs : List Loc), REL so tk pk vd ns mo mn mt mv mp → va_P D vwCl (xcW xa sa ta pa ++ stW cI cJ sa so ++ naW cN xa nad ++ tkW ta tk ++ pkW cI pa pk ++ vdW cI xa vd ++ tgW cI xa tg ++ n3W cI nad ns ++ mW cI cJ cZ ma mo mn mw mt mv mp) H → va_D (fun q => s.heap.size ≤ q) (xcW xa sa ta pa ++ stW cI cJ sa so ++ naW cN xa nad ++ tkW ta tk ++ pkW cI pa pk ++ vdW cI xa vd ++ tgW cI xa tg ++ n3W cI nad ns ++ mW cI cJ cZ ma mo mn mw mt mv mp) → va_S (fun q => s.heap.size ≤ q) s.heap H locs → W p l e room_1 s m #[Value.ref b] below meth c H locs 44 1165 Q (F0 m 671 ls [])) : W p l e room_1 s m #[Value.ref b] below meth c H locs 44 1165 Q (F0 m 635 ls []) := by
  have hA : ∀ q : Nat, s.heap.size ≤ q → (fun q => s.heap.size ≤ q) q := fun q h => h
  have hbA : ¬ (fun q => s.heap.size ≤ q) b := fun h => absurd (show s.heap.size ≤ b from h) (by omega)
  have hs : so.2.2.2.2.2 ≤ 60 := by rw [hR.1.1]; exact hR.1.2.1
  have hp : pk.2.2.2.2.1 ≤ 60 := by rw [hR.2.2.2.1.2.2.2.1]; exact hR.2.2.2.1.2.2.2.2.1
  have ho : mo.1 ≤ 60 := hR.1.2.1
  have hq : mp.1 ≤ 60 := hR.2.2.2.1.2.2.2.2.1
  refine lv_aload_n hx hb dXL_law_635 rfl (lv_at hl 1 rfl) ?_
  obtain ⟨r1, er1⟩ : ∃ r, r = x_weight pk := ⟨_, rfl⟩
  refine yz_callV (As := []) (rest := []) ⟨hx, hb, hml, hown, hts⟩ (c_x_weight l D cI cJ cZ cN xa sa ta pa nad so tk pk vd tg ns (by (try dsimp only) <;> omega) (by (try dsimp only) <;> omega) r1 er1) ⟨callB_of 0 hts (yy_good wq_470) rfl rfl rfl (hw _ wq_34) (hw _ wq_467) (by decide +kernel) ⟨Nat.le_of_ble_eq_true rfl, Nat.le_of_ble_eq_true rfl⟩, hw _ wq_468, hw _ wq_469⟩ hK hN hP hD hS hA [0, 1, 2, 3, 4, 5, 6, 7, 8, 9, 10, 11, 12, 13, 14, 15, 16, 17, 18, 19, 20, 21, 22, 23] rfl (by decide) rfl 24 rfl (w2 := (xcW xa sa ta pa ++ stW cI cJ sa so ++ naW cN xa nad ++ tkW ta tk ++ pkW cI pa pk ++ vdW cI xa vd ++ tgW cI xa tg ++ n3W cI nad ns ++ mW cI cJ cZ ma mo mn mw mt mv mp)) rfl 0 rfl rfl rfl hl.1 rfl (Nat.le_of_ble_eq_true rfl) dXL_law_636 ⟨Nat.le_of_ble_eq_true rfl, Nat.le_of_ble_eq_true rfl⟩ (fun H locs hP hD hS => ?_)
  refine W.eq (g2 := F0 m 639 ls [.int r1]) rfl ?_
  refine lv_aload_n hx hb dXL_law_639 rfl (lv_at hl 2 rfl) ?_
  obtain ⟨r2, er2⟩ : ∃ r, r = md_weight mp := ⟨_, rfl⟩
  refine yz_callV (As := []) (rest := [.int r1]) ⟨hx, hb, hml, hown, hts⟩ (c_md_weight l D cI cJ cZ cN ma mo mn mw mt mv mp (by (try dsimp only) <;> omega) (by (try dsimp only) <;> omega) r2 er2) ⟨callB_of 0 hts (yy_good wq_708) rfl rfl rfl (hw _ wq_39) (hw _ wq_705) (by decide +kernel) ⟨Nat.le_of_ble_eq_true rfl, Nat.le_of_ble_eq_true rfl⟩, hw _ wq_706, hw _ wq_707⟩ hK hN hP hD hS hA [24, 25, 26, 27, 28, 29, 30, 31, 32, 33, 34, 35, 36, 37, 38, 39, 40, 41, 42, 43] rfl (by decide) rfl 44 rfl (w2 := (xcW xa sa ta pa ++ stW cI cJ sa so ++ naW cN xa nad ++ tkW ta tk ++ pkW cI pa pk ++ vdW cI xa vd ++ tgW cI xa tg ++ n3W cI nad ns ++ mW cI cJ cZ ma mo mn mw mt mv mp)) rfl 24 rfl rfl rfl hl.1 rfl (Nat.le_of_ble_eq_true rfl) dXL_law_640 ⟨Nat.le_of_ble_eq_true rfl, Nat.le_of_ble_eq_true rfl⟩ (fun H locs hP hD hS => ?_)
  refine W.eq (g2 := F0 m 643 ls [.int r2, .int r1]) rfl ?_
  have hrel := rel_weight hR 
  rw [← er1, ← er2] at hrel
  have heq : r1 = r2 := by rw [hrel]
  refine lv_icmp_eq (tgt := 671) hx hb dXL_law_643 (by decide) (fun _ => ?_) (fun h => absurd heq h)
  exact kk so tk pk vd tg ns mo mn mw mt mv mp H locs hR hP hD hS

set_option maxHeartbeats 4000000 in
set_option maxRecDepth 100000 in
theorem lw_c_verdict {p : Program} {l : Launch} {e : Env} {s : State} {m : MethodId} {below : List Frame} {meth : Method} {c : Code} {b L : Nat} {xs : Nat → Int32} {D : va_G} {cI cJ cZ cN : ClassId} {xa sa ta pa ma : Nat → Nat} {nad : Nat → Nat → Nat} {Q : State → Prop} {ls : Array Slot} (hx : p.tables.exec = Jvm.exec) (hb : c.code = code) (hml : c.maxLocals = 4) (hown : s.vm.findClass RL = some m.cls) (hts : ∀ w ∈ (Cond.initialized RX4 :: yW), w.before #[Value.ref b] s = true) (hw : ∀ w ∈ yW, w.before #[Value.ref b] s = true) (hX : va_X b L xs s s.heap) (hbl : b < s.heap.size) (hK : va_K D vwCl (yT cI cJ cZ cN) s) (hN : yy_N s) {j : Nat} (hj : 5 * j + 5 ≤ L) (hL : L ≤ 2560) (so : SS) (tk : TS) (pk : PS) (vd : Nat → Int32) (tg : Nat → Int32) (ns : Nat → NS) (mo : MO) (mn : MN) (mw : MW) (mt : MT) (mv : Nat → Int32) (mp : MP) (H : Heap) (locs : List Loc) (hR : REL so tk pk vd ns mo mn mt mv mp) (hl : lv_has ls 4 [(0, .ref b), (1, .ref (xa 0)), (2, .ref (ma 0)), (3, .int (nI (5 * j)))]) (hP : va_P D vwCl (xcW xa sa ta pa ++ stW cI cJ sa so ++ naW cN xa nad ++ tkW ta tk ++ pkW cI pa pk ++ vdW cI xa vd ++ tgW cI xa tg ++ n3W cI nad ns ++ mW cI cJ cZ ma mo mn mw mt mv mp) H) (hD : va_D (fun q => s.heap.size ≤ q) (xcW xa sa ta pa ++ stW cI cJ sa so ++ naW cN xa nad ++ tkW ta tk ++ pkW cI pa pk ++ vdW cI xa vd ++ tgW cI xa tg ++ n3W cI nad ns ++ mW cI cJ cZ ma mo mn mw mt mv mp)) (hS : va_S (fun q => s.heap.size ≤ q) s.heap H locs)
    (kk : ∀ (so : SS) (tk : TS) (pk : PS) (vd : Nat → Int32) (tg : Nat → Int32) (ns : Nat → NS) (mo : MO) (mn : MN) (mw : MW) (mt : MT) (mv : Nat → Int32) (mp : MP) (H : Heap) (locs : List Loc), REL so tk pk vd ns mo mn mt mv mp → va_P D vwCl (xcW xa sa ta pa ++ stW cI cJ sa so ++ naW cN xa nad ++ tkW ta tk ++ pkW cI pa pk ++ vdW cI xa vd ++ tgW cI xa tg ++ n3W cI nad ns ++ mW cI cJ cZ ma mo mn mw mt mv mp) H → va_D (fun q => s.heap.size ≤ q) (xcW xa sa ta pa ++ stW cI cJ sa so ++ naW cN xa nad ++ tkW ta tk ++ pkW cI pa pk ++ vdW cI xa vd ++ tgW cI xa tg ++ n3W cI nad ns ++ mW cI cJ cZ ma mo mn mw mt mv mp) → va_S (fun q => s.heap.size ≤ q) s.heap H locs → W p l e room_1 s m #[Value.ref b] below meth c H locs 44 1165 Q (F0 m 671 ls [])) : W p l e room_1 s m #[Value.ref b] below meth c H locs 44 1165 Q (F0 m 648 ls []) := by
  have hA : ∀ q : Nat, s.heap.size ≤ q → (fun q => s.heap.size ≤ q) q := fun q h => h
  have hbA : ¬ (fun q => s.heap.size ≤ q) b := fun h => absurd (show s.heap.size ≤ b from h) (by omega)
  have hs : so.2.2.2.2.2 ≤ 60 := by rw [hR.1.1]; exact hR.1.2.1
  have hp : pk.2.2.2.2.1 ≤ 60 := by rw [hR.2.2.2.1.2.2.2.1]; exact hR.2.2.2.1.2.2.2.2.1
  have ho : mo.1 ≤ 60 := hR.1.2.1
  have hq : mp.1 ≤ 60 := hR.2.2.2.1.2.2.2.2.1
  refine lv_aload_n hx hb dXL_law_648 rfl (lv_at hl 1 rfl) ?_
  refine lv_aload_n hx hb dXL_law_649 rfl (lv_at hl 0 rfl) ?_
  refine lv_iload_n hx hb dXL_law_650 rfl (lv_at hl 3 rfl) ?_
  refine lv_iconst (v := nI 1) hx hb dXL_law_651 (by decide) ?_
  refine yr_iaddN hx hb dXL_law_652 ?_
  refine yr_sld (n := 5 * j + 1) hx hb hX hbl hbA hS rfl (by omega) (by omega) dXL_law_653 ?_
  obtain ⟨r1, er1⟩ : ∃ r, r = x_verdict (xs (5 * j + 1)) vd := ⟨_, rfl⟩
  refine yz_callV (As := [.int (xs (5 * j + 1))]) (rest := []) ⟨hx, hb, hml, hown, hts⟩ (c_x_verdict l D cI cJ cZ cN xa sa ta pa nad (xs (5 * j + 1)) so tk pk vd tg ns (by (try dsimp only) <;> omega) (by (try dsimp only) <;> omega) r1 er1) ⟨callB_of 1 hts (yy_good wq_478) rfl rfl rfl (hw _ wq_34) (hw _ wq_475) (by decide +kernel) ⟨Nat.le_of_ble_eq_true rfl, Nat.le_of_ble_eq_true rfl⟩, hw _ wq_476, hw _ wq_477⟩ hK hN hP hD hS hA [0, 1, 2, 3, 4, 5, 6, 7, 8, 9, 10, 11, 12, 13, 14, 15, 16, 17, 18, 19, 20, 21, 22, 23] rfl (by decide) rfl 24 rfl (w2 := (xcW xa sa ta pa ++ stW cI cJ sa so ++ naW cN xa nad ++ tkW ta tk ++ pkW cI pa pk ++ vdW cI xa vd ++ tgW cI xa tg ++ n3W cI nad ns ++ mW cI cJ cZ ma mo mn mw mt mv mp)) rfl 0 rfl rfl rfl hl.1 rfl (Nat.le_of_ble_eq_true rfl) dXL_law_654 ⟨Nat.le_of_ble_eq_true rfl, Nat.le_of_ble_eq_true rfl⟩ (fun H locs hP hD hS => ?_)
  refine W.eq (g2 := F0 m 657 ls [.int r1]) rfl ?_
  refine lv_aload_n hx hb dXL_law_657 rfl (lv_at hl 2 rfl) ?_
  refine lv_aload_n hx hb dXL_law_658 rfl (lv_at hl 0 rfl) ?_
  refine lv_iload_n hx hb dXL_law_659 rfl (lv_at hl 3 rfl) ?_
  refine lv_iconst (v := nI 1) hx hb dXL_law_660 (by decide) ?_
  refine yr_iaddN hx hb dXL_law_661 ?_
  refine yr_sld (n := 5 * j + 1) hx hb hX hbl hbA hS rfl (by omega) (by omega) dXL_law_662 ?_
  obtain ⟨r2, er2⟩ : ∃ r, r = md_verdict (xs (5 * j + 1)) mv := ⟨_, rfl⟩
  refine yz_callV (As := [.int (xs (5 * j + 1))]) (rest := [.int r1]) ⟨hx, hb, hml, hown, hts⟩ (c_md_verdict l D cI cJ cZ cN ma (xs (5 * j + 1)) mo mn mw mt mv mp (by (try dsimp only) <;> omega) (by (try dsimp only) <;> omega) r2 er2) ⟨callB_of 1 hts (yy_good wq_712) rfl rfl rfl (hw _ wq_39) (hw _ wq_709) (by decide +kernel) ⟨Nat.le_of_ble_eq_true rfl, Nat.le_of_ble_eq_true rfl⟩, hw _ wq_710, hw _ wq_711⟩ hK hN hP hD hS hA [24, 25, 26, 27, 28, 29, 30, 31, 32, 33, 34, 35, 36, 37, 38, 39, 40, 41, 42, 43] rfl (by decide) rfl 44 rfl (w2 := (xcW xa sa ta pa ++ stW cI cJ sa so ++ naW cN xa nad ++ tkW ta tk ++ pkW cI pa pk ++ vdW cI xa vd ++ tgW cI xa tg ++ n3W cI nad ns ++ mW cI cJ cZ ma mo mn mw mt mv mp)) rfl 24 rfl rfl rfl hl.1 rfl (Nat.le_of_ble_eq_true rfl) dXL_law_663 ⟨Nat.le_of_ble_eq_true rfl, Nat.le_of_ble_eq_true rfl⟩ (fun H locs hP hD hS => ?_)
  refine W.eq (g2 := F0 m 666 ls [.int r2, .int r1]) rfl ?_
  have hrel := rel_verdict hR (xs (5 * j + 1))
  rw [← er1, ← er2] at hrel
  have heq : r1 = r2 := by rw [hrel]
  refine lv_icmp_eq (tgt := 671) hx hb dXL_law_666 (by decide) (fun _ => ?_) (fun h => absurd heq h)
  exact kk so tk pk vd tg ns mo mn mw mt mv mp H locs hR hP hD hS
