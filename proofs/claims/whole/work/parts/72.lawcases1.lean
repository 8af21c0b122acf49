set_option maxHeartbeats 4000000 in
set_option maxRecDepth 100000 in
theorem lw_c_blob {p : Program} {l : Launch} {e : Env} {s : State} {m : MethodId} {below : List Frame} {meth : Method} {c : Code} {b L : Nat} {xs : Nat → Int32} {D : va_G} {cI cJ cZ cN : ClassId} {xa sa ta pa ma : Nat → Nat} {nad : Nat → Nat → Nat} {Q : State → Prop} {ls : Array Slot} (hx : p.tables.exec = Jvm.exec) (hb : c.code = code) (hml : c.maxLocals = 4) (hown : s.vm.findClass RL = some m.cls) (hts : ∀ w ∈ (Cond.initialized RX4 :: yW), w.before #[Value.ref b] s = true) (hw : ∀ w ∈ yW, w.before #[Value.ref b] s = true) (hX : va_X b L xs s s.heap) (hbl : b < s.heap.size) (hK : va_K D vwCl (yT cI cJ cZ cN) s) (hN : yy_N s) {j : Nat} (hj : 5 * j + 5 ≤ L) (hL : L ≤ 2560) (so : SS) (tk : TS) (pk : PS) (vd : Nat → Int32) (tg : Nat → Int32) (ns : Nat → NS) (mo : MO) (mn : MN) (mw : MW) (mt : MT) (mv : Nat → Int32) (mp : MP) (H : Heap) (locs : List Loc) (hR : REL so tk pk vd ns mo mn mt mv mp) (hl : lv_has ls 4 [(0, .ref b), (1, .ref (xa 0)), (2, .ref (ma 0)), (3, .int (nI (5 * j)))]) (hP : va_P D vwCl (xcW xa sa ta pa ++ stW cI cJ sa so ++ naW cN xa nad ++ tkW ta tk ++ pkW cI pa pk ++ vdW cI xa vd ++ tgW cI xa tg ++ n3W cI nad ns ++ mW cI cJ cZ ma mo mn mw mt mv mp) H) (hD : va_D (fun q => s.heap.size ≤ q) (xcW xa sa ta pa ++ stW cI cJ sa so ++ naW cN xa nad ++ tkW ta tk ++ pkW cI pa pk ++ vdW cI xa vd ++ tgW cI xa tg ++ n3W cI nad ns ++ mW cI cJ cZ ma mo mn mw mt mv mp)) (hS : va_S (fun q => s.heap.size ≤ q) s.heap H locs)
    (kk : ∀ (so : SS) (tk : TS) (pk : PS) (vd : Nat → Int32) (tg : Nat → Int32) (ns : Nat → NS) (mo : MO) (mn : MN) (mw : MW) (mt : MT) (mv : Nat → Int32) (mp : MP) (H : Heap) (locs : List Loc), REL so tk pk vd ns mo mn mt mv mp → va_P D vwCl (xcW xa sa ta pa ++ stW cI cJ sa so ++ naW cN xa nad ++ tkW ta tk ++ pkW cI pa pk ++ vdW cI xa vd ++ tgW cI xa tg ++ n3W cI nad ns ++ mW cI cJ cZ ma mo mn mw mt mv mp) H → va_D (fun q => s.heap.size ≤ q) (xcW xa sa ta pa ++ stW cI cJ sa so ++ naW cN xa nad ++ tkW ta tk ++ pkW cI pa pk ++ vdW cI xa vd ++ tgW cI xa tg ++ n3W cI nad ns ++ mW cI cJ cZ ma mo mn mw mt mv mp) → va_S (fun q => s.heap.size ≤ q) s.heap H locs → W p l e room_1 s m #[Value.ref b] below meth c H locs 44 1165 Q (F0 m 671 ls [])) : W p l e room_1 s m #[Value.ref b] below meth c H locs 44 1165 Q (F0 m 124 ls []) := by
  have hA : ∀ q : Nat, s.heap.size ≤ q → (fun q => s.heap.size ≤ q) q := fun q h => h
  have hbA : ¬ (fun q => s.heap.size ≤ q) b := fun h => absurd (show s.heap.size ≤ b from h) (by omega)
  have hs : so.2.2.2.2.2 ≤ 60 := by rw [hR.1.1]; exact hR.1.2.1
  have hp : pk.2.2.2.2.1 ≤ 60 := by rw [hR.2.2.2.1.2.2.2.1]; exact hR.2.2.2.1.2.2.2.2.1
  have ho : mo.1 ≤ 60 := hR.1.2.1
  have hq : mp.1 ≤ 60 := hR.2.2.2.1.2.2.2.2.1
  refine lv_aload_n hx hb dXL_law_124 rfl (lv_at hl 1 rfl) ?_
  refine lv_aload_n hx hb dXL_law_125 rfl (lv_at hl 0 rfl) ?_
  refine lv_iload_n hx hb dXL_law_126 rfl (lv_at hl 3 rfl) ?_
  refine lv_iconst (v := nI 1) hx hb dXL_law_127 (by decide) ?_
  refine yr_iaddN hx hb dXL_law_128 ?_
  refine yr_sld (n := 5 * j + 1) hx hb hX hbl hbA hS rfl (by omega) (by omega) dXL_law_129 ?_
  refine lv_aload_n hx hb dXL_law_130 rfl (lv_at hl 0 rfl) ?_
  refine lv_iload_n hx hb dXL_law_131 rfl (lv_at hl 3 rfl) ?_
  refine lv_iconst (v := nI 2) hx hb dXL_law_132 (by decide) ?_
  refine yr_iaddN hx hb dXL_law_133 ?_
  refine yr_sld (n := 5 * j + 2) hx hb hX hbl hbA hS rfl (by omega) (by omega) dXL_law_134 ?_
  obtain ⟨r1, er1⟩ : ∃ r, r = x_blob (xs (5 * j + 1)) (xs (5 * j + 2)) so ns := ⟨_, rfl⟩
  refine yz_callV (As := [.int (xs (5 * j + 1)), .int (xs (5 * j + 2))]) (rest := []) ⟨hx, hb, hml, hown, hts⟩ (c_x_blob l D cI cJ cZ cN xa sa ta pa nad (xs (5 * j + 1)) (xs (5 * j + 2)) so tk pk vd tg ns (by (try dsimp only) <;> omega) (by (try dsimp only) <;> omega) r1 er1) ⟨callB_of 2 hts (yy_good wq_168) rfl rfl rfl (hw _ wq_34) (hw _ wq_165) (by decide +kernel) ⟨Nat.le_of_ble_eq_true rfl, Nat.le_of_ble_eq_true rfl⟩, hw _ wq_166, hw _ wq_167⟩ hK hN hP hD hS hA [0, 1, 2, 3, 4, 5, 6, 7, 8, 9, 10, 11, 12, 13, 14, 15, 16, 17, 18, 19, 20, 21, 22, 23] rfl (by decide) rfl 24 rfl (w2 := (xcW xa sa ta pa ++ stW cI cJ sa r1.2.1 ++ naW cN xa nad ++ tkW ta tk ++ pkW cI pa pk ++ vdW cI xa vd ++ tgW cI xa tg ++ n3W cI nad r1.2.2 ++ mW cI cJ cZ ma mo mn mw mt mv mp)) rfl 0 rfl rfl rfl hl.1 rfl (Nat.le_of_ble_eq_true rfl) dXL_law_135 ⟨Nat.le_of_ble_eq_true rfl, Nat.le_of_ble_eq_true rfl⟩ (fun H locs hP hD hS => ?_)
  refine W.eq (g2 := F0 m 138 ls [.int r1.1]) rfl ?_
  refine lv_aload_n hx hb dXL_law_138 rfl (lv_at hl 2 rfl) ?_
  refine lv_aload_n hx hb dXL_law_139 rfl (lv_at hl 0 rfl) ?_
  refine lv_iload_n hx hb dXL_law_140 rfl (lv_at hl 3 rfl) ?_
  refine lv_iconst (v := nI 1) hx hb dXL_law_141 (by decide) ?_
  refine yr_iaddN hx hb dXL_law_142 ?_
  refine yr_sld (n := 5 * j + 1) hx hb hX hbl hbA hS rfl (by omega) (by omega) dXL_law_143 ?_
  refine lv_aload_n hx hb dXL_law_144 rfl (lv_at hl 0 rfl) ?_
  refine lv_iload_n hx hb dXL_law_145 rfl (lv_at hl 3 rfl) ?_
  refine lv_iconst (v := nI 2) hx hb dXL_law_146 (by decide) ?_
  refine yr_iaddN hx hb dXL_law_147 ?_
  refine yr_sld (n := 5 * j + 2) hx hb hX hbl hbA hS rfl (by omega) (by omega) dXL_law_148 ?_
  obtain ⟨r2, er2⟩ : ∃ r, r = md_blob (xs (5 * j + 1)) (xs (5 * j + 2)) mo mn := ⟨_, rfl⟩
  refine yz_callV (As := [.int (xs (5 * j + 1)), .int (xs (5 * j + 2))]) (rest := [.int r1.1]) ⟨hx, hb, hml, hown, hts⟩ (c_md_blob l D cI cJ cZ cN ma (xs (5 * j + 1)) (xs (5 * j + 2)) mo mn mw mt mv mp (by (try dsimp only) <;> omega) (by (try dsimp only) <;> omega) r2 er2) ⟨callB_of 2 hts (yy_good wq_565) rfl rfl rfl (hw _ wq_39) (hw _ wq_562) (by decide +kernel) ⟨Nat.le_of_ble_eq_true rfl, Nat.le_of_ble_eq_true rfl⟩, hw _ wq_563, hw _ wq_564⟩ hK hN hP hD hS hA [24, 25, 26, 27, 28, 29, 30, 31, 32, 33, 34, 35, 36, 37, 38, 39, 40, 41, 42, 43] rfl (by decide) rfl 44 rfl (w2 := (xcW xa sa ta pa ++ stW cI cJ sa r1.2.1 ++ naW cN xa nad ++ tkW ta tk ++ pkW cI pa pk ++ vdW cI xa vd ++ tgW cI xa tg ++ n3W cI nad r1.2.2 ++ mW cI cJ cZ ma r2.2.1 r2.2.2 mw mt mv mp)) rfl 24 rfl rfl rfl hl.1 rfl (Nat.le_of_ble_eq_true rfl) dXL_law_149 ⟨Nat.le_of_ble_eq_true rfl, Nat.le_of_ble_eq_true rfl⟩ (fun H locs hP hD hS => ?_)
  refine W.eq (g2 := F0 m 152 ls [.int r2.1, .int r1.1]) rfl ?_
  have hrel := rel_blob hR (xs (5 * j + 1)) (xs (5 * j + 2))
  rw [← er1, ← er2] at hrel
  have heq : r1.1 = r2.1 := by rw [hrel.1]
  refine lv_icmp_eq (tgt := 671) hx hb dXL_law_152 (by decide) (fun _ => ?_) (fun h => absurd heq h)
  exact kk r1.2.1 tk pk vd tg r1.2.2 r2.2.1 r2.2.2 mw mt mv mp H locs hrel.2 hP hD hS

set_option maxHeartbeats 4000000 in
set_option maxRecDepth 100000 in
theorem lw_c_tree {p : Program} {l : Launch} {e : Env} {s : State} {m : MethodId} {below : List Frame} {meth : Method} {c : Code} {b L : Nat} {xs : Nat → Int32} {D : va_G} {cI cJ cZ cN : ClassId} {xa sa ta pa ma : Nat → Nat} {nad : Nat → Nat → Nat} {Q : State → Prop} {ls : Array Slot} (hx : p.tables.exec = Jvm.exec) (hb : c.code = code) (hml : c.maxLocals = 4) (hown : s.vm.findClass RL = some m.cls) (hts : ∀ w ∈ (Cond.initialized RX4 :: yW), w.before #[Value.ref b] s = true) (hw : ∀ w ∈ yW, w.before #[Value.ref b] s = true) (hX : va_X b L xs s s.heap) (hbl : b < s.heap.size) (hK : va_K D vwCl (yT cI cJ cZ cN) s) (hN : yy_N s) {j : Nat} (hj : 5 * j + 5 ≤ L) (hL : L ≤ 2560) (so : SS) (tk : TS) (pk : PS) (vd : Nat → Int32) (tg : Nat → Int32) (ns : Nat → NS) (mo : MO) (mn : MN) (mw : MW) (mt : MT) (mv : Nat → Int32) (mp : MP) (H : Heap) (locs : List Loc) (hR : REL so tk pk vd ns mo mn mt mv mp) (hl : lv_has ls 4 [(0, .ref b), (1, .ref (xa 0)), (2, .ref (ma 0)), (3, .int (nI (5 * j)))]) (hP : va_P D vwCl (xcW xa sa ta pa ++ stW cI cJ sa so ++ naW cN xa nad ++ tkW ta tk ++ pkW cI pa pk ++ vdW cI xa vd ++ tgW cI xa tg ++ n3W cI nad ns ++ mW cI cJ cZ ma mo mn mw mt mv mp) H) (hD : va_D (fun q => s.heap.size ≤ q) (xcW xa sa ta pa ++ stW cI cJ sa so ++ naW cN xa nad ++ tkW ta tk ++ pkW cI pa pk ++ vdW cI xa vd ++ tgW cI xa tg ++ n3W cI nad ns ++ mW cI cJ cZ ma mo mn mw mt mv mp)) (hS : va_S (fun q => s.heap.size ≤ q) s.heap H locs)
    (kk : ∀ (so : SS) (tk : TS) (pk : PS) (vd : Nat → Int32) (tg : Nat → Int32) (ns : Nat → NS) (mo : MO) (mn : MN) (mw : MW) (mt : MT) (mv : Nat → Int32) (mp : MP) (H : Heap) (locs : List Loc), REL so tk pk vd ns mo mn mt mv mp → va_P D vwCl (xcW xa sa ta pa ++ stW cI cJ sa so ++ naW cN xa nad ++ tkW ta tk ++ pkW cI pa pk ++ vdW cI xa vd ++ tgW cI xa tg ++ n3W cI nad ns ++ mW cI cJ cZ ma mo mn mw mt mv mp) H → va_D (fun q => s.heap.size ≤ q) (xcW xa sa ta pa ++ stW cI cJ sa so ++ naW cN xa nad ++ tkW ta tk ++ pkW cI pa pk ++ vdW cI xa vd ++ tgW cI xa tg ++ n3W cI nad ns ++ mW cI cJ cZ ma mo mn mw mt mv mp) → va_S (fun q => s.heap.size ≤ q) s.heap H locs → W p l e room_1 s m #[Value.ref b] below meth c H locs 44 1165 Q (F0 m 671 ls [])) : W p l e room_1 s m #[Value.ref b] below meth c H locs 44 1165 Q (F0 m 157 ls []) := by
  have hA : ∀ q : Nat, s.heap.size ≤ q → (fun q => s.heap.size ≤ q) q := fun q h => h
  have hbA : ¬ (fun q => s.heap.size ≤ q) b := fun h => absurd (show s.heap.size ≤ b from h) (by omega)
  have hs : so.2.2.2.2.2 ≤ 60 := by rw [hR.1.1]; exact hR.1.2.1
  have hp : pk.2.2.2.2.1 ≤ 60 := by rw [hR.2.2.2.1.2.2.2.1]; exact hR.2.2.2.1.2.2.2.2.1
  have ho : mo.1 ≤ 60 := hR.1.2.1
  have hq : mp.1 ≤ 60 := hR.2.2.2.1.2.2.2.2.1
  refine lv_aload_n hx hb dXL_law_157 rfl (lv_at hl 1 rfl) ?_
  refine lv_aload_n hx hb dXL_law_158 rfl (lv_at hl 0 rfl) ?_
  refine lv_iload_n hx hb dXL_law_159 rfl (lv_at hl 3 rfl) ?_
  refine lv_iconst (v := nI 1) hx hb dXL_law_160 (by decide) ?_
  refine yr_iaddN hx hb dXL_law_161 ?_
  refine yr_sld (n := 5 * j + 1) hx hb hX hbl hbA hS rfl (by omega) (by omega) dXL_law_162 ?_
  refine lv_aload_n hx hb dXL_law_163 rfl (lv_at hl 0 rfl) ?_
  refine lv_iload_n hx hb dXL_law_164 rfl (lv_at hl 3 rfl) ?_
  refine lv_iconst (v := nI 2) hx hb dXL_law_165 (by decide) ?_
  refine yr_iaddN hx hb dXL_law_166 ?_
  refine yr_sld (n := 5 * j + 2) hx hb hX hbl hbA hS rfl (by omega) (by omega) dXL_law_167 ?_
  refine lv_aload_n hx hb dXL_law_168 rfl (lv_at hl 0 rfl) ?_
  refine lv_iload_n hx hb dXL_law_169 rfl (lv_at hl 3 rfl) ?_
  refine lv_iconst (v := nI 3) hx hb dXL_law_170 (by decide) ?_
  refine yr_iaddN hx hb dXL_law_171 ?_
  refine yr_sld (n := 5 * j + 3) hx hb hX hbl hbA hS rfl (by omega) (by omega) dXL_law_172 ?_
  obtain ⟨r1, er1⟩ : ∃ r, r = x_tree (xs (5 * j + 1)) (xs (5 * j + 2)) (xs (5 * j + 3)) so ns := ⟨_, rfl⟩
  refine yz_callV (As := [.int (xs (5 * j + 1)), .int (xs (5 * j + 2)), .int (xs (5 * j + 3))]) (rest := []) ⟨hx, hb, hml, hown, hts⟩ (c_x_tree l D cI cJ cZ cN xa sa ta pa nad (xs (5 * j + 1)) (xs (5 * j + 2)) (xs (5 * j + 3)) so tk pk vd tg ns (by (try dsimp only) <;> omega) (by (try dsimp only) <;> omega) r1 er1) ⟨callB_of 3 hts (yy_good wq_219) rfl rfl rfl (hw _ wq_34) (hw _ wq_216) (by decide +kernel) ⟨Nat.le_of_ble_eq_true rfl, Nat.le_of_ble_eq_true rfl⟩, hw _ wq_217, hw _ wq_218⟩ hK hN hP hD hS hA [0, 1, 2, 3, 4, 5, 6, 7, 8, 9, 10, 11, 12, 13, 14, 15, 16, 17, 18, 19, 20, 21, 22, 23] rfl (by decide) rfl 24 rfl (w2 := (xcW xa sa ta pa ++ stW cI cJ sa r1.2.1 ++ naW cN xa nad ++ tkW ta tk ++ pkW cI pa pk ++ vdW cI xa vd ++ tgW cI xa tg ++ n3W cI nad r1.2.2 ++ mW cI cJ cZ ma mo mn mw mt mv mp)) rfl 0 rfl rfl rfl hl.1 rfl (Nat.le_of_ble_eq_true rfl) dXL_law_173 ⟨Nat.le_of_ble_eq_true rfl, Nat.le_of_ble_eq_true rfl⟩ (fun H locs hP hD hS => ?_)
  refine W.eq (g2 := F0 m 176 ls [.int r1.1]) rfl ?_
  refine lv_aload_n hx hb dXL_law_176 rfl (lv_at hl 2 rfl) ?_
  refine lv_aload_n hx hb dXL_law_177 rfl (lv_at hl 0 rfl) ?_
  refine lv_iload_n hx hb dXL_law_178 rfl (lv_at hl 3 rfl) ?_
  refine lv_iconst (v := nI 1) hx hb dXL_law_179 (by decide) ?_
  refine yr_iaddN hx hb dXL_law_180 ?_
  refine yr_sld (n := 5 * j + 1) hx hb hX hbl hbA hS rfl (by omega) (by omega) dXL_law_181 ?_
  refine lv_aload_n hx hb dXL_law_182 rfl (lv_at hl 0 rfl) ?_
  refine lv_iload_n hx hb dXL_law_183 rfl (lv_at hl 3 rfl) ?_
  refine lv_iconst (v := nI 2) hx hb dXL_law_184 (by decide) ?_
  refine yr_iaddN hx hb dXL_law_185 ?_
  refine yr_sld (n := 5 * j + 2) hx hb hX hbl hbA hS rfl (by omega) (by omega) dXL_law_186 ?_
  refine lv_aload_n hx hb dXL_law_187 rfl (lv_at hl 0 rfl) ?_
  refine lv_iload_n hx hb dXL_law_188 rfl (lv_at hl 3 rfl) ?_
  refine lv_iconst (v := nI 3) hx hb dXL_law_189 (by decide) ?_
  refine yr_iaddN hx hb dXL_law_190 ?_
  refine yr_sld (n := 5 * j + 3) hx hb hX hbl hbA hS rfl (by omega) (by omega) dXL_law_191 ?_
  obtain ⟨r2, er2⟩ : ∃ r, r = md_tree (xs (5 * j + 1)) (xs (5 * j + 2)) (xs (5 * j + 3)) mo mn := ⟨_, rfl⟩
  refine yz_callV (As := [.int (xs (5 * j + 1)), .int (xs (5 * j + 2)), .int (xs (5 * j + 3))]) (rest := [.int r1.1]) ⟨hx, hb, hml, hown, hts⟩ (c_md_tree l D cI cJ cZ cN ma (xs (5 * j + 1)) (xs (5 * j + 2)) (xs (5 * j + 3)) mo mn mw mt mv mp (by (try dsimp only) <;> omega) (by (try dsimp only) <;> omega) r2 er2) ⟨callB_of 3 hts (yy_good wq_584) rfl rfl rfl (hw _ wq_39) (hw _ wq_581) (by decide +kernel) ⟨Nat.le_of_ble_eq_true rfl, Nat.le_of_ble_eq_true rfl⟩, hw _ wq_582, hw _ wq_583⟩ hK hN hP hD hS hA [24, 25, 26, 27, 28, 29, 30, 31, 32, 33, 34, 35, 36, 37, 38, 39, 40, 41, 42, 43] rfl (by decide) rfl 44 rfl (w2 := (xcW xa sa ta pa ++ stW cI cJ sa r1.2.1 ++ naW cN xa nad ++ tkW ta tk ++ pkW cI pa pk ++ vdW cI xa vd ++ tgW cI xa tg ++ n3W cI nad r1.2.2 ++ mW cI cJ cZ ma r2.2.1 r2.2.2 mw mt mv mp)) rfl 24 rfl rfl rfl hl.1 rfl (Nat.le_of_ble_eq_true rfl) dXL_law_192 ⟨Nat.le_of_ble_eq_true rfl, Nat.le_of_ble_eq_true rfl⟩ (fun H locs hP hD hS => ?_)
  refine W.eq (g2 := F0 m 195 ls [.int r2.1, .int r1.1]) rfl ?_
  have hrel := rel_tree hR (xs (5 * j + 1)) (xs (5 * j + 2)) (xs (5 * j + 3))
  rw [← er1, ← er2] at hrel
  have heq : r1.1 = r2.1 := by rw [hrel.1]
  refine lv_icmp_eq (tgt := 671) hx hb dXL_law_195 (by decide) (fun _ => ?_) (fun h => absurd heq h)
  exact kk r1.2.1 tk pk vd tg r1.2.2 r2.2.1 r2.2.2 mw mt mv mp H locs hrel.2 hP hD hS

set_option maxHeartbeats 4000000 in
set_option maxRecDepth 100000 in
theorem lw_c_commit {p : Program} {l : Launch} {e : Env} {s : State} {m : MethodId} {below : List Frame} {meth : Method} {c : Code} {b L : Nat} {xs : Nat → Int32} {D : va_G} {cI cJ cZ cN : ClassId} {xa sa ta pa ma : Nat → Nat} {nad : Nat → Nat → Nat} {Q : State → Prop} {ls : Array Slot} (hx : p.tables.exec = Jvm.exec) (hb : c.code = code) (hml : c.maxLocals = 4) (hown : s.vm.findClass RL = some m.cls) (hts : ∀ w ∈ (Cond.initialized RX4 :: yW), w.before #[Value.ref b] s = true) (hw : ∀ w ∈ yW, w.before #[Value.ref b] s = true) (hX : va_X b L xs s s.heap) (hbl : b < s.heap.size) (hK : va_K D vwCl (yT cI cJ cZ cN) s) (hN : yy_N s) {j : Nat} (hj : 5 * j + 5 ≤ L) (hL : L ≤ 2560) (so : SS) (tk : TS) (pk : PS) (vd : Nat → Int32) (tg : Nat → Int32) (ns : Nat → NS) (mo : MO) (mn : MN) (mw : MW) (mt : MT) (mv : Nat → Int32) (mp : MP) (H : Heap) (locs : List Loc) (hR : REL so tk pk vd ns mo mn mt mv mp) (hl : lv_has ls 4 [(0, .ref b), (1, .ref (xa 0)), (2, .ref (ma 0)), (3, .int (nI (5 * j)))]) (hP : va_P D vwCl (xcW xa sa ta pa ++ stW cI cJ sa so ++ naW cN xa nad ++ tkW ta tk ++ pkW cI pa pk ++ vdW cI xa vd ++ tgW cI xa tg ++ n3W cI nad ns ++ mW cI cJ cZ ma mo mn mw mt mv mp) H) (hD : va_D (fun q => s.heap.size ≤ q) (xcW xa sa ta pa ++ stW cI cJ sa so ++ naW cN xa nad ++ tkW ta tk ++ pkW cI pa pk ++ vdW cI xa vd ++ tgW cI xa tg ++ n3W cI nad ns ++ mW cI cJ cZ ma mo mn mw mt mv mp)) (hS : va_S (fun q => s.heap.size ≤ q) s.heap H locs)
    (kk : ∀ (so : SS) (tk : TS) (pk : PS) (vd : Nat → Int32) (tg : Nat → Int32) (ns : Nat → NS) (mo : MO) (mn : MN) (mw : MW) (mt : MT) (mv : Nat → Int32) (mp : MP) (H : Heap) (locs : List Loc), REL so tk pk vd ns mo mn mt mv mp → va_P D vwCl (xcW xa sa ta pa ++ stW cI cJ sa so ++ naW cN xa nad ++ tkW ta tk ++ pkW cI pa pk ++ vdW cI xa vd ++ tgW cI xa tg ++ n3W cI nad ns ++ mW cI cJ cZ ma mo mn mw mt mv mp) H → va_D (fun q => s.heap.size ≤ q) (xcW xa sa ta pa ++ stW cI cJ sa so ++ naW cN xa nad ++ tkW ta tk ++ pkW cI pa pk ++ vdW cI xa vd ++ tgW cI xa tg ++ n3W cI nad ns ++ mW cI cJ cZ ma mo mn mw mt mv mp) → va_S (fun q => s.heap.size ≤ q) s.heap H locs → W p l e room_1 s m #[Value.ref b] below meth c H locs 44 1165 Q (F0 m 671 ls [])) : W p l e room_1 s m #[Value.ref b] below meth c H locs 44 1165 Q (F0 m 200 ls []) := by
  have hA : ∀ q : Nat, s.heap.size ≤ q → (fun q => s.heap.size ≤ q) q := fun q h => h
  have hbA : ¬ (fun q => s.heap.size ≤ q) b := fun h => absurd (show s.heap.size ≤ b from h) (by omega)
  have hs : so.2.2.2.2.2 ≤ 60 := by rw [hR.1.1]; exact hR.1.2.1
  have hp : pk.2.2.2.2.1 ≤ 60 := by rw [hR.2.2.2.1.2.2.2.1]; exact hR.2.2.2.1.2.2.2.2.1
  have ho : mo.1 ≤ 60 := hR.1.2.1
  have hq : mp.1 ≤ 60 := hR.2.2.2.1.2.2.2.2.1
  refine lv_aload_n hx hb dXL_law_200 rfl (lv_at hl 1 rfl) ?_
  refine lv_aload_n hx hb dXL_law_201 rfl (lv_at hl 0 rfl) ?_
  refine lv_iload_n hx hb dXL_law_202 rfl (lv_at hl 3 rfl) ?_
  refine lv_iconst (v := nI 1) hx hb dXL_law_203 (by decide) ?_
  refine yr_iaddN hx hb dXL_law_204 ?_
  refine yr_sld (n := 5 * j + 1) hx hb hX hbl hbA hS rfl (by omega) (by omega) dXL_law_205 ?_
  refine lv_aload_n hx hb dXL_law_206 rfl (lv_at hl 0 rfl) ?_
  refine lv_iload_n hx hb dXL_law_207 rfl (lv_at hl 3 rfl) ?_
  refine lv_iconst (v := nI 2) hx hb dXL_law_208 (by decide) ?_
  refine yr_iaddN hx hb dXL_law_209 ?_
  refine yr_sld (n := 5 * j + 2) hx hb hX hbl hbA hS rfl (by omega) (by omega) dXL_law_210 ?_
  refine lv_aload_n hx hb dXL_law_211 rfl (lv_at hl 0 rfl) ?_
  refine lv_iload_n hx hb dXL_law_212 rfl (lv_at hl 3 rfl) ?_
  refine lv_iconst (v := nI 3) hx hb dXL_law_213 (by decide) ?_
  refine yr_iaddN hx hb dXL_law_214 ?_
  refine yr_sld (n := 5 * j + 3) hx hb hX hbl hbA hS rfl (by omega) (by omega) dXL_law_215 ?_
  refine lv_aload_n hx hb dXL_law_216 rfl (lv_at hl 0 rfl) ?_
  refine lv_iload_n hx hb dXL_law_217 rfl (lv_at hl 3 rfl) ?_
  refine lv_iconst (v := nI 4) hx hb dXL_law_218 (by decide) ?_
  refine yr_iaddN hx hb dXL_law_219 ?_
  refine yr_sld (n := 5 * j + 4) hx hb hX hbl hbA hS rfl (by omega) (by omega) dXL_law_220 ?_
  obtain ⟨r1, er1⟩ : ∃ r, r = x_commit (xs (5 * j + 1)) (xs (5 * j + 2)) (xs (5 * j + 3)) (xs (5 * j + 4)) so tg ns := ⟨_, rfl⟩
  refine yz_callV (As := [.int (xs (5 * j + 1)), .int (xs (5 * j + 2)), .int (xs (5 * j + 3)), .int (xs (5 * j + 4))]) (rest := []) ⟨hx, hb, hml, hown, hts⟩ (c_x_commit l D cI cJ cZ cN xa sa ta pa nad (xs (5 * j + 1)) (xs (5 * j + 2)) (xs (5 * j + 3)) (xs (5 * j + 4)) so tk pk vd tg ns (by (try dsimp only) <;> omega) (by (try dsimp only) <;> omega) r1 er1) ⟨callB_of 4 hts (yy_good wq_235) rfl rfl rfl (hw _ wq_34) (hw _ wq_232) (by decide +kernel) ⟨Nat.le_of_ble_eq_true rfl, Nat.le_of_ble_eq_true rfl⟩, hw _ wq_233, hw _ wq_234⟩ hK hN hP hD hS hA [0, 1, 2, 3, 4, 5, 6, 7, 8, 9, 10, 11, 12, 13, 14, 15, 16, 17, 18, 19, 20, 21, 22, 23] rfl (by decide) rfl 24 rfl (w2 := (xcW xa sa ta pa ++ stW cI cJ sa r1.2.1 ++ naW cN xa nad ++ tkW ta tk ++ pkW cI pa pk ++ vdW cI xa vd ++ tgW cI xa r1.2.2.1 ++ n3W cI nad r1.2.2.2 ++ mW cI cJ cZ ma mo mn mw mt mv mp)) rfl 0 rfl rfl rfl hl.1 rfl (Nat.le_of_ble_eq_true rfl) dXL_law_221 ⟨Nat.le_of_ble_eq_true rfl, Nat.le_of_ble_eq_true rfl⟩ (fun H locs hP hD hS => ?_)
  refine W.eq (g2 := F0 m 224 ls [.int r1.1]) rfl ?_
  refine lv_aload_n hx hb dXL_law_224 rfl (lv_at hl 2 rfl) ?_
  refine lv_aload_n hx hb dXL_law_225 rfl (lv_at hl 0 rfl) ?_
  refine lv_iload_n hx hb dXL_law_226 rfl (lv_at hl 3 rfl) ?_
  refine lv_iconst (v := nI 1) hx hb dXL_law_227 (by decide) ?_
  refine yr_iaddN hx hb dXL_law_228 ?_
  refine yr_sld (n := 5 * j + 1) hx hb hX hbl hbA hS rfl (by omega) (by omega) dXL_law_229 ?_
  refine lv_aload_n hx hb dXL_law_230 rfl (lv_at hl 0 rfl) ?_
  refine lv_iload_n hx hb dXL_law_231 rfl (lv_at hl 3 rfl) ?_
  refine lv_iconst (v := nI 2) hx hb dXL_law_232 (by decide) ?_
  refine yr_iaddN hx hb dXL_law_233 ?_
  refine yr_sld (n := 5 * j + 2) hx hb hX hbl hbA hS rfl (by omega) (by omega) dXL_law_234 ?_
  refine lv_aload_n hx hb dXL_law_235 rfl (lv_at hl 0 rfl) ?_
  refine lv_iload_n hx hb dXL_law_236 rfl (lv_at hl 3 rfl) ?_
  refine lv_iconst (v := nI 3) hx hb dXL_law_237 (by decide) ?_
  refine yr_iaddN hx hb dXL_law_238 ?_
  refine yr_sld (n := 5 * j + 3) hx hb hX hbl hbA hS rfl (by omega) (by omega) dXL_law_239 ?_
  refine lv_aload_n hx hb dXL_law_240 rfl (lv_at hl 0 rfl) ?_
  refine lv_iload_n hx hb dXL_law_241 rfl (lv_at hl 3 rfl) ?_
  refine lv_iconst (v := nI 4) hx hb dXL_law_242 (by decide) ?_
  refine yr_iaddN hx hb dXL_law_243 ?_
  refine yr_sld (n := 5 * j + 4) hx hb hX hbl hbA hS rfl (by omega) (by omega) dXL_law_244 ?_
  obtain ⟨r2, er2⟩ : ∃ r, r = md_commit (xs (5 * j + 1)) (xs (5 * j + 2)) (xs (5 * j + 3)) (xs (5 * j + 4)) mo mn mw := ⟨_, rfl⟩
  refine yz_callV (As := [.int (xs (5 * j + 1)), .int (xs (5 * j + 2)), .int (xs (5 * j + 3)), .int (xs (5 * j + 4))]) (rest := [.int r1.1]) ⟨hx, hb, hml, hown, hts⟩ (c_md_commit l D cI cJ cZ cN ma (xs (5 * j + 1)) (xs (5 * j + 2)) (xs (5 * j + 3)) (xs (5 * j + 4)) mo mn mw mt mv mp (by (try dsimp only) <;> omega) (by (try dsimp only) <;> omega) r2 er2) ⟨callB_of 4 hts (yy_good wq_592) rfl rfl rfl (hw _ wq_39) (hw _ wq_589) (by decide +kernel) ⟨Nat.le_of_ble_eq_true rfl, Nat.le_of_ble_eq_true rfl⟩, hw _ wq_590, hw _ wq_591⟩ hK hN hP hD hS hA [24, 25, 26, 27, 28, 29, 30, 31, 32, 33, 34, 35, 36, 37, 38, 39, 40, 41, 42, 43] rfl (by decide) rfl 44 rfl (w2 := (xcW xa sa ta pa ++ stW cI cJ sa r1.2.1 ++ naW cN xa nad ++ tkW ta tk ++ pkW cI pa pk ++ vdW cI xa vd ++ tgW cI xa r1.2.2.1 ++ n3W cI nad r1.2.2.2 ++ mW cI cJ cZ ma r2.2.1 r2.2.2.1 r2.2.2.2 mt mv mp)) rfl 24 rfl rfl rfl hl.1 rfl (Nat.le_of_ble_eq_true rfl) dXL_law_245 ⟨Nat.le_of_ble_eq_true rfl, Nat.le_of_ble_eq_true rfl⟩ (fun H locs hP hD hS => ?_)
  refine W.eq (g2 := F0 m 248 ls [.int r2.1, .int r1.1]) rfl ?_
  have hrel := rel_commit (tg := tg) (mw := mw) hR (xs (5 * j + 1)) (xs (5 * j + 2)) (xs (5 * j + 3)) (xs (5 * j + 4))
  rw [← er1, ← er2] at hrel
  have heq : r1.1 = r2.1 := by rw [hrel.1]
  refine lv_icmp_eq (tgt := 671) hx hb dXL_law_248 (by decide) (fun _ => ?_) (fun h => absurd heq h)
  exact kk r1.2.1 tk pk vd r1.2.2.1 r1.2.2.2 r2.2.1 r2.2.2.1 r2.2.2.2 mt mv mp H locs hrel.2 hP hD hS

set_option maxHeartbeats 4000000 in
set_option maxRecDepth 100000 in
theorem lw_c_point {p : Program} {l : Launch} {e : Env} {s : State} {m : MethodId} {below : List Frame} {meth : Method} {c : Code} {b L : Nat} {xs : Nat → Int32} {D : va_G} {cI cJ cZ cN : ClassId} {xa sa ta pa ma : Nat → Nat} {nad : Nat → Nat → Nat} {Q : State → Prop} {ls : Array Slot} (hx : p.tables.exec = Jvm.exec) (hb : c.code = code) (hml : c.maxLocals = 4) (hown : s.vm.findClass RL = some m.cls) (hts : ∀ w ∈ (Cond.initialized RX4 :: yW), w.before #[Value.ref b] s = true) (hw : ∀ w ∈ yW, w.before #[Value.ref b] s = true) (hX : va_X b L xs s s.heap) (hbl : b < s.heap.size) (hK : va_K D vwCl (yT cI cJ cZ cN) s) (hN : yy_N s) {j : Nat} (hj : 5 * j + 5 ≤ L) (hL : L ≤ 2560) (so : SS) (tk : TS) (pk : PS) (vd : Nat → Int32) (tg : Nat → Int32) (ns : Nat → NS) (mo : MO) (mn : MN) (mw : MW) (mt : MT) (mv : Nat → Int32) (mp : MP) (H : Heap) (locs : List Loc) (hR : REL so tk pk vd ns mo mn mt mv mp) (hl : lv_has ls 4 [(0, .ref b), (1, .ref (xa 0)), (2, .ref (ma 0)), (3, .int (nI (5 * j)))]) (hP : va_P D vwCl (xcW xa sa ta pa ++ stW cI cJ sa so ++ naW cN xa nad ++ tkW ta tk ++ pkW cI pa pk ++ vdW cI xa vd ++ tgW cI xa tg ++ n3W cI nad ns ++ mW cI cJ cZ ma mo mn mw mt mv mp) H) (hD : va_D (fun q => s.heap.size ≤ q) (xcW xa sa ta pa ++ stW cI cJ sa so ++ naW cN xa nad ++ tkW ta tk ++ pkW cI pa pk ++ vdW cI xa vd ++ tgW cI xa tg ++ n3W cI nad ns ++ mW cI cJ cZ ma mo mn mw mt mv mp)) (hS : va_S (fun q => s.heap.size ≤ q) s.heap H locs)
    (kk : ∀ (so : SS) (tk : TS) (pk : PS) (vd : Nat → Int32) (tg : Nat → Int32) (ns : Nat → NS) (mo : MO) (mn : MN) (mw : MW) (mt : MT) (mv : Nat → Int32) (mp : MP) (H : Heap) (locs : List Loc), REL so tk pk vd ns mo mn mt mv mp → va_P D vwCl (xcW xa sa ta pa ++ stW cI cJ sa so ++ naW cN xa nad ++ tkW ta tk ++ pkW cI pa pk ++ vdW cI xa vd ++ tgW cI xa tg ++ n3W cI nad ns ++ mW cI cJ cZ ma mo mn mw mt mv mp) H → va_D (fun q => s.heap.size ≤ q) (xcW xa sa ta pa ++ stW cI cJ sa so ++ naW cN xa nad ++ tkW ta tk ++ pkW cI pa pk ++ vdW cI xa vd ++ tgW cI xa tg ++ n3W cI nad ns ++ mW cI cJ cZ ma mo mn mw mt mv mp) → va_S (fun q => s.heap.size ≤ q) s.heap H locs → W p l e room_1 s m #[Value.ref b] below meth c H locs 44 1165 Q (F0 m 671 ls [])) : W p l e room_1 s m #[Value.ref b] below meth c H locs 44 1165 Q (F0 m 253 ls []) := by
  have hA : ∀ q : Nat, s.heap.size ≤ q → (fun q => s.heap.size ≤ q) q := fun q h => h
  have hbA : ¬ (fun q => s.heap.size ≤ q) b := fun h => absurd (show s.heap.size ≤ b from h) (by omega)
  have hs : so.2.2.2.2.2 ≤ 60 := by rw [hR.1.1]; exact hR.1.2.1
  have hp : pk.2.2.2.2.1 ≤ 60 := by rw [hR.2.2.2.1.2.2.2.1]; exact hR.2.2.2.1.2.2.2.2.1
  have ho : mo.1 ≤ 60 := hR.1.2.1
  have hq : mp.1 ≤ 60 := hR.2.2.2.1.2.2.2.2.1
  refine lv_aload_n hx hb dXL_law_253 rfl (lv_at hl 1 rfl) ?_
  refine lv_aload_n hx hb dXL_law_254 rfl (lv_at hl 0 rfl) ?_
  refine lv_iload_n hx hb dXL_law_255 rfl (lv_at hl 3 rfl) ?_
  refine lv_iconst (v := nI 1) hx hb dXL_law_256 (by decide) ?_
  refine yr_iaddN hx hb dXL_law_257 ?_
  refine yr_sld (n := 5 * j + 1) hx hb hX hbl hbA hS rfl (by omega) (by omega) dXL_law_258 ?_
  refine lv_aload_n hx hb dXL_law_259 rfl (lv_at hl 0 rfl) ?_
  refine lv_iload_n hx hb dXL_law_260 rfl (lv_at hl 3 rfl) ?_
  refine lv_iconst (v := nI 2) hx hb dXL_law_261 (by decide) ?_
  refine yr_iaddN hx hb dXL_law_262 ?_
  refine yr_sld (n := 5 * j + 2) hx hb hX hbl hbA hS rfl (by omega) (by omega) dXL_law_263 ?_
  refine lv_aload_n hx hb dXL_law_264 rfl (lv_at hl 0 rfl) ?_
  refine lv_iload_n hx hb dXL_law_265 rfl (lv_at hl 3 rfl) ?_
  refine lv_iconst (v := nI 3) hx hb dXL_law_266 (by decide) ?_
  refine yr_iaddN hx hb dXL_law_267 ?_
  refine yr_sld (n := 5 * j + 3) hx hb hX hbl hbA hS rfl (by omega) (by omega) dXL_law_268 ?_
  obtain ⟨r1, er1⟩ : ∃ r, r = x_point (xs (5 * j + 1)) (xs (5 * j + 2)) (xs (5 * j + 3)) so tg ns := ⟨_, rfl⟩
  refine yz_callV (As := [.int (xs (5 * j + 1)), .int (xs (5 * j + 2)), .int (xs (5 * j + 3))]) (rest := []) ⟨hx, hb, hml, hown, hts⟩ (c_x_point l D cI cJ cZ cN xa sa ta pa nad (xs (5 * j + 1)) (xs (5 * j + 2)) (xs (5 * j + 3)) so tk pk vd tg ns (by (try dsimp only) <;> omega) (by (try dsimp only) <;> omega) r1 er1) ⟨callB_of 3 hts (yy_good wq_271) rfl rfl rfl (hw _ wq_34) (hw _ wq_268) (by decide +kernel) ⟨Nat.le_of_ble_eq_true rfl, Nat.le_of_ble_eq_true rfl⟩, hw _ wq_269, hw _ wq_270⟩ hK hN hP hD hS hA [0, 1, 2, 3, 4, 5, 6, 7, 8, 9, 10, 11, 12, 13, 14, 15, 16, 17, 18, 19, 20, 21, 22, 23] rfl (by decide) rfl 24 rfl (w2 := (xcW xa sa ta pa ++ stW cI cJ sa so ++ naW cN xa nad ++ tkW ta tk ++ pkW cI pa pk ++ vdW cI xa vd ++ tgW cI xa r1.2.1 ++ n3W cI nad r1.2.2 ++ mW cI cJ cZ ma mo mn mw mt mv mp)) rfl 0 rfl rfl rfl hl.1 rfl (Nat.le_of_ble_eq_true rfl) dXL_law_269 ⟨Nat.le_of_ble_eq_true rfl, Nat.le_of_ble_eq_true rfl⟩ (fun H locs hP hD hS => ?_)
  refine W.eq (g2 := F0 m 272 ls [.int r1.1]) rfl ?_
  refine lv_aload_n hx hb dXL_law_272 rfl (lv_at hl 2 rfl) ?_
  refine lv_aload_n hx hb dXL_law_273 rfl (lv_at hl 0 rfl) ?_
  refine lv_iload_n hx hb dXL_law_274 rfl (lv_at hl 3 rfl) ?_
  refine lv_iconst (v := nI 1) hx hb dXL_law_275 (by decide) ?_
  refine yr_iaddN hx hb dXL_law_276 ?_
  refine yr_sld (n := 5 * j + 1) hx hb hX hbl hbA hS rfl (by omega) (by omega) dXL_law_277 ?_
  refine lv_aload_n hx hb dXL_law_278 rfl (lv_at hl 0 rfl) ?_
  refine lv_iload_n hx hb dXL_law_279 rfl (lv_at hl 3 rfl) ?_
  refine lv_iconst (v := nI 2) hx hb dXL_law_280 (by decide) ?_
  refine yr_iaddN hx hb dXL_law_281 ?_
  refine yr_sld (n := 5 * j + 2) hx hb hX hbl hbA hS rfl (by omega) (by omega) dXL_law_282 ?_
  refine lv_aload_n hx hb dXL_law_283 rfl (lv_at hl 0 rfl) ?_
  refine lv_iload_n hx hb dXL_law_284 rfl (lv_at hl 3 rfl) ?_
  refine lv_iconst (v := nI 3) hx hb dXL_law_285 (by decide) ?_
  refine yr_iaddN hx hb dXL_law_286 ?_
  refine yr_sld (n := 5 * j + 3) hx hb hX hbl hbA hS rfl (by omega) (by omega) dXL_law_287 ?_
  obtain ⟨r2, er2⟩ : ∃ r, r = md_point (xs (5 * j + 1)) (xs (5 * j + 2)) (xs (5 * j + 3)) mo mn mw := ⟨_, rfl⟩
  refine yz_callV (As := [.int (xs (5 * j + 1)), .int (xs (5 * j + 2)), .int (xs (5 * j + 3))]) (rest := [.int r1.1]) ⟨hx, hb, hml, hown, hts⟩ (c_md_point l D cI cJ cZ cN ma (xs (5 * j + 1)) (xs (5 * j + 2)) (xs (5 * j + 3)) mo mn mw mt mv mp (by (try dsimp only) <;> omega) (by (try dsimp only) <;> omega) r2 er2) ⟨callB_of 3 hts (yy_good wq_612) rfl rfl rfl (hw _ wq_39) (hw _ wq_609) (by decide +kernel) ⟨Nat.le_of_ble_eq_true rfl, Nat.le_of_ble_eq_true rfl⟩, hw _ wq_610, hw _ wq_611⟩ hK hN hP hD hS hA [24, 25, 26, 27, 28, 29, 30, 31, 32, 33, 34, 35, 36, 37, 38, 39, 40, 41, 42, 43] rfl (by decide) rfl 44 rfl (w2 := (xcW xa sa ta pa ++ stW cI cJ sa so ++ naW cN xa nad ++ tkW ta tk ++ pkW cI pa pk ++ vdW cI xa vd ++ tgW cI xa r1.2.1 ++ n3W cI nad r1.2.2 ++ mW cI cJ cZ ma mo r2.2.1 r2.2.2 mt mv mp)) rfl 24 rfl rfl rfl hl.1 rfl (Nat.le_of_ble_eq_true rfl) dXL_law_288 ⟨Nat.le_of_ble_eq_true rfl, Nat.le_of_ble_eq_true rfl⟩ (fun H locs hP hD hS => ?_)
  refine W.eq (g2 := F0 m 291 ls [.int r2.1, .int r1.1]) rfl ?_
  have hrel := rel_point (tg := tg) (mw := mw) hR (xs (5 * j + 1)) (xs (5 * j + 2)) (xs (5 * j + 3))
  rw [← er1, ← er2] at hrel
  have heq : r1.1 = r2.1 := by rw [hrel.1]
  refine lv_icmp_eq (tgt := 671) hx hb dXL_law_291 (by decide) (fun _ => ?_) (fun h => absurd heq h)
  exact kk so tk pk vd r1.2.1 r1.2.2 mo r2.2.1 r2.2.2 mt mv mp H locs hrel.2 hP hD hS

set_option maxHeartbeats 4000000 in
set_option maxRecDepth 100000 in
theorem lw_c_fetch {p : Program} {l : Launch} {e : Env} {s : State} {m : MethodId} {below : List Frame} {meth : Method} {c : Code} {b L : Nat} {xs : Nat → Int32} {D : va_G} {cI cJ cZ cN : ClassId} {xa sa ta pa ma : Nat → Nat} {nad : Nat → Nat → Nat} {Q : State → Prop} {ls : Array Slot} (hx : p.tables.exec = Jvm.exec) (hb : c.code = code) (hml : c.maxLocals = 4) (hown : s.vm.findClass RL = some m.cls) (hts : ∀ w ∈ (Cond.initialized RX4 :: yW), w.before #[Value.ref b] s = true) (hw : ∀ w ∈ yW, w.before #[Value.ref b] s = true) (hX : va_X b L xs s s.heap) (hbl : b < s.heap.size) (hK : va_K D vwCl (yT cI cJ cZ cN) s) (hN : yy_N s) {j : Nat} (hj : 5 * j + 5 ≤ L) (hL : L ≤ 2560) (so : SS) (tk : TS) (pk : PS) (vd : Nat → Int32) (tg : Nat → Int32) (ns : Nat → NS) (mo : MO) (mn : MN) (mw : MW) (mt : MT) (mv : Nat → Int32) (mp : MP) (H : Heap) (locs : List Loc) (hR : REL so tk pk vd ns mo mn mt mv mp) (hl : lv_has ls 4 [(0, .ref b), (1, .ref (xa 0)), (2, .ref (ma 0)), (3, .int (nI (5 * j)))]) (hP : va_P D vwCl (xcW xa sa ta pa ++ stW cI cJ sa so ++ naW cN xa nad ++ tkW ta tk ++ pkW cI pa pk ++ vdW cI xa vd ++ tgW cI xa tg ++ n3W cI nad ns ++ mW cI cJ cZ ma mo mn mw mt mv mp) H) (hD : va_D (fun q => s.heap.size ≤ q) (xcW xa sa ta pa ++ stW cI cJ sa so ++ naW cN xa nad ++ tkW ta tk ++ pkW cI pa pk ++ vdW cI xa vd ++ tgW cI xa tg ++ n3W cI nad ns ++ mW cI cJ cZ ma mo mn mw mt mv mp)) (hS : va_S (fun q => s.heap.size ≤ q) s.heap H locs)
    (kk : ∀ (so : SS) (tk : TS) (pk : PS) (vd : Nat → Int32) (tg : Nat → Int32) (ns : Nat → NS) (mo : MO) (mn : MN) (mw : MW) (mt : MT) (mv : Nat → Int32) (mp : MP) (H : Heap) (locs : List Loc), REL so tk pk vd ns mo mn mt mv mp → va_P D vwCl (xcW xa sa ta pa ++ stW cI cJ sa so ++ naW cN xa nad ++ tkW ta tk ++ pkW cI pa pk ++ vdW cI xa vd ++ tgW cI xa tg ++ n3W cI nad ns ++ mW cI cJ cZ ma mo mn mw mt mv mp) H → va_D (fun q => s.heap.size ≤ q) (xcW xa sa ta pa ++ stW cI cJ sa so ++ naW cN xa nad ++ tkW ta tk ++ pkW cI pa pk ++ vdW cI xa vd ++ tgW cI xa tg ++ n3W cI nad ns ++ mW cI cJ cZ ma mo mn mw mt mv mp) → va_S (fun q => s.heap.size ≤ q) s.heap H locs → W p l e room_1 s m #[Value.ref b] below meth c H locs 44 1165 Q (F0 m 671 ls [])) : W p l e room_1 s m #[Value.ref b] below meth c H locs 44 1165 Q (F0 m 296 ls []) := by
  have hA : ∀ q : Nat, s.heap.size ≤ q → (fun q => s.heap.size ≤ q) q := fun q h => h
  have hbA : ¬ (fun q => s.heap.size ≤ q) b := fun h => absurd (show s.heap.size ≤ b from h) (by omega)
  have hs : so.2.2.2.2.2 ≤ 60 := by rw [hR.1.1]; exact hR.1.2.1
  have hp : pk.2.2.2.2.1 ≤ 60 := by rw [hR.2.2.2.1.2.2.2.1]; exact hR.2.2.2.1.2.2.2.2.1
  have ho : mo.1 ≤ 60 := hR.1.2.1
  have hq : mp.1 ≤ 60 := hR.2.2.2.1.2.2.2.2.1
  refine lv_aload_n hx hb dXL_law_296 rfl (lv_at hl 1 rfl) ?_
  refine lv_aload_n hx hb dXL_law_297 rfl (lv_at hl 0 rfl) ?_
  refine lv_iload_n hx hb dXL_law_298 rfl (lv_at hl 3 rfl) ?_
  refine lv_iconst (v := nI 1) hx hb dXL_law_299 (by decide) ?_
  refine yr_iaddN hx hb dXL_law_300 ?_
  refine yr_sld (n := 5 * j + 1) hx hb hX hbl hbA hS rfl (by omega) (by omega) dXL_law_301 ?_
  refine lv_aload_n hx hb dXL_law_302 rfl (lv_at hl 0 rfl) ?_
  refine lv_iload_n hx hb dXL_law_303 rfl (lv_at hl 3 rfl) ?_
  refine lv_iconst (v := nI 2) hx hb dXL_law_304 (by decide) ?_
  refine yr_iaddN hx hb dXL_law_305 ?_
  refine yr_sld (n := 5 * j + 2) hx hb hX hbl hbA hS rfl (by omega) (by omega) dXL_law_306 ?_
  obtain ⟨r1, er1⟩ : ∃ r, r = x_fetch (xs (5 * j + 1)) (xs (5 * j + 2)) so tk pk tg ns := ⟨_, rfl⟩
  refine yz_callV (As := [.int (xs (5 * j + 1)), .int (xs (5 * j + 2))]) (rest := []) ⟨hx, hb, hml, hown, hts⟩ (c_x_fetch l D cI cJ cZ cN xa sa ta pa nad (xs (5 * j + 1)) (xs (5 * j + 2)) so tk pk vd tg ns (by (try dsimp only) <;> omega) (by (try dsimp only) <;> omega) r1 er1) ⟨callB_of 2 hts (yy_good wq_275) rfl rfl rfl (hw _ wq_34) (hw _ wq_272) (by decide +kernel) ⟨Nat.le_of_ble_eq_true rfl, Nat.le_of_ble_eq_true rfl⟩, hw _ wq_273, hw _ wq_274⟩ hK hN hP hD hS hA [0, 1, 2, 3, 4, 5, 6, 7, 8, 9, 10, 11, 12, 13, 14, 15, 16, 17, 18, 19, 20, 21, 22, 23] rfl (by decide) rfl 24 rfl (w2 := (xcW xa sa ta pa ++ stW cI cJ sa so ++ naW cN xa nad ++ tkW ta r1.2.1 ++ pkW cI pa r1.2.2.1 ++ vdW cI xa vd ++ tgW cI xa r1.2.2.2.1 ++ n3W cI nad r1.2.2.2.2 ++ mW cI cJ cZ ma mo mn mw mt mv mp)) rfl 0 rfl rfl rfl hl.1 rfl (Nat.le_of_ble_eq_true rfl) dXL_law_307 ⟨Nat.le_of_ble_eq_true rfl, Nat.le_of_ble_eq_true rfl⟩ (fun H locs hP hD hS => ?_)
  refine W.eq (g2 := F0 m 310 ls [.int r1.1]) rfl ?_
  refine lv_aload_n hx hb dXL_law_310 rfl (lv_at hl 2 rfl) ?_
  refine lv_aload_n hx hb dXL_law_311 rfl (lv_at hl 0 rfl) ?_
  refine lv_iload_n hx hb dXL_law_312 rfl (lv_at hl 3 rfl) ?_
  refine lv_iconst (v := nI 1) hx hb dXL_law_313 (by decide) ?_
  refine yr_iaddN hx hb dXL_law_314 ?_
  refine yr_sld (n := 5 * j + 1) hx hb hX hbl hbA hS rfl (by omega) (by omega) dXL_law_315 ?_
  refine lv_aload_n hx hb dXL_law_316 rfl (lv_at hl 0 rfl) ?_
  refine lv_iload_n hx hb dXL_law_317 rfl (lv_at hl 3 rfl) ?_
  refine lv_iconst (v := nI 2) hx hb dXL_law_318 (by decide) ?_
  refine yr_iaddN hx hb dXL_law_319 ?_
  refine yr_sld (n := 5 * j + 2) hx hb hX hbl hbA hS rfl (by omega) (by omega) dXL_law_320 ?_
  obtain ⟨r2, er2⟩ : ∃ r, r = md_fetch (xs (5 * j + 1)) (xs (5 * j + 2)) mo mn mw mt mp := ⟨_, rfl⟩
  refine yz_callV (As := [.int (xs (5 * j + 1)), .int (xs (5 * j + 2))]) (rest := [.int r1.1]) ⟨hx, hb, hml, hown, hts⟩ (c_md_fetch l D cI cJ cZ cN ma (xs (5 * j + 1)) (xs (5 * j + 2)) mo mn mw mt mv mp (by (try dsimp only) <;> omega) (by (try dsimp only) <;> omega) r2 er2) ⟨callB_of 2 hts (yy_good wq_616) rfl rfl rfl (hw _ wq_39) (hw _ wq_613) (by decide +kernel) ⟨Nat.le_of_ble_eq_true rfl, Nat.le_of_ble_eq_true rfl⟩, hw _ wq_614, hw _ wq_615⟩ hK hN hP hD hS hA [24, 25, 26, 27, 28, 29, 30, 31, 32, 33, 34, 35, 36, 37, 38, 39, 40, 41, 42, 43] rfl (by decide) rfl 44 rfl (w2 := (xcW xa sa ta pa ++ stW cI cJ sa so ++ naW cN xa nad ++ tkW ta r1.2.1 ++ pkW cI pa r1.2.2.1 ++ vdW cI xa vd ++ tgW cI xa r1.2.2.2.1 ++ n3W cI nad r1.2.2.2.2 ++ mW cI cJ cZ ma mo r2.2.1 r2.2.2.1 r2.2.2.2.1 mv r2.2.2.2.2)) rfl 24 rfl rfl rfl hl.1 rfl (Nat.le_of_ble_eq_true rfl) dXL_law_321 ⟨Nat.le_of_ble_eq_true rfl, Nat.le_of_ble_eq_true rfl⟩ (fun H locs hP hD hS => ?_)
  refine W.eq (g2 := F0 m 324 ls [.int r2.1, .int r1.1]) rfl ?_
  have hrel := rel_fetch (tg := tg) (mw := mw) hR (xs (5 * j + 1)) (xs (5 * j + 2))
  rw [← er1, ← er2] at hrel
  have heq : r1.1 = r2.1 := by rw [hrel.1]
  refine lv_icmp_eq (tgt := 671) hx hb dXL_law_324 (by decide) (fun _ => ?_) (fun h => absurd heq h)
  exact kk so r1.2.1 r1.2.2.1 vd r1.2.2.2.1 r1.2.2.2.2 mo r2.2.1 r2.2.2.1 r2.2.2.2.1 mv r2.2.2.2.2 H locs hrel.2 hP hD hS

set_option maxHeartbeats 4000000 in
set_option maxRecDepth 100000 in
theorem lw_c_push {p : Program} {l : Launch} {e : Env} {s : State} {m : MethodId} {below : List Frame} {meth : Method} {c : Code} {b L : Nat} {xs : Nat → Int32} {D : va_G} {cI cJ cZ cN : ClassId} {xa sa ta pa ma : Nat → Nat} {nad : Nat → Nat → Nat} {Q : State → Prop} {ls : Array Slot} (hx : p.tables.exec = Jvm.exec) (hb : c.code = code) (hml : c.maxLocals = 4) (hown : s.vm.findClass RL = some m.cls) (hts : ∀ w ∈ (Cond.initialized RX4 :: yW), w.before #[Value.ref b] s = true) (hw : ∀ w ∈ yW, w.before #[Value.ref b] s = true) (hX : va_X b L xs s s.heap) (hbl : b < s.heap.size) (hK : va_K D vwCl (yT cI cJ cZ cN) s) (hN : yy_N s) {j : Nat} (hj : 5 * j + 5 ≤ L) (hL : L ≤ 2560) (so : SS) (tk : TS) (pk : PS) (vd : Nat → Int32) (tg : Nat → Int32) (ns : Nat → NS) (mo : MO) (mn : MN) (mw : MW) (mt : MT) (mv : Nat → Int32) (mp : MP) (H : Heap) (locs : List Loc) (hR : REL so tk pk vd ns mo mn mt mv mp) (hl : lv_has ls 4 [(0, .ref b), (1, .ref (xa 0)), (2, .ref (ma 0)), (3, .int (nI (5 * j)))]) (hP : va_P D vwCl (xcW xa sa ta pa ++ stW cI cJ sa so ++ naW cN xa nad ++ tkW ta tk ++ pkW cI pa pk ++ vdW cI xa vd ++ tgW cI xa tg ++ n3W cI nad ns ++ mW cI cJ cZ ma mo mn mw mt mv mp) H) (hD : va_D (fun q => s.heap.size ≤ q) (xcW xa sa ta pa ++ stW cI cJ sa so ++ naW cN xa nad ++ tkW ta tk ++ pkW cI pa pk ++ vdW cI xa vd ++ tgW cI xa tg ++ n3W cI nad ns ++ mW cI cJ cZ ma mo mn mw mt mv mp)) (hS : va_S (fun q => s.heap.size ≤ q) s.heap H locs)
    (kk : ∀ (so : SS) (tk : TS) (pk : PS) (vd : Nat → Int32) (tg : Nat → Int32) (ns : Nat → NS) (mo : MO) (mn : MN) (mw : MW) (mt : MT) (mv : Nat → Int32) (mp : MP) (H : Heap) (locs : List Loc), REL so tk pk vd ns mo mn mt mv mp → va_P D vwCl (xcW xa sa ta pa ++ stW cI cJ sa so ++ naW cN xa nad ++ tkW ta tk ++ pkW cI pa pk ++ vdW cI xa vd ++ tgW cI xa tg ++ n3W cI nad ns ++ mW cI cJ cZ ma mo mn mw mt mv mp) H → va_D (fun q => s.heap.size ≤ q) (xcW xa sa ta pa ++ stW cI cJ sa so ++ naW cN xa nad ++ tkW ta tk ++ pkW cI pa pk ++ vdW cI xa vd ++ tgW cI xa tg ++ n3W cI nad ns ++ mW cI cJ cZ ma mo mn mw mt mv mp) → va_S (fun q => s.heap.size ≤ q) s.heap H locs → W p l e room_1 s m #[Value.ref b] below meth c H locs 44 1165 Q (F0 m 671 ls [])) : W p l e room_1 s m #[Value.ref b] below meth c H locs 44 1165 Q (F0 m 329 ls []) := by
  have hA : ∀ q : Nat, s.heap.size ≤ q → (fun q => s.heap.size ≤ q) q := fun q h => h
  have hbA : ¬ (fun q => s.heap.size ≤ q) b := fun h => absurd (show s.heap.size ≤ b from h) (by omega)
  have hs : so.2.2.2.2.2 ≤ 60 := by rw [hR.1.1]; exact hR.1.2.1
  have hp : pk.2.2.2.2.1 ≤ 60 := by rw [hR.2.2.2.1.2.2.2.1]; exact hR.2.2.2.1.2.2.2.2.1
  have ho : mo.1 ≤ 60 := hR.1.2.1
  have hq : mp.1 ≤ 60 := hR.2.2.2.1.2.2.2.2.1
  refine lv_aload_n hx hb dXL_law_329 rfl (lv_at hl 1 rfl) ?_
  refine lv_aload_n hx hb dXL_law_330 rfl (lv_at hl 0 rfl) ?_
  refine lv_iload_n hx hb dXL_law_331 rfl (lv_at hl 3 rfl) ?_
  refine lv_iconst (v := nI 1) hx hb dXL_law_332 (by decide) ?_
  refine yr_iaddN hx hb dXL_law_333 ?_
  refine yr_sld (n := 5 * j + 1) hx hb hX hbl hbA hS rfl (by omega) (by omega) dXL_law_334 ?_
  refine lv_aload_n hx hb dXL_law_335 rfl (lv_at hl 0 rfl) ?_
  refine lv_iload_n hx hb dXL_law_336 rfl (lv_at hl 3 rfl) ?_
  refine lv_iconst (v := nI 2) hx hb dXL_law_337 (by decide) ?_
  refine yr_iaddN hx hb dXL_law_338 ?_
  refine yr_sld (n := 5 * j + 2) hx hb hX hbl hbA hS rfl (by omega) (by omega) dXL_law_339 ?_
  obtain ⟨r1, er1⟩ : ∃ r, r = x_push (xs (5 * j + 1)) (xs (5 * j + 2)) so pk vd tg ns := ⟨_, rfl⟩
  refine yz_callV (As := [.int (xs (5 * j + 1)), .int (xs (5 * j + 2))]) (rest := []) ⟨hx, hb, hml, hown, hts⟩ (c_x_push l D cI cJ cZ cN xa sa ta pa nad (xs (5 * j + 1)) (xs (5 * j + 2)) so tk pk vd tg ns (by (try dsimp only) <;> omega) (by (try dsimp only) <;> omega) r1 er1) ⟨callB_of 2 hts (yy_good wq_367) rfl rfl rfl (hw _ wq_34) (hw _ wq_364) (by decide +kernel) ⟨Nat.le_of_ble_eq_true rfl, Nat.le_of_ble_eq_true rfl⟩, hw _ wq_365, hw _ wq_366⟩ hK hN hP hD hS hA [0, 1, 2, 3, 4, 5, 6, 7, 8, 9, 10, 11, 12, 13, 14, 15, 16, 17, 18, 19, 20, 21, 22, 23] rfl (by decide) rfl 24 rfl (w2 := (xcW xa sa ta pa ++ stW cI cJ sa so ++ naW cN xa nad ++ tkW ta tk ++ pkW cI pa r1.2.1 ++ vdW cI xa r1.2.2.1 ++ tgW cI xa r1.2.2.2.1 ++ n3W cI nad r1.2.2.2.2 ++ mW cI cJ cZ ma mo mn mw mt mv mp)) rfl 0 rfl rfl rfl hl.1 rfl (Nat.le_of_ble_eq_true rfl) dXL_law_340 ⟨Nat.le_of_ble_eq_true rfl, Nat.le_of_ble_eq_true rfl⟩ (fun H locs hP hD hS => ?_)
  refine W.eq (g2 := F0 m 343 ls [.int r1.1]) rfl ?_
  refine lv_aload_n hx hb dXL_law_343 rfl (lv_at hl 2 rfl) ?_
  refine lv_aload_n hx hb dXL_law_344 rfl (lv_at hl 0 rfl) ?_
  refine lv_iload_n hx hb dXL_law_345 rfl (lv_at hl 3 rfl) ?_
  refine lv_iconst (v := nI 1) hx hb dXL_law_346 (by decide) ?_
  refine yr_iaddN hx hb dXL_law_347 ?_
  refine yr_sld (n := 5 * j + 1) hx hb hX hbl hbA hS rfl (by omega) (by omega) dXL_law_348 ?_
  refine lv_aload_n hx hb dXL_law_349 rfl (lv_at hl 0 rfl) ?_
  refine lv_iload_n hx hb dXL_law_350 rfl (lv_at hl 3 rfl) ?_
  refine lv_iconst (v := nI 2) hx hb dXL_law_351 (by decide) ?_
  refine yr_iaddN hx hb dXL_law_352 ?_
  refine yr_sld (n := 5 * j + 2) hx hb hX hbl hbA hS rfl (by omega) (by omega) dXL_law_353 ?_
  obtain ⟨r2, er2⟩ : ∃ r, r = md_push (xs (5 * j + 1)) (xs (5 * j + 2)) mo mn mw mv mp := ⟨_, rfl⟩
  refine yz_callV (As := [.int (xs (5 * j + 1)), .int (xs (5 * j + 2))]) (rest := [.int r1.1]) ⟨hx, hb, hml, hown, hts⟩ (c_md_push l D cI cJ cZ cN ma (xs (5 * j + 1)) (xs (5 * j + 2)) mo mn mw mt mv mp (by (try dsimp only) <;> omega) (by (try dsimp only) <;> omega) r2 er2) ⟨callB_of 2 hts (yy_good wq_652) rfl rfl rfl (hw _ wq_39) (hw _ wq_649) (by decide +kernel) ⟨Nat.le_of_ble_eq_true rfl, Nat.le_of_ble_eq_true rfl⟩, hw _ wq_650, hw _ wq_651⟩ hK hN hP hD hS hA [24, 25, 26, 27, 28, 29, 30, 31, 32, 33, 34, 35, 36, 37, 38, 39, 40, 41, 42, 43] rfl (by decide) rfl 44 rfl (w2 := (xcW xa sa ta pa ++ stW cI cJ sa so ++ naW cN xa nad ++ tkW ta tk ++ pkW cI pa r1.2.1 ++ vdW cI xa r1.2.2.1 ++ tgW cI xa r1.2.2.2.1 ++ n3W cI nad r1.2.2.2.2 ++ mW cI cJ cZ ma mo r2.2.1 r2.2.2.1 mt r2.2.2.2.1 r2.2.2.2.2)) rfl 24 rfl rfl rfl hl.1 rfl (Nat.le_of_ble_eq_true rfl) dXL_law_354 ⟨Nat.le_of_ble_eq_true rfl, Nat.le_of_ble_eq_true rfl⟩ (fun H locs hP hD hS => ?_)
  refine W.eq (g2 := F0 m 357 ls [.int r2.1, .int r1.1]) rfl ?_
  have hrel := rel_push (tg := tg) (mw := mw) hR (xs (5 * j + 1)) (xs (5 * j + 2))
  rw [← er1, ← er2] at hrel
  have heq : r1.1 = r2.1 := by rw [hrel.1]
  refine lv_icmp_eq (tgt := 671) hx hb dXL_law_357 (by decide) (fun _ => ?_) (fun h => absurd heq h)
  exact kk so tk r1.2.1 r1.2.2.1 r1.2.2.2.1 r1.2.2.2.2 mo r2.2.1 r2.2.2.1 mt r2.2.2.2.1 r2.2.2.2.2 H locs hrel.2 hP hD hS
