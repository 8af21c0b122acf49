theorem yr_sld {p : Program} {l : Launch} {e : Env} {R : Room} {s : State} {m : MethodId} {args : Array Value} {below : List Frame} {meth : Method} {c : Code} {H H0 : Heap} {locs : List Loc} {cells slots : Nat} {Q : State → Prop} {cc : ByteArray} {pc : Nat} {ls : Array Slot} {rest : List Value} {A : Nat → Prop} (hexec : p.tables.exec = Jvm.exec) (hb : c.code = cc) {b L : Nat} {xs : Nat → Int32} (hX : va_X b L xs s H0) (hbl : b < H0.size) (hbA : ¬ A b) (hS : va_S A H0 H locs) {i : Int32} {n : Nat} (hi : i = nI n) (hn : n < L) (hL : L < 2 ^ 31) (hdg : decode cc pc = .ok (.iaload, 1))
    (kk : W p l e R s m args below meth c H locs cells slots Q (F0 m (pc + 1) ls (.int (xs n) :: rest))) : W p l e R s m args below meth c H locs cells slots Q (F0 m pc ls (.int i :: .ref b :: rest)) := by
  subst hi
  refine va_sld hexec hb hX hbl hbA hS (vp_in_nI hn hL) hdg ?_
  rw [nI_clamp (by omega)]
  exact kk
theorem lw_K {s : State} {args : Array Value} (hts : ∀ w ∈ lw_tbl, w.before args s = true) : ∃ (D : va_G) (cI cJ cZ cN : ClassId), va_K D vwCl (yT cI cJ cZ cN) s ∧ yy_N s := by
  have hw : ∀ w ∈ yW, w.before args s = true := fun w h => hts w (List.mem_filter.mp h).1
  obtain ⟨c0, i0, k0⟩ := u_known (n := 7) hw inX0 (hw _ wq_78)
  obtain ⟨c1, i1, k1⟩ := u_known (n := 6) hw inX1 (hw _ wq_122)
  obtain ⟨c2, i2, k2⟩ := u_known (n := 6) hw inX2 (hw _ wq_50)
  obtain ⟨c3, i3, k3⟩ := u_known (n := 3) hw inX3 (hw _ wq_106)
  obtain ⟨c4, i4, k4⟩ := u_known (n := 6) hw inX4 (hw _ wq_42)
  obtain ⟨c5, i5, k5⟩ := u_known (n := 25) hw inX5 (hw _ wq_480)
  obtain ⟨cI, kI, qI, a1, a2, a3⟩ := Cond.arrayClass_spec (hw _ wq_74)
  obtain ⟨cJ, kJ, qJ, b1, b2, b3⟩ := Cond.arrayClass_spec (hw _ wq_75)
  obtain ⟨cZ, kZ, qZ, d1, d2, d3⟩ := Cond.arrayClass_spec (hw _ wq_561)
  have hAO : (Cond.arrayOver (.object "PackExchange$Node")).before args s = true := hts _ (List.mem_append_right _ (List.mem_of_getElem? (i := 44) rfl))
  obtain ⟨qN, cN, kN, e1, e2, e3, e4, e5⟩ := Cond.arrayOver_spec hAO
  refine ⟨(fun x => match x with | 0 => c0 | 1 => c1 | 2 => c2 | 3 => c3 | 4 => c4 | _ => c5, fun x => match x with | 0 => i0 | 1 => i1 | 2 => i2 | 3 => i3 | 4 => i4 | _ => i5), cI, cJ, cZ, cN, ⟨fun x q hq => ?_, fun x q hq => ?_⟩, ?_⟩
  · have hlt : x < 6 := (List.getElem?_eq_some_iff.mp hq).1
    rcases (show x = 0 ∨ x = 1 ∨ x = 2 ∨ x = 3 ∨ x = 4 ∨ x = 5 by omega) with rfl | rfl | rfl | rfl | rfl | rfl
    · cases hq
      exact k0
    · cases hq
      exact k1
    · cases hq
      exact k2
    · cases hq
      exact k3
    · cases hq
      exact k4
    · cases hq
      exact k5
  · have hlt : x < 4 := (List.getElem?_eq_some_iff.mp hq).1
    rcases (show x = 0 ∨ x = 1 ∨ x = 2 ∨ x = 3 by omega) with rfl | rfl | rfl | rfl
    · cases hq
      exact ⟨fun n z => ⟨fun k h => (by cases h), kI, a2, qI, a3⟩, a1⟩
    · cases hq
      exact ⟨fun n z => ⟨fun k h => (by cases h), kJ, b2, qJ, b3⟩, b1⟩
    · cases hq
      exact ⟨fun n z => ⟨fun k h => (by cases h), kZ, d2, qZ, d3⟩, d1⟩
    · cases hq
      exact ⟨fun n z => ⟨fun k h => (by cases h), kN, e3, qN, e4⟩, kN, qN, e3, e4, e1, e5⟩
  · exact ⟨va_Nw.of rfl (hts _ (List.mem_append_right _ (List.mem_of_getElem? (i := 320) rfl))), va_Nw.of rfl (hts _ (List.mem_append_right _ (List.mem_of_getElem? (i := 253) rfl))), va_Nw.of rfl (hts _ (List.mem_append_right _ (List.mem_of_getElem? (i := 261) rfl))), va_Nw.of rfl (hts _ (List.mem_append_right _ (List.mem_of_getElem? (i := 277) rfl))), va_Nw.of rfl (hts _ (List.mem_append_right _ (List.mem_of_getElem? (i := 294) rfl))), va_Nw.of rfl (hts _ (List.mem_append_right _ (List.mem_of_getElem? (i := 18) rfl))), va_Nw.of rfl (hts _ (List.mem_append_right _ (List.mem_of_getElem? (i := 74) rfl))), va_Nw.of rfl (hts _ (List.mem_append_right _ (List.mem_of_getElem? (i := 90) rfl))), va_AO.of hAO⟩
theorem rel_init : REL st_init tk_init pk_init (fun _ => 0) (fun _ => nd_init) md_init_o md_init_n md_init_t md_init_v md_init_p := by
  refine ⟨⟨rfl, Nat.zero_le _, rfl, rfl, rfl, rfl, fun x hx => absurd hx (Nat.not_lt_zero _), fun x hx => absurd hx (Nat.not_lt_zero _)⟩, fun k hk => ⟨⟨?_, ⟨rfl, 0, by omega, rfl, show nd_init.2.2.2.2.2.2 = nI 0 - 1 by decide +kernel⟩, ⟨0, by omega, rfl, rfl, ylP_nil 8 ?_⟩, rfl, rfl, yin_0⟩, fun _ => ⟨rfl, rfl⟩⟩, rfl, ⟨rfl, rfl, rfl, rfl, Nat.zero_le _, rfl⟩, rfl⟩
  · have h : ∀ r, r < 8 → nd_init.1 r = nI 0 - 1 := by decide +kernel
    exact fun r hr => ⟨0, Nat.le_refl _, rfl, h r hr⟩
  · have h : ∀ r, r < 8 → nd_init.2.1 r = -2 := by decide +kernel
    exact h
theorem lw_cmp {L j : Nat} (hL : L ≤ 2560) (hj : 5 * j ≤ 3000) : nI L - 5 < nI (5 * j) ↔ L < 5 * j + 5 := by
  by_cases h5 : L < 5
  · have h1 : ∀ q, q < 5 → (nI q - 5).toInt < 0 := by decide +kernel
    rw [yy_lti, nI_toInt (by omega)]
    have := h1 L h5
    omega
  · obtain ⟨q, rfl⟩ : ∃ q, L = q + 5 := ⟨L - 5, by omega⟩
    have e : nI (q + 5) - 5 = nI q := by
      show nI (q + 5) - nI 5 = nI q
      rw [← nI_add, Int32.add_sub_cancel]
    rw [e, nI_ltI (by omega) (by omega)]
    omega
theorem yy_sw19 {x : Int32} (h0 : ¬ x = 0) (h1 : ¬ x = 1) (h2 : ¬ x = 2) (h3 : ¬ x = 3) (h4 : ¬ x = 4) (h5 : ¬ x = 5) (h6 : ¬ x = 6) (h7 : ¬ x = 7) (h8 : ¬ x = 8) (h9 : ¬ x = 9) (h10 : ¬ x = 10) (h11 : ¬ x = 11) (h12 : ¬ x = 12) (h13 : ¬ x = 13) (h14 : ¬ x = 14) (h15 : ¬ x = 15) (h16 : ¬ x = 16) (h17 : ¬ x = 17) (h18 : ¬ x = 18) : x.toInt < 0 ∨ 18 < x.toInt := by
  have a0 := lv_neT h0 (a := 0) rfl
  have a1 := lv_neT h1 (a := 1) rfl
  have a2 := lv_neT h2 (a := 2) rfl
  have a3 := lv_neT h3 (a := 3) rfl
  have a4 := lv_neT h4 (a := 4) rfl
  have a5 := lv_neT h5 (a := 5) rfl
  have a6 := lv_neT h6 (a := 6) rfl
  have a7 := lv_neT h7 (a := 7) rfl
  have a8 := lv_neT h8 (a := 8) rfl
  have a9 := lv_neT h9 (a := 9) rfl
  have a10 := lv_neT h10 (a := 10) rfl
  have a11 := lv_neT h11 (a := 11) rfl
  have a12 := lv_neT h12 (a := 12) rfl
  have a13 := lv_neT h13 (a := 13) rfl
  have a14 := lv_neT h14 (a := 14) rfl
  have a15 := lv_neT h15 (a := 15) rfl
  have a16 := lv_neT h16 (a := 16) rfl
  have a17 := lv_neT h17 (a := 17) rfl
  have a18 := lv_neT h18 (a := 18) rfl
  omega
