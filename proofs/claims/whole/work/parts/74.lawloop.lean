/-! THE CLAIM OUT OF ONE WALK OF THE LAW'S BODY. Your part is whole_start (and what it stands on); all else here is the same for every law, but numbers. -/
def R_law : String := "PackExchangeLaw"
def lw_P (b : Addr) (xs : List Int32) (args : Array Value) (s : State) : Prop := args = #[.ref b] ∧ s.IntsAt b xs ∧ xs.length ≤ 2560 ∧ (Jvm.Cond.and given_1 narrow_1).before args s = true
def lw_Q (_ : Array Value) (s : State) (o : Outcome) (t : State) : Prop := o = .returned (some (.int 1)) ∧ Framed s o t [] 600000 7302250
def lw_Z (below : List Frame) (a : Array Value) (s : State) : State → Prop := fun t => ∃ o, t.status = .running ∧ Ended t below o ∧ lw_Q a s o t
/-- the law's own end, with 1 on the stack, nothing written that was there before, its room as the claim has it -/
theorem lw_ret {p : Program} {l : Launch} {e : Env} {s : State} {m : MethodId} {below : List Frame} {meth : Method} {c : Code} {b : Nat} (hx : p.tables.exec = Jvm.exec) (hb : c.code = code) (hr : meth.sig.returnType = ret) (hlocks : meth.locks = false) {pc : Nat} {H : Heap} {ls : Array Slot} (hdg : decode code pc = .ok (.ireturn, 1)) : W p l e room_1 s m #[Value.ref b] below meth c H [] 600000 7302250 (lw_Z below #[Value.ref b] s) (F0 m pc ls [.int 1]) := by
  intro T hT X
  obtain ⟨fs, hret, hrun, hended, hW, hframe⟩ := X.leave (v := some (.int 1)) (hlocks := hlocks) (fun h => by rw [hr] at h; cases h)
  have hmeth' : T.vm.method? m = some meth := X.method'
  refine ⟨T.setFrames fs, ?_, .returned (some (.int 1)), hrun, hended, rfl, ⟨_, rfl⟩, hW, hframe⟩
  jvm_step X.here [X.here.top, hx, hb, hdg, hmeth', hr, ret, narrow_b1]
  (try refine ⟨rfl, ?_⟩); (try refine ⟨rfl, ?_⟩)
  first | (intro acts; rw [hret _ acts rfl rfl rfl]) | rw [hret _ _ rfl rfl rfl]
  exact Steps.refl _
/-- what holds at the law's entry: the machine, the code, the tables' words (any of lw_tbl by 'hts w (by decide +kernel)'), the script of L ints xs at the cell b, what the Statement gives of the start (any of its parts by flat_of_before) -/
def lw_At (p : Program) (s : State) (m : MethodId) (meth : Method) (c : Code) (b L : Nat) (xs : Nat → Int32) : Prop :=
  p.tables.exec = Jvm.exec ∧ c.code = code ∧ meth.sig.returnType = ret ∧ c.maxLocals = 4 ∧ s.vm.findClass R_law = some m.cls ∧ (∀ w ∈ lw_tbl, w.before #[Value.ref b] s = true) ∧ va_X b L xs s s.heap ∧ b < s.heap.size ∧ meth.locks = false ∧ (Jvm.Cond.and given_1 narrow_1).before #[Value.ref b] s = true
theorem lw_inc (j : Nat) : nI (5 * j) + Int32.ofInt 5 = nI (5 * (j + 1)) := by
  rw [show Int32.ofInt 5 = nI 5 from by decide +kernel, nI_add, show 5 * j + 5 = 5 * (j + 1) by omega]
set_option maxHeartbeats 4000000 in
set_option maxRecDepth 100000 in
theorem lw_loop {p : Program} {l : Launch} {e : Env} {s : State} {m : MethodId} {below : List Frame} {meth : Method} {c : Code} {b L : Nat} {xs : Nat → Int32} {D : va_G} {cI cJ cZ cN : ClassId} {xa sa ta pa ma : Nat → Nat} {nad : Nat → Nat → Nat}  (hx : p.tables.exec = Jvm.exec) (hb : c.code = code) (hml : c.maxLocals = 4) (hown : s.vm.findClass RL = some m.cls) (hts : ∀ w ∈ (Cond.initialized RX4 :: yW), w.before #[Value.ref b] s = true) (hw : ∀ w ∈ yW, w.before #[Value.ref b] s = true) (hX : va_X b L xs s s.heap) (hbl : b < s.heap.size) (hK : va_K D vwCl (yT cI cJ cZ cN) s) (hN : yy_N s) (hr : meth.sig.returnType = ret) (hlocks : meth.locks = false) (hL : L ≤ 2560) : ∀ (f j : Nat), L ≤ 5 * j + 5 * f + 4 → 5 * j ≤ L → ∀ (so : SS) (tk : TS) (pk : PS) (vd : Nat → Int32) (tg : Nat → Int32) (ns : Nat → NS) (mo : MO) (mn : MN) (mw : MW) (mt : MT) (mv : Nat → Int32) (mp : MP) (ls : Array Slot) (H : Heap) (locs : List Loc), REL so tk pk vd ns mo mn mt mv mp → lv_has ls 4 [(0, .ref b), (1, .ref (xa 0)), (2, .ref (ma 0)), (3, .int (nI (5 * j)))] → va_P D vwCl (xcW xa sa ta pa ++ stW cI cJ sa so ++ naW cN xa nad ++ tkW ta tk ++ pkW cI pa pk ++ vdW cI xa vd ++ tgW cI xa tg ++ n3W cI nad ns ++ mW cI cJ cZ ma mo mn mw mt mv mp) H → va_D (fun q => s.heap.size ≤ q) (xcW xa sa ta pa ++ stW cI cJ sa so ++ naW cN xa nad ++ tkW ta tk ++ pkW cI pa pk ++ vdW cI xa vd ++ tgW cI xa tg ++ n3W cI nad ns ++ mW cI cJ cZ ma mo mn mw mt mv mp) → va_S (fun q => s.heap.size ≤ q) s.heap H locs → W p l e room_1 s m #[Value.ref b] below meth c H locs 44 1165 (lw_Z below #[Value.ref b] s) (F0 m 18 ls []) := by
  have hbA : ¬ (fun q => s.heap.size ≤ q) b := fun h => absurd (show s.heap.size ≤ b from h) (by omega)
  have fin : ∀ (ls : Array Slot) (H : Heap) (locs : List Loc), va_S (fun q => s.heap.size ≤ q) s.heap H locs → W p l e room_1 s m #[Value.ref b] below meth c H locs 44 1165 (lw_Z below #[Value.ref b] s) (F0 m 677 ls []) := by
    intro ls H locs hS
    refine lv_iconst (v := 1) hx hb dXL_law_677 (by decide) ?_
    refine va_forget (fun q hq => hS.2.2 q hq) ?_
    refine W.widen (k := 600000) (n := 7302250) (Nat.le_of_ble_eq_true rfl) (Nat.le_of_ble_eq_true rfl) ?_
    exact lw_ret hx hb hr hlocks dXL_law_678
  intro f
  induction f with
  | zero =>
    intro j h1 h2 so tk pk vd tg ns mo mn mw mt mv mp ls H locs hR hl hP hD hS
    refine lv_iload_n hx hb dXL_law_18 rfl (lv_at hl 3 rfl) ?_
    refine lv_aload_n hx hb dXL_law_19 rfl (lv_at hl 0 rfl) ?_
    refine va_slen hx hb hX hbl hbA hS dXL_law_20 ?_
    refine lv_iconst (v := 5) hx hb dXL_law_21 (by decide) ?_
    refine lv_isub hx hb dXL_law_22 ?_
    refine lv_icmp_gt (tgt := 677) hx hb dXL_law_23 (by decide) (fun _ => fin ls H locs hS) (fun h => absurd ((lw_cmp hL (by omega)).mpr (by omega)) h)
  | succ f ih =>
    intro j h1 h2 so tk pk vd tg ns mo mn mw mt mv mp ls H locs hR hl hP hD hS
    refine lv_iload_n hx hb dXL_law_18 rfl (lv_at hl 3 rfl) ?_
    refine lv_aload_n hx hb dXL_law_19 rfl (lv_at hl 0 rfl) ?_
    refine va_slen hx hb hX hbl hbA hS dXL_law_20 ?_
    refine lv_iconst (v := 5) hx hb dXL_law_21 (by decide) ?_
    refine lv_isub hx hb dXL_law_22 ?_
    refine lv_icmp_gt (tgt := 677) hx hb dXL_law_23 (by decide) (fun _ => fin ls H locs hS) (fun h => ?_)
    have hj : 5 * j + 5 ≤ L := Nat.not_lt.mp (fun hh => h ((lw_cmp hL (by omega)).mpr hh))
    refine lv_aload_n hx hb dXL_law_26 rfl (lv_at hl 0 rfl) ?_
    refine lv_iload_n hx hb dXL_law_27 rfl (lv_at hl 3 rfl) ?_
    refine yr_sld (n := 5 * j) hx hb hX hbl hbA hS rfl (by omega) (by omega) dXL_law_28 ?_
    refine lv_bipush (v := 31) hx hb dXL_law_29 (by decide) ?_
    refine lv_iand hx hb dXL_law_31 ?_
    have kk : ∀ (so : SS) (tk : TS) (pk : PS) (vd : Nat → Int32) (tg : Nat → Int32) (ns : Nat → NS) (mo : MO) (mn : MN) (mw : MW) (mt : MT) (mv : Nat → Int32) (mp : MP) (H : Heap) (locs : List Loc), REL so tk pk vd ns mo mn mt mv mp → va_P D vwCl (xcW xa sa ta pa ++ stW cI cJ sa so ++ naW cN xa nad ++ tkW ta tk ++ pkW cI pa pk ++ vdW cI xa vd ++ tgW cI xa tg ++ n3W cI nad ns ++ mW cI cJ cZ ma mo mn mw mt mv mp) H → va_D (fun q => s.heap.size ≤ q) (xcW xa sa ta pa ++ stW cI cJ sa so ++ naW cN xa nad ++ tkW ta tk ++ pkW cI pa pk ++ vdW cI xa vd ++ tgW cI xa tg ++ n3W cI nad ns ++ mW cI cJ cZ ma mo mn mw mt mv mp) → va_S (fun q => s.heap.size ≤ q) s.heap H locs → W p l e room_1 s m #[Value.ref b] below meth c H locs 44 1165 (lw_Z below #[Value.ref b] s) (F0 m 671 ls []) := by
      intro so tk pk vd tg ns mo mn mw mt mv mp H locs hR hP hD hS
      refine lv_iinc (k := 3) (v := nI (5 * (j + 1))) (lv' := [(3, .int (nI (5 * (j + 1)))), (0, .ref b), (1, .ref (xa 0)), (2, .ref (ma 0))]) hx hb dXL_law_671 hl rfl (lw_inc j) (by decide) rfl (fun ls hl => ?_)
      refine lv_goto (tgt := 18) hx hb dXL_law_674 (by decide) ?_
      exact ih (j + 1) (by omega) (by omega) so tk pk vd tg ns mo mn mw mt mv mp ls H locs hR (lv_sub hl [1, 2, 3, 0] rfl) hP hD hS
    generalize xs (5 * j) &&& 31 = x
    by_cases h0 : x = 0
    · refine lv_tableIn (off := 92) (tgt := 124) hx hb dXL_law_32 (by rw [h0]; decide) (by rw [h0]; decide) (by rw [h0]; rfl) (by decide) ?_
      exact lw_c_blob hx hb hml hown hts hw hX hbl hK hN hj hL so tk pk vd tg ns mo mn mw mt mv mp H locs hR hl hP hD hS kk
    by_cases h1 : x = 1
    · refine lv_tableIn (off := 125) (tgt := 157) hx hb dXL_law_32 (by rw [h1]; decide) (by rw [h1]; decide) (by rw [h1]; rfl) (by decide) ?_
      exact lw_c_tree hx hb hml hown hts hw hX hbl hK hN hj hL so tk pk vd tg ns mo mn mw mt mv mp H locs hR hl hP hD hS kk
    by_cases h2 : x = 2
    · refine lv_tableIn (off := 168) (tgt := 200) hx hb dXL_law_32 (by rw [h2]; decide) (by rw [h2]; decide) (by rw [h2]; rfl) (by decide) ?_
      exact lw_c_commit hx hb hml hown hts hw hX hbl hK hN hj hL so tk pk vd tg ns mo mn mw mt mv mp H locs hR hl hP hD hS kk
    by_cases h3 : x = 3
    · refine lv_tableIn (off := 221) (tgt := 253) hx hb dXL_law_32 (by rw [h3]; decide) (by rw [h3]; decide) (by rw [h3]; rfl) (by decide) ?_
      exact lw_c_point hx hb hml hown hts hw hX hbl hK hN hj hL so tk pk vd tg ns mo mn mw mt mv mp H locs hR hl hP hD hS kk
    by_cases h4 : x = 4
    · refine lv_tableIn (off := 264) (tgt := 296) hx hb dXL_law_32 (by rw [h4]; decide) (by rw [h4]; decide) (by rw [h4]; rfl) (by decide) ?_
      exact lw_c_fetch hx hb hml hown hts hw hX hbl hK hN hj hL so tk pk vd tg ns mo mn mw mt mv mp H locs hR hl hP hD hS kk
    by_cases h5 : x = 5
    · refine lv_tableIn (off := 297) (tgt := 329) hx hb dXL_law_32 (by rw [h5]; decide) (by rw [h5]; decide) (by rw [h5]; rfl) (by decide) ?_
      exact lw_c_push hx hb hml hown hts hw hX hbl hK hN hj hL so tk pk vd tg ns mo mn mw mt mv mp H locs hR hl hP hD hS kk
    by_cases h6 : x = 6
    · refine lv_tableIn (off := 330) (tgt := 362) hx hb dXL_law_32 (by rw [h6]; decide) (by rw [h6]; decide) (by rw [h6]; rfl) (by decide) ?_
      exact lw_c_arm hx hb hml hown hts hw hX hbl hK hN hj hL so tk pk vd tg ns mo mn mw mt mv mp H locs hR hl hP hD hS kk
    by_cases h7 : x = 7
    · refine lv_tableIn (off := 363) (tgt := 395) hx hb dXL_law_32 (by rw [h7]; decide) (by rw [h7]; decide) (by rw [h7]; rfl) (by decide) ?_
      exact lw_c_recover hx hb hml hown hts hw hX hbl hK hN hj hL so tk pk vd tg ns mo mn mw mt mv mp H locs hR hl hP hD hS kk
    by_cases h8 : x = 8
    · refine lv_tableIn (off := 386) (tgt := 418) hx hb dXL_law_32 (by rw [h8]; decide) (by rw [h8]; decide) (by rw [h8]; rfl) (by decide) ?_
      exact lw_c_collect hx hb hml hown hts hw hX hbl hK hN hj hL so tk pk vd tg ns mo mn mw mt mv mp H locs hR hl hP hD hS kk
    by_cases h9 : x = 9
    · refine lv_tableIn (off := 409) (tgt := 441) hx hb dXL_law_32 (by rw [h9]; decide) (by rw [h9]; decide) (by rw [h9]; rfl) (by decide) ?_
      exact lw_c_up hx hb hml hown hts hw hX hbl hK hN hj hL so tk pk vd tg ns mo mn mw mt mv mp H locs hR hl hP hD hS kk
    by_cases h10 : x = 10
    · refine lv_tableIn (off := 432) (tgt := 464) hx hb dXL_law_32 (by rw [h10]; decide) (by rw [h10]; decide) (by rw [h10]; rfl) (by decide) ?_
      exact lw_c_reference hx hb hml hown hts hw hX hbl hK hN hj hL so tk pk vd tg ns mo mn mw mt mv mp H locs hR hl hP hD hS kk
    by_cases h11 : x = 11
    · refine lv_tableIn (off := 465) (tgt := 497) hx hb dXL_law_32 (by rw [h11]; decide) (by rw [h11]; decide) (by rw [h11]; rfl) (by decide) ?_
      exact lw_c_holds hx hb hml hown hts hw hX hbl hK hN hj hL so tk pk vd tg ns mo mn mw mt mv mp H locs hR hl hP hD hS kk
    by_cases h12 : x = 12
    · refine lv_tableIn (off := 498) (tgt := 530) hx hb dXL_law_32 (by rw [h12]; decide) (by rw [h12]; decide) (by rw [h12]; rfl) (by decide) ?_
      exact lw_c_count hx hb hml hown hts hw hX hbl hK hN hj hL so tk pk vd tg ns mo mn mw mt mv mp H locs hR hl hP hD hS kk
    by_cases h13 : x = 13
    · refine lv_tableIn (off := 521) (tgt := 553) hx hb dXL_law_32 (by rw [h13]; decide) (by rw [h13]; decide) (by rw [h13]; rfl) (by decide) ?_
      exact lw_c_talk hx hb hml hown hts hw hX hbl hK hN hj hL so tk pk vd tg ns mo mn mw mt mv mp H locs hR hl hP hD hS kk
    by_cases h14 : x = 14
    · refine lv_tableIn (off := 544) (tgt := 576) hx hb dXL_law_32 (by rw [h14]; decide) (by rw [h14]; decide) (by rw [h14]; rfl) (by decide) ?_
      exact lw_c_packed hx hb hml hown hts hw hX hbl hK hN hj hL so tk pk vd tg ns mo mn mw mt mv mp H locs hR hl hP hD hS kk
    by_cases h15 : x = 15
    · refine lv_tableIn (off := 557) (tgt := 589) hx hb dXL_law_32 (by rw [h15]; decide) (by rw [h15]; decide) (by rw [h15]; rfl) (by decide) ?_
      exact lw_c_packAt hx hb hml hown hts hw hX hbl hK hN hj hL so tk pk vd tg ns mo mn mw mt mv mp H locs hR hl hP hD hS kk
    by_cases h16 : x = 16
    · refine lv_tableIn (off := 580) (tgt := 612) hx hb dXL_law_32 (by rw [h16]; decide) (by rw [h16]; decide) (by rw [h16]; rfl) (by decide) ?_
      exact lw_c_base hx hb hml hown hts hw hX hbl hK hN hj hL so tk pk vd tg ns mo mn mw mt mv mp H locs hR hl hP hD hS kk
    by_cases h17 : x = 17
    · refine lv_tableIn (off := 603) (tgt := 635) hx hb dXL_law_32 (by rw [h17]; decide) (by rw [h17]; decide) (by rw [h17]; rfl) (by decide) ?_
      exact lw_c_weight hx hb hml hown hts hw hX hbl hK hN hj hL so tk pk vd tg ns mo mn mw mt mv mp H locs hR hl hP hD hS kk
    by_cases h18 : x = 18
    · refine lv_tableIn (off := 616) (tgt := 648) hx hb dXL_law_32 (by rw [h18]; decide) (by rw [h18]; decide) (by rw [h18]; rfl) (by decide) ?_
      exact lw_c_verdict hx hb hml hown hts hw hX hbl hK hN hj hL so tk pk vd tg ns mo mn mw mt mv mp H locs hR hl hP hD hS kk
    refine lv_tableOut (tgt := 671) hx hb dXL_law_32 (yy_sw19 h0 h1 h2 h3 h4 h5 h6 h7 h8 h9 h10 h11 h12 h13 h14 h15 h16 h17 h18) (by decide) ?_
    exact kk so tk pk vd tg ns mo mn mw mt mv mp H locs hR hP hD hS
