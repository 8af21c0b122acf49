/-! a world behind a call, in one pass -/
def yy_lk : List Nat → va_W → Nat → Option (Nat × va_E)
  | [], _, _ => none
  | _ :: _, [], _ => none
  | i :: is, w :: w1, k => match Nat.beq i k with
    | true => some w
    | false => yy_lk is w1 k
def yy_put (is : List Nat) (w1 : va_W) : Nat → Nat → va_W → va_W
  | 0, _, ws => ws
  | _ + 1, _, [] => []
  | f + 1, k, x :: ws => (match yy_lk is w1 k with | some w => w | none => x) :: yy_put is w1 f (k + 1) ws
theorem yy_lk_some : ∀ (is : List Nat) (w1 : va_W) (k : Nat) (w : Nat × va_E), yy_lk is w1 k = some w → ∃ j : Nat, is[j]? = some k ∧ w1[j]? = some w
  | [], _, k, w, h => by cases h
  | _ :: _, [], k, w, h => by cases h
  | i :: is, v :: w1, k, w, h => by
    rw [yy_lk] at h
    cases hb : Nat.beq i k with
    | true =>
      rw [hb] at h
      have e : i = k := Nat.eq_of_beq_eq_true hb
      have e2 : v = w := Option.some.inj h
      exact ⟨0, by rw [e]; rfl, by rw [e2]; rfl⟩
    | false =>
      rw [hb] at h
      obtain ⟨j, h1, h2⟩ := yy_lk_some is w1 k w h
      exact ⟨j + 1, h1, h2⟩
theorem yy_lk_none : ∀ (is : List Nat) (w1 : va_W) (k : Nat), is.length = w1.length → yy_lk is w1 k = none → k ∉ is
  | [], _, k, _, _ => by simp
  | _ :: _, [], k, hl, _ => by simp at hl
  | i :: is, v :: w1, k, hl, h => by
    rw [yy_lk] at h
    cases hb : Nat.beq i k with
    | true =>
      rw [hb] at h
      cases h
    | false =>
      rw [hb] at h
      have h1 := yy_lk_none is w1 k (by simpa using hl) h
      have h2 : k ≠ i := fun e => by
        subst e
        exact absurd hb (by rw [Nat.beq_refl]; decide)
      intro hm
      rcases List.mem_cons.mp hm with h3 | h3
      · exact h2 h3
      · exact h1 h3
theorem yy_put_get {is : List Nat} {w1 : va_W} {F : Nat} (hl : is.length = w1.length) (hF : ∀ i ∈ is, i < F) : ∀ (f k : Nat) (ws : va_W) (j : Nat) (q : Nat × va_E), k + f = F → (yy_put is w1 f k ws)[j]? = some q → (∃ p : Nat, is[p]? = some (k + j) ∧ w1[p]? = some q) ∨ (k + j ∉ is ∧ ws[j]? = some q)
  | 0, k, ws, j, q, hk, h => Or.inr ⟨fun hm => by
      have := hF _ hm
      omega, h⟩
  | f + 1, k, [], j, q, hk, h => by
    rw [yy_put] at h
    simp at h
  | f + 1, k, x :: ws, 0, q, hk, h => by
    rw [yy_put] at h
    have h : (match yy_lk is w1 k with | some w => w | none => x) = q := by simpa using h
    cases hb : yy_lk is w1 k with
    | some w =>
      rw [hb] at h
      obtain ⟨p, h1, h2⟩ := yy_lk_some is w1 k w hb
      have h : w = q := h
      subst h
      exact Or.inl ⟨p, h1, h2⟩
    | none =>
      rw [hb] at h
      have h : x = q := h
      subst h
      exact Or.inr ⟨yy_lk_none is w1 k hl hb, rfl⟩
  | f + 1, k, x :: ws, j + 1, q, hk, h => by
    rw [yy_put] at h
    have h : (yy_put is w1 f (k + 1) ws)[j]? = some q := by simpa using h
    rcases yy_put_get hl hF f (k + 1) ws j q (by omega) h with ⟨p, h1, h2⟩ | ⟨h1, h2⟩
    · rw [show k + 1 + j = k + (j + 1) by omega] at h1
      exact Or.inl ⟨p, h1, h2⟩
    · rw [show k + 1 + j = k + (j + 1) by omega] at h1
      exact Or.inr ⟨h1, by simpa using h2⟩
theorem yy_put_all {is : List Nat} {w1 : va_W} {F : Nat} (hl : is.length = w1.length) (hF : is.all (fun i => Nat.blt i F) = true) (ws : va_W) : ∀ (k : Nat) (q : Nat × va_E), (yy_put is w1 F 0 ws)[k]? = some q → (∃ j : Nat, is[j]? = some k ∧ w1[j]? = some q) ∨ (k ∉ is ∧ ws[k]? = some q) := by
  intro k q h
  have hF' : ∀ i ∈ is, i < F := fun i hi => by
    have t := List.all_eq_true.mp hF i hi
    exact Nat.le_of_ble_eq_true t
  have t := yy_put_get hl hF' F 0 ws k q (by omega) h
  rw [Nat.zero_add] at t
  exact t
theorem yz_D {A : Nat → Prop} {is : List Nat} {ws w0 w1 wz : va_W} (G : ∀ (k : Nat) (q : Nat × va_E), wz[k]? = some q → (∃ j : Nat, is[j]? = some k ∧ w1[j]? = some q) ∨ (k ∉ is ∧ ws[k]? = some q)) (hD : va_D A ws) (hC : is.map (fun i => ws[i]?) = w0.map some) (ha : w1.map Prod.fst = w0.map Prod.fst) : va_D A wz := by
  have key : ∀ (k : Nat) (q : Nat × va_E), wz[k]? = some q → ∃ q0, ws[k]? = some q0 ∧ q0.1 = q.1 := by
    intro k q hq
    rcases G k q hq with ⟨j, h1, h2⟩ | ⟨h1, h2⟩
    · obtain ⟨q0, h3, h4⟩ := yy_at hC h1
      refine ⟨q0, h4, ?_⟩
      have h5 : (w1.map Prod.fst)[j]? = some q.1 := by rw [List.getElem?_map, h2]; rfl
      rw [ha, List.getElem?_map, h3] at h5
      exact Option.some.inj h5
    · exact ⟨q, h2, rfl⟩
  refine ⟨fun i j x y hi hj hxy => ?_, fun k q hk => ?_⟩
  · obtain ⟨x0, h1, h2⟩ := key i x hi
    obtain ⟨y0, h3, h4⟩ := key j y hj
    exact hD.1 i j x0 y0 h1 h3 (h2.trans (hxy.trans h4.symm))
  · obtain ⟨q0, h1, h2⟩ := key k q hk
    rw [← h2]
    exact hD.2 k q0 h1
theorem yz_P {A : Nat → Prop} {D : va_G} {cl : List vw_C} {is : List Nat} {ws w0 w1 wz : va_W} {H H1 : Heap} (G : ∀ (k : Nat) (q : Nat × va_E), wz[k]? = some q → (∃ j : Nat, is[j]? = some k ∧ w1[j]? = some q) ∨ (k ∉ is ∧ ws[k]? = some q)) (hP : va_P D cl ws H) (hD : va_D A ws) (hC : is.map (fun i => ws[i]?) = w0.map some) (hk : ∀ q : Nat, q < H.size → ¬ va_A w0 H.size q → H1[q]? = H[q]?) (hP1 : va_P D cl w1 H1) : va_P D cl wz H1 := by
  intro k q hq
  rcases G k q hq with ⟨j, h1, h2⟩ | ⟨h1, h2⟩
  · exact hP1 j q h2
  · refine (hP k q h2).kept (hk q.1 (hP k q h2).lt (fun h => ?_))
    rcases h with ⟨j, e, h⟩ | h
    · obtain ⟨i, h3, h4⟩ := yy_of hC h
      have hij := hD.1 k i q (q.1, e) h2 h4 rfl
      subst hij
      exact h1 (List.mem_of_getElem? h3)
    · have := (hP k q h2).lt
      omega
section YC
variable {p : Program} {l : Launch} {e : Env} {R : Room} {s : State} {m : MethodId} {args : Array Value} {below : List Frame} {meth : Method} {c : Code} {H : Heap} {locs : List Loc} {cells slots : Nat} {Q : State → Prop}
variable {cc : ByteArray} {pc : Nat} {ls : Array Slot} {rest st0 : List Value} {D : va_G} {cl : List vw_C} {A : Nat → Prop} {tys : List (ClassId × FieldType)} {H0 : Heap} {w0 w1 w2 wc : va_W} {o : Option Value}
theorem yz_after {av : Array Value} (hr : va_Run p l e R s m args below meth c H locs cells slots 0 0 (F0 m pc ls st0) rest (yy_Q (va_A w0 H.size) D cl tys w1 o av) (va_A w0 H.size)) (hP : va_P D cl wc H) (hD : va_D A wc) (hS : va_S A H0 H locs) (hA : ∀ q : Nat, H0.size ≤ q → A q) (is : List Nat) (hC : is.map (fun i => wc[i]?) = w0.map some) (ha : w1.map Prod.fst = w0.map Prod.fst) (F : Nat) (hZ : is.all (fun i => Nat.blt i F) = true) (h2 : yy_put is w1 F 0 wc = w2)
    (kk : ∀ (H1 : Heap) (locs1 : List Loc), va_P D cl w2 H1 → va_D A w2 → va_S A H0 H1 locs1 → W p l e R s m args below meth c H1 locs1 cells slots Q (F0 m (pc + 3) ls (o.toList ++ rest))) : W p l e R s m args below meth c H locs cells slots Q (F0 m pc ls st0) := by
  subst h2
  intro T hT X
  obtain ⟨v, st₀, t, T', L, h0, X', hL, e1, e2, ⟨⟨hv, hP1, hK1⟩, hz, hk⟩, st⟩ := hr T hT X
  have hvo : v = o := by injection hv
  subst hvo
  rw [h0] at hz hk
  have hF := va_free (wc := w0) hD hS hA is hC
  obtain ⟨t2, a1, b1⟩ := kk T'.heap (locs ++ L) (by rw [e1]; exact yz_P (yy_put_all (yy_len hC ha) hZ wc) hP hD hC hk hP1) (yz_D (yy_put_all (yy_len hC ha) hZ wc) hD hC ha)
    ⟨Nat.le_trans hS.1 (by rw [e1]; exact hz), fun q h1 h2 => by rw [e1, hk q (Nat.lt_of_lt_of_le h1 hS.1) (fun z => h2 (hF q z))]; exact hS.2.1 q h1 h2, fun q hq => by
      rcases List.mem_append.mp hq with h | h
      · exact hS.2.2 q h
      · exact hF _ (hL q h)⟩ T' rfl X'
  exact ⟨t2, st t2 a1, b1⟩
variable {y : MethodName} {bytes : ByteArray} {maxL nL n index : Nat} {ret : Option FieldType} {ws : List Cond} {rm : Room} {Ts : List Cond} {own C host : String} {b : Addr} {As : List Value}
theorem yz_callV (S : CallFix p m c cc nL s args Ts own) (hM : yy_Met l y ws rm D cl tys (.ref b :: As) w0 o w1) (cw : CallW R s args own C index y bytes maxL ret ws rm 0 0 n) (hK : va_K D cl tys s) (hN : yy_N s) (hP : va_P D cl wc H) (hD : va_D A wc) (hS : va_S A H0 H locs) (hA : ∀ q : Nat, H0.size ≤ q → A q) (is : List Nat) (hC : is.map (fun i => wc[i]?) = w0.map some) (hnd : va_nd is = true) (ha : w1.map Prod.fst = w0.map Prod.fst) (F : Nat) (hZ : is.all (fun i => Nat.blt i F) = true) (h2 : yy_put is w1 F 0 wc = w2)
    (q0 : Nat) {ci : Nat} {fs : List Value} {T : u_T} {N : Nat} (he : wc[q0]? = some (b, .inr (ci, fs))) (hc : cl[ci]? = some (C, T, N)) (hn : As.length = n) (hsize : ls.size = nL) (hstack : st0 = As.reverse ++ .ref b :: rest) (hW : (rest.map fun v => v.category).sum ≤ 8) (hdg : decode cc pc = .ok (.invokevirtual index, 3)) (hf : cells ≤ R.cells ∧ slots ≤ R.slots)
    (kk : ∀ (H1 : Heap) (locs1 : List Loc), va_P D cl w2 H1 → va_D A w2 → va_S A H0 H1 locs1 → W p l e R s m args below meth c H1 locs1 cells slots Q (F0 m (pc + 3) ls (o.toList ++ rest))) : W p l e R s m args below meth c H locs cells slots Q (F0 m pc ls st0) :=
  yz_after (va_runV S (hM H.size) cw ⟨yy_blind, va_recv hK hP hc he, yy_pre hK hN hP hD is hC hnd⟩ rfl hn hsize hstack (lv_room hW) hdg hf) hP hD hS hA is hC ha F hZ h2 kk
theorem yz_callVN (S : CallFix p m c cc nL s args Ts own) (hM : yy_Met l y ws rm D cl tys (.ref b :: As) w0 o w1) (cw : va_CN R s args own index y host bytes maxL ret ws rm 0 0 n ∧ (Cond.instanceMethod y).before args s = true ∧ (Cond.selects C y y).before args s = true) (hK : va_K D cl tys s) (hN : yy_N s) (hP : va_P D cl wc H) (hD : va_D A wc) (hS : va_S A H0 H locs) (hA : ∀ q : Nat, H0.size ≤ q → A q) (is : List Nat) (hC : is.map (fun i => wc[i]?) = w0.map some) (hnd : va_nd is = true) (ha : w1.map Prod.fst = w0.map Prod.fst) (F : Nat) (hZ : is.all (fun i => Nat.blt i F) = true) (h2 : yy_put is w1 F 0 wc = w2)
    (q0 : Nat) {ci : Nat} {fs : List Value} {T : u_T} {N : Nat} (he : wc[q0]? = some (b, .inr (ci, fs))) (hc : cl[ci]? = some (C, T, N)) (hn : As.length = n) (hsize : ls.size = nL) (hstack : st0 = As.reverse ++ .ref b :: rest) (hW : (rest.map fun v => v.category).sum ≤ 8) (hdg : decode cc pc = .ok (.invokevirtual index, 3)) (hf : cells ≤ R.cells ∧ slots ≤ R.slots)
    (kk : ∀ (H1 : Heap) (locs1 : List Loc), va_P D cl w2 H1 → va_D A w2 → va_S A H0 H1 locs1 → W p l e R s m args below meth c H1 locs1 cells slots Q (F0 m (pc + 3) ls (o.toList ++ rest))) : W p l e R s m args below meth c H locs cells slots Q (F0 m pc ls st0) :=
  yz_after (va_runVN S (hM H.size) cw ⟨yy_blind, va_recv hK hP hc he, yy_pre hK hN hP hD is hC hnd⟩ rfl hn hsize hstack (lv_room hW) hdg hf) hP hD hS hA is hC ha F hZ h2 kk
theorem yz_callS (S : CallFix p m c cc nL s args Ts own) (hM : yy_Met l y ws rm D cl tys As w0 o w1) (cw : CallB R s args own index y bytes maxL ret ws rm 0 0 n ∧ (Cond.static y).before args s = true) (hK : va_K D cl tys s) (hN : yy_N s) (hP : va_P D cl wc H) (hD : va_D A wc) (hS : va_S A H0 H locs) (hA : ∀ q : Nat, H0.size ≤ q → A q) (is : List Nat) (hC : is.map (fun i => wc[i]?) = w0.map some) (hnd : va_nd is = true) (ha : w1.map Prod.fst = w0.map Prod.fst) (F : Nat) (hZ : is.all (fun i => Nat.blt i F) = true) (h2 : yy_put is w1 F 0 wc = w2)
    (hn : As.length = n) (hsize : ls.size = nL) (hstack : st0 = As.reverse ++ rest) (hW : (rest.map fun v => v.category).sum ≤ 8) (hdg : decode cc pc = .ok (.invokestatic index, 3)) (hf : cells ≤ R.cells ∧ slots ≤ R.slots)
    (kk : ∀ (H1 : Heap) (locs1 : List Loc), va_P D cl w2 H1 → va_D A w2 → va_S A H0 H1 locs1 → W p l e R s m args below meth c H1 locs1 cells slots Q (F0 m (pc + 3) ls (o.toList ++ rest))) : W p l e R s m args below meth c H locs cells slots Q (F0 m pc ls st0) :=
  yz_after (va_runS S (hM H.size) cw ⟨yy_blind, yy_pre hK hN hP hD is hC hnd⟩ rfl hn hsize hstack (lv_room hW) hdg hf) hP hD hS hA is hC ha F hZ h2 kk
theorem yz_callSN (S : CallFix p m c cc nL s args Ts own) (hM : yy_Met l y ws rm D cl tys As w0 o w1) (cw : va_CN R s args own index y host bytes maxL ret ws rm 0 0 n ∧ (Cond.static y).before args s = true ∧ True) (hK : va_K D cl tys s) (hN : yy_N s) (hP : va_P D cl wc H) (hD : va_D A wc) (hS : va_S A H0 H locs) (hA : ∀ q : Nat, H0.size ≤ q → A q) (is : List Nat) (hC : is.map (fun i => wc[i]?) = w0.map some) (hnd : va_nd is = true) (ha : w1.map Prod.fst = w0.map Prod.fst) (F : Nat) (hZ : is.all (fun i => Nat.blt i F) = true) (h2 : yy_put is w1 F 0 wc = w2)
    (hn : As.length = n) (hsize : ls.size = nL) (hstack : st0 = As.reverse ++ rest) (hW : (rest.map fun v => v.category).sum ≤ 8) (hdg : decode cc pc = .ok (.invokestatic index, 3)) (hf : cells ≤ R.cells ∧ slots ≤ R.slots)
    (kk : ∀ (H1 : Heap) (locs1 : List Loc), va_P D cl w2 H1 → va_D A w2 → va_S A H0 H1 locs1 → W p l e R s m args below meth c H1 locs1 cells slots Q (F0 m (pc + 3) ls (o.toList ++ rest))) : W p l e R s m args below meth c H locs cells slots Q (F0 m pc ls st0) :=
  yz_after (va_runSN S (hM H.size) cw ⟨yy_blind, yy_pre hK hN hP hD is hC hnd⟩ rfl hn hsize hstack (lv_room hW) hdg hf) hP hD hS hA is hC ha F hZ h2 kk
end YC
