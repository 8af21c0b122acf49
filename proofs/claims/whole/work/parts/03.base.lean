/-! what the rows of the contracts are made of -/
def yB : Bool → Int32
  | true => 1
  | false => 0
theorem yB_0 {b : Bool} : yB b = 0 ↔ b = false := by cases b <;> decide
theorem yB_1 {b : Bool} (h : ¬ yB b = 0) : b = true := by
  cases b with
  | true => rfl
  | false => exact absurd rfl h
theorem yB_n (b : Bool) : narrow .boolean (.int (yB b)) = .int (yB b) := by cases b <;> rfl
theorem yB_fit (b : Bool) : fits .boolean (.int (yB b)) = true := by cases b <;> rfl
theorem yB_nar (b : Bool) : vp_nar .boolean (yB b) = yB b := by cases b <;> rfl
def yb {α β : Type} (x : α) (k : α → β) : β := k x
theorem yb_e {α β : Type} {x p : α} {k : α → β} {r : β} (hp : p = x) (h : r = yb x k) : r = k p := by
  subst hp
  exact h
def yn {β : Type} (x : Int32) (k : Nat → β) : β := k x.toNatClampNeg
theorem yn_e {β : Type} {x : Int32} {n : Nat} {k : Nat → β} {r : β} (hn : x.toNatClampNeg = n) (h : r = yn x k) : r = k n := by
  subst hn
  exact h
theorem yt {c : Prop} [Decidable c] {α : Type} {a b r : α} (h : c) (e : r = if c then a else b) : r = a := by
  rw [if_pos h] at e
  exact e
theorem yf {c : Prop} [Decidable c] {α : Type} {a b r : α} (h : ¬ c) (e : r = if c then a else b) : r = b := by
  rw [if_neg h] at e
  exact e
theorem yBt {x : Bool} {α : Type} {a b r : α} (h : x = true) (e : r = if x = true then a else b) : r = a := yt h e
theorem yBf {x : Bool} {α : Type} {a b r : α} (h : x = false) (e : r = if x = true then a else b) : r = b := yf (by rw [h]; decide) e
def ylshl (x : Int64) (y : Int32) : Int64 := x <<< (y.toInt64 &&& 63)
def ylshr (x : Int64) (y : Int32) : Int64 := x >>> (y.toInt64 &&& 63)
def ylushr (x : Int64) (y : Int32) : Int64 := (x.toUInt64 >>> (y.toInt64.toUInt64 &&& Int64.toUInt64 63)).toInt64
def yishr (x y : Int32) : Int32 := x >>> (y &&& 31)
def yishl (x y : Int32) : Int32 := x <<< (y &&& 31)
def yiushr (x y : Int32) : Int32 := (x.toUInt32 >>> (y.toUInt32 &&& Int32.toUInt32 31)).toInt32
def yupB (g : Nat → Bool) (k : Nat) (b : Bool) : Nat → Bool := fun j => if j = k then b else g j
def yupN (g : Nat → Nat) (k n : Nat) : Nat → Nat := fun j => if j = k then n else g j
def yupF {α : Type} (f : Nat → α) (k : Nat) (v : α) : Nat → α := fun j => if j = k then v else f j
theorem yy_inc (a : Nat) : nI a + Int32.ofInt 1 = nI (a + 1) := nI_1 a
theorem yy_dec (a : Nat) : nI a + Int32.ofInt (-1) = nI a - 1 := by
  rw [show Int32.ofInt (-1) = -1 from by decide, Int32.sub_eq_add_neg]
theorem yy_incI (a : Int32) : a + Int32.ofInt 1 = a + 1 := rfl
theorem yy_decI (a : Int32) : a + Int32.ofInt (-1) = a - 1 := by
  rw [show Int32.ofInt (-1) = -1 from by decide, Int32.sub_eq_add_neg]
theorem yy_cmp0 {x y : Int64} (h : lg_cmp x y = 0) : x = y := by
  unfold lg_cmp at h
  split at h
  · exact absurd h (by decide)
  · split at h
    · assumption
    · exact absurd h (by decide)
theorem yy_cmp1 {x y : Int64} (h : ¬ lg_cmp x y = 0) : ¬ x = y := by
  intro e
  subst e
  exact h (by simp [lg_cmp])
-- indices
theorem yy_int {x : Int32} : x < 0 ↔ x.toInt < 0 := by rw [Int32.lt_iff_toInt_lt]; rfl
theorem yy_lti {x y : Int32} : x < y ↔ x.toInt < y.toInt := Int32.lt_iff_toInt_lt
theorem yy_lei {x y : Int32} : x ≤ y ↔ x.toInt ≤ y.toInt := Int32.le_iff_toInt_le
theorem yy_in {x N : Int32} {n : Nat} (h0 : ¬ x < 0) (h : ¬ N ≤ x) (hN : N.toInt = n) : vp_in x n := by
  rw [vp_in_iff]
  rw [yy_lti] at h0
  rw [yy_lei] at h
  have e0 : (0 : Int32).toInt = 0 := rfl
  omega
theorem yy_in3 {x : Int32} {n N : Nat} (h0 : ¬ x < 0) (h : x < nI n) (hn : n ≤ N) (hN : N < 2 ^ 31) : vp_in x N := by
  rw [vp_in_iff]
  rw [yy_lti] at h0 h
  have e0 : (0 : Int32).toInt = 0 := rfl
  rw [nI_toInt (by omega)] at h
  omega
theorem yy_in5 {x : Int32} {n N : Nat} (h0 : ¬ x < 0) (h : ¬ nI n ≤ x) (hn : n ≤ N) (hN : N < 2 ^ 31) : vp_in x N := by
  rw [vp_in_iff]
  rw [yy_lti] at h0
  rw [yy_lei] at h
  have e0 : (0 : Int32).toInt = 0 := rfl
  rw [nI_toInt (by omega)] at h
  omega
theorem yy_in4 {x : Int32} (h0 : ¬ x < 0) (h : x ≤ 3) : vp_in x 4 := by
  rw [vp_in_iff]
  rw [yy_lti] at h0
  rw [yy_lei] at h
  have e0 : (0 : Int32).toInt = 0 := rfl
  have e3 : (3 : Int32).toInt = 3 := rfl
  omega
theorem yy_nat {x : Int32} {n : Nat} (h : vp_in x n) (hn : n < 2 ^ 31) : ∃ k : Nat, x.toNatClampNeg = k ∧ k < n ∧ x = nI k := by
  obtain ⟨j, hj, rfl⟩ := vp_in_of h hn
  exact ⟨j, nI_clamp (by omega), hj, rfl⟩
theorem yy_nat4 {x : Int32} (h0 : ¬ x < 0) (h : x ≤ 3) : ∃ k : Nat, x.toNatClampNeg = k ∧ k < 4 ∧ x = nI k := yy_nat (yy_in4 h0 h) (by decide)
theorem yy_nat8 {x : Int32} (h0 : ¬ x < 0) (h : x ≤ 7) : ∃ k : Nat, x.toNatClampNeg = k ∧ k < 8 ∧ x = nI k := by
  refine yy_nat ?_ (by decide)
  rw [vp_in_iff]
  rw [yy_lti] at h0
  rw [yy_lei] at h
  have e0 : (0 : Int32).toInt = 0 := rfl
  have e3 : (7 : Int32).toInt = 7 := rfl
  omega
theorem yy_natC {x : Int32} (h0 : ¬ x < 1) (h : ¬ 2 < x) : ∃ k : Nat, x.toNatClampNeg = k ∧ k < 3 ∧ x = nI k := by
  refine yy_nat ?_ (by decide)
  rw [vp_in_iff]
  rw [yy_lti] at h0 h
  have e0 : (1 : Int32).toInt = 1 := rfl
  have e3 : (2 : Int32).toInt = 2 := rfl
  omega
theorem yy_lt60 {i : Nat} (h : ¬ nI i = 60) (hi : i ≤ 60) : i < 60 := by
  rcases Nat.lt_or_eq_of_le hi with h1 | h1
  · exact h1
  · subst h1
    exact absurd rfl h
theorem yy_sw3 {x : Int32} (h0 : ¬ x = 0) (h1 : ¬ x = 1) (h2 : ¬ x = 2) : x.toInt < 0 ∨ 2 < x.toInt := by
  have a0 := lv_neT h0 (a := 0) rfl
  have a1 := lv_neT h1 (a := 1) rfl
  have a2 := lv_neT h2 (a := 2) rfl
  omega
section YR
variable {p : Program} {l : Launch} {e : Env} {R : Room} {s : State} {m : MethodId} {args : Array Value} {below : List Frame} {meth : Method} {c : Code} {H : Heap} {locs : List Loc} {cells slots : Nat} {Q : State → Prop}
variable {cc : ByteArray} {pc : Nat} {ls : Array Slot} {rest : List Value} {D : va_G} {cl : List vw_C} {A : Nat → Prop} {a : Nat} {tys : List (ClassId × FieldType)} {ws : va_W} {H0 : Heap}
theorem yr_iaddN (hexec : p.tables.exec = Jvm.exec) (hb : c.code = cc) {x y : Nat} (hdg : decode cc pc = .ok (.iadd, 1)) (k : W p l e R s m args below meth c H locs cells slots Q (F0 m (pc + 1) ls (.int (nI (x + y)) :: rest))) : W p l e R s m args below meth c H locs cells slots Q (F0 m pc ls (.int (nI y) :: .int (nI x) :: rest)) :=
  lv_iadd hexec hb hdg (by rw [nI_add]; exact k)
theorem yr_imulN (hexec : p.tables.exec = Jvm.exec) (hb : c.code = cc) {x y : Nat} (hdg : decode cc pc = .ok (.imul, 1)) (k : W p l e R s m args below meth c H locs cells slots Q (F0 m (pc + 1) ls (.int (nI (x * y)) :: rest))) : W p l e R s m args below meth c H locs cells slots Q (F0 m pc ls (.int (nI y) :: .int (nI x) :: rest)) :=
  lv_imul hexec hb hdg (by rw [pk_mul]; exact k)
theorem yr_ishr (hexec : p.tables.exec = Jvm.exec) (hb : c.code = cc) {x y : Int32} (hdg : decode cc pc = .ok (.ishr, 1)) (k : W p l e R s m args below meth c H locs cells slots Q (F0 m (pc + 1) ls (.int (yishr x y) :: rest))) : W p l e R s m args below meth c H locs cells slots Q (F0 m pc ls (.int y :: .int x :: rest)) :=
  lv_ishr hexec hb hdg k
theorem yr_iushr (hexec : p.tables.exec = Jvm.exec) (hb : c.code = cc) {x y : Int32} (hdg : decode cc pc = .ok (.iushr, 1)) (k : W p l e R s m args below meth c H locs cells slots Q (F0 m (pc + 1) ls (.int (yiushr x y) :: rest))) : W p l e R s m args below meth c H locs cells slots Q (F0 m pc ls (.int y :: .int x :: rest)) :=
  lv_iushr (v := yiushr x y) hexec hb hdg rfl k
theorem yr_iald (hexec : p.tables.exec = Jvm.exec) (hb : c.code = cc) (hK : va_K D cl tys s) (hP : va_P D cl ws H) (q0 t0 : Nat) {cA : ClassId} {n : Nat} {f : Nat → Int32} {j : Nat} (ha : ws[q0]? = some (a, .inl (cA, n, .inl f))) (ht : tys[t0]? = some (cA, .int)) {i : Int32} (hi : i = nI j) (hj : j < n) (hn : n < 2 ^ 31) (hdg : decode cc pc = .ok (.iaload, 1))
    (kk : W p l e R s m args below meth c H locs cells slots Q (F0 m (pc + 1) ls (.int (f j) :: rest))) : W p l e R s m args below meth c H locs cells slots Q (F0 m pc ls (.int i :: .ref a :: rest)) := by
  subst hi
  refine va_iald hexec hb hK hP q0 t0 ha ht (vp_in_nI hj hn) hdg ?_
  rw [nI_clamp (by omega)]
  exact kk
theorem yr_lald (hexec : p.tables.exec = Jvm.exec) (hb : c.code = cc) (hK : va_K D cl tys s) (hP : va_P D cl ws H) (q0 t0 : Nat) {cA : ClassId} {n : Nat} {f : Nat → Int64} {j : Nat} (ha : ws[q0]? = some (a, .inl (cA, n, .inr (.inl f)))) (ht : tys[t0]? = some (cA, .long)) {i : Int32} (hi : i = nI j) (hj : j < n) (hn : n < 2 ^ 31) (hdg : decode cc pc = .ok (.laload, 1))
    (kk : W p l e R s m args below meth c H locs cells slots Q (F0 m (pc + 1) ls (.long (f j) :: rest))) : W p l e R s m args below meth c H locs cells slots Q (F0 m pc ls (.int i :: .ref a :: rest)) := by
  subst hi
  refine va_lald hexec hb hK hP q0 t0 ha ht (vp_in_nI hj hn) hdg ?_
  rw [nI_clamp (by omega)]
  exact kk
theorem yr_zaldB (hexec : p.tables.exec = Jvm.exec) (hb : c.code = cc) (hK : va_K D cl tys s) (hP : va_P D cl ws H) (q0 t0 : Nat) {cA : ClassId} {n : Nat} {g : Nat → Bool} {j : Nat} (ha : ws[q0]? = some (a, .inl (cA, n, .inl (fun q => yB (g q))))) (ht : tys[t0]? = some (cA, .boolean)) {i : Int32} (hi : i = nI j) (hj : j < n) (hn : n < 2 ^ 31) (hdg : decode cc pc = .ok (.baload, 1))
    (kk : W p l e R s m args below meth c H locs cells slots Q (F0 m (pc + 1) ls (.int (yB (g j)) :: rest))) : W p l e R s m args below meth c H locs cells slots Q (F0 m pc ls (.int i :: .ref a :: rest)) := by
  subst hi
  refine va_zald hexec hb hK hP q0 t0 ha ht (vp_in_nI hj hn) hdg ?_
  rw [nI_clamp (by omega)]
  exact kk
theorem yr_ialdN (hexec : p.tables.exec = Jvm.exec) (hb : c.code = cc) (hK : va_K D cl tys s) (hP : va_P D cl ws H) (q0 t0 : Nat) {cA : ClassId} {n M : Nat} {g : Nat → Nat} {j : Nat} (ha : ws[q0]? = some (a, .inl (cA, n, .inl (fun q => nI (g q % M))))) (ht : tys[t0]? = some (cA, .int)) {i : Int32} (hi : i = nI j) (hj : j < n) (hn : n < 2 ^ 31) (hdg : decode cc pc = .ok (.iaload, 1))
    (kk : W p l e R s m args below meth c H locs cells slots Q (F0 m (pc + 1) ls (.int (nI (g j % M)) :: rest))) : W p l e R s m args below meth c H locs cells slots Q (F0 m pc ls (.int i :: .ref a :: rest)) := by
  subst hi
  refine va_iald hexec hb hK hP q0 t0 ha ht (vp_in_nI hj hn) hdg ?_
  rw [nI_clamp (by omega)]
  exact kk
theorem yr_aldq (hexec : p.tables.exec = Jvm.exec) (hb : c.code = cc) (hK : va_K D cl tys s) (hP : va_P D cl ws H) (q0 t0 : Nat) {cA : ClassId} {C : String} {n : Nat} {f : Nat → Option Nat} {j b : Nat} (ha : ws[q0]? = some (a, .inl (cA, n, .inr (.inr (.inr (.inr f)))))) (ht : tys[t0]? = some (cA, .object C)) {i : Int32} (hi : i = nI j) (hj : j < n) (hn : n < 2 ^ 31) (hfj : f j = some b) (hdg : decode cc pc = .ok (.aaload, 1))
    (kk : W p l e R s m args below meth c H locs cells slots Q (F0 m (pc + 1) ls (.ref b :: rest))) : W p l e R s m args below meth c H locs cells slots Q (F0 m pc ls (.int i :: .ref a :: rest)) := by
  subst hi
  refine va_aldq hexec hb hK hP q0 t0 ha ht (vp_in_nI hj hn) hdg ?_
  rw [nI_clamp (by omega), hfj]
  exact kk
theorem yr_iast (hexec : p.tables.exec = Jvm.exec) (hb : c.code = cc) (hK : va_K D cl tys s) (hP : va_P D cl ws H) (hD : va_D A ws) (hS : va_S A H0 H locs) (q0 t0 : Nat) {cA : ClassId} {n : Nat} {f : Nat → Int32} {j : Nat} (ha : ws[q0]? = some (a, .inl (cA, n, .inl f))) (ht : tys[t0]? = some (cA, .int)) {i x : Int32} (hi : i = nI j) (hj : j < n) (hn : n < 2 ^ 31) (hdg : decode cc pc = .ok (.iastore, 1))
    (kk : ∀ (H1 : Heap) (locs1 : List Loc), va_P D cl (ws.set q0 (a, .inl (cA, n, .inl (upd f j x)))) H1 → va_D A (ws.set q0 (a, .inl (cA, n, .inl (upd f j x)))) → va_S A H0 H1 locs1 → W p l e R s m args below meth c H1 locs1 cells slots Q (F0 m (pc + 1) ls rest)) : W p l e R s m args below meth c H locs cells slots Q (F0 m pc ls (.int x :: .int i :: .ref a :: rest)) := by
  subst hi
  have hc : (nI j).toNatClampNeg = j := nI_clamp (by omega)
  refine va_iast hexec hb hK hP hD hS q0 t0 ha ht (vp_in_nI hj hn) hdg ?_
  rw [hc]
  exact kk
theorem yr_last (hexec : p.tables.exec = Jvm.exec) (hb : c.code = cc) (hK : va_K D cl tys s) (hP : va_P D cl ws H) (hD : va_D A ws) (hS : va_S A H0 H locs) (q0 t0 : Nat) {cA : ClassId} {n : Nat} {f : Nat → Int64} {j : Nat} (ha : ws[q0]? = some (a, .inl (cA, n, .inr (.inl f)))) (ht : tys[t0]? = some (cA, .long)) {i : Int32} {x : Int64} (hi : i = nI j) (hj : j < n) (hn : n < 2 ^ 31) (hdg : decode cc pc = .ok (.lastore, 1))
    (kk : ∀ (H1 : Heap) (locs1 : List Loc), va_P D cl (ws.set q0 (a, .inl (cA, n, .inr (.inl (vp_updL f j x))))) H1 → va_D A (ws.set q0 (a, .inl (cA, n, .inr (.inl (vp_updL f j x))))) → va_S A H0 H1 locs1 → W p l e R s m args below meth c H1 locs1 cells slots Q (F0 m (pc + 1) ls rest)) : W p l e R s m args below meth c H locs cells slots Q (F0 m pc ls (.long x :: .int i :: .ref a :: rest)) := by
  subst hi
  have hc : (nI j).toNatClampNeg = j := nI_clamp (by omega)
  refine va_last hexec hb hK hP hD hS q0 t0 ha ht (vp_in_nI hj hn) hdg ?_
  rw [hc]
  exact kk
theorem yr_zastB {g : Nat → Bool} {b : Bool} (hexec : p.tables.exec = Jvm.exec) (hb : c.code = cc) (hK : va_K D cl tys s) (hP : va_P D cl ws H) (hD : va_D A ws) (hS : va_S A H0 H locs) (q0 t0 : Nat) {cA : ClassId} {n j : Nat} (ha : ws[q0]? = some (a, .inl (cA, n, .inl (fun q => yB (g q))))) (ht : tys[t0]? = some (cA, .boolean)) {i : Int32} (hi : i = nI j) (hj : j < n) (hn : n < 2 ^ 31) (hdg : decode cc pc = .ok (.bastore, 1))
    (kk : ∀ (H1 : Heap) (locs1 : List Loc), va_P D cl (ws.set q0 (a, .inl (cA, n, .inl (fun q => yB (yupB g j b q))))) H1 → va_D A (ws.set q0 (a, .inl (cA, n, .inl (fun q => yB (yupB g j b q))))) → va_S A H0 H1 locs1 → W p l e R s m args below meth c H1 locs1 cells slots Q (F0 m (pc + 1) ls rest)) : W p l e R s m args below meth c H locs cells slots Q (F0 m pc ls (.int (yB b) :: .int i :: .ref a :: rest)) := by
  subst hi
  have hc : (nI j).toNatClampNeg = j := nI_clamp (by omega)
  have hu : upd (fun q => yB (g q)) j (yB b) = fun q => yB (yupB g j b q) := by
    funext q
    by_cases hq : q = j
    · simp [upd, yupB, hq]
    · simp [upd, yupB, hq]
  refine va_zast hexec hb hK hP hD hS q0 t0 ha ht (vp_in_nI hj hn) hdg ?_
  rw [hc, yB_nar, hu]
  exact kk
theorem yr_iastN {g : Nat → Nat} {M v : Nat} (hexec : p.tables.exec = Jvm.exec) (hb : c.code = cc) (hK : va_K D cl tys s) (hP : va_P D cl ws H) (hD : va_D A ws) (hS : va_S A H0 H locs) (q0 t0 : Nat) {cA : ClassId} {n j : Nat} (ha : ws[q0]? = some (a, .inl (cA, n, .inl (fun q => nI (g q % M))))) (ht : tys[t0]? = some (cA, .int)) {i : Int32} (hi : i = nI j) (hj : j < n) (hn : n < 2 ^ 31) (hv : v < M) (hdg : decode cc pc = .ok (.iastore, 1))
    (kk : ∀ (H1 : Heap) (locs1 : List Loc), va_P D cl (ws.set q0 (a, .inl (cA, n, .inl (fun q => nI (yupN g j v q % M))))) H1 → va_D A (ws.set q0 (a, .inl (cA, n, .inl (fun q => nI (yupN g j v q % M))))) → va_S A H0 H1 locs1 → W p l e R s m args below meth c H1 locs1 cells slots Q (F0 m (pc + 1) ls rest)) : W p l e R s m args below meth c H locs cells slots Q (F0 m pc ls (.int (nI v) :: .int i :: .ref a :: rest)) := by
  subst hi
  have hc : (nI j).toNatClampNeg = j := nI_clamp (by omega)
  have hu : upd (fun q => nI (g q % M)) j (nI v) = fun q => nI (yupN g j v q % M) := by
    funext q
    by_cases hq : q = j
    · simp [upd, yupN, hq, Nat.mod_eq_of_lt hv]
    · simp [upd, yupN, hq]
  refine va_iast hexec hb hK hP hD hS q0 t0 ha ht (vp_in_nI hj hn) hdg ?_
  rw [hc, hu]
  exact kk
end YR
/-! words: every method's list is its own code and then yW -/
theorem yy_tl {c : Cond} {P : List Cond} (h : ∀ w ∈ P, w ∈ yW) : ∀ w ∈ P, w ∈ c :: yW := fun w hw => List.mem_cons_of_mem _ (h w hw)
theorem yy_good {c1 c2 : Cond} (h : c2 ∈ yW) : GoodIn (c1 :: yW) (c2 :: yW) := by
  intro w hw
  rcases List.mem_cons.mp hw with rfl | hw
  · exact ⟨List.mem_cons_of_mem _ h, good_of_word (List.mem_filter.mp h).2⟩
  · exact ⟨List.mem_cons_of_mem _ hw, good_of_word (List.mem_filter.mp hw).2⟩
/-- the links between nest mates, and the array of nodes: no words that stay by themselves -/
def yy_N (U : State) : Prop := va_Nw (.methodLinkNest RX0 44 yX4_isIn "PackExchange") U ∧ va_Nw (.methodLinkNest RX0 56 yX4_isChosen "PackExchange") U ∧ va_Nw (.methodLinkNest RX2 44 yX4_isIn "PackExchange") U ∧ va_Nw (.methodLinkNest RX3 42 yX4_isIn "PackExchange") U ∧ va_Nw (.methodLinkNest RX1 40 yX4_isIn "PackExchange") U ∧ va_Nw (.methodLinkNest RX4 9 yX2_init "PackExchange") U ∧ va_Nw (.methodLinkNest RX4 25 yX3_init "PackExchange") U ∧ va_Nw (.methodLinkNest RX4 32 yX1_init "PackExchange") U ∧ va_AO "PackExchange$Node" U
theorem yy_N.warm {s U : State} (hW : s.WarmedH U.vm) (h : yy_N s) : yy_N U := by
  obtain ⟨h0, h1, h2, h3, h4, h5, h6, h7, h8⟩ := h
  exact ⟨va_Nw.warmM hW h0, va_Nw.warmM hW h1, va_Nw.warmM hW h2, va_Nw.warmM hW h3, va_Nw.warmM hW h4, va_Nw.warmM hW h5, va_Nw.warmM hW h6, va_Nw.warmM hW h7, va_AO.moved hW.alike h8⟩
theorem yy_N.same {s U : State} (e : s.vm = U.vm) (h : yy_N s) : yy_N U := by
  obtain ⟨h0, h1, h2, h3, h4, h5, h6, h7, h8⟩ := h
  exact ⟨va_Nw.same rfl e h0, va_Nw.same rfl e h1, va_Nw.same rfl e h2, va_Nw.same rfl e h3, va_Nw.same rfl e h4, va_Nw.same rfl e h5, va_Nw.same rfl e h6, va_Nw.same rfl e h7, va_AO.moved (e ▸ Vm.Alike.refl s.vm) h8⟩
/-! a contract without new cells: the answer o, the world w1 behind it -/
def yy_Q (A : Nat → Prop) (D : va_G) (cl : List vw_C) (tys : List (ClassId × FieldType)) (w1 : va_W) (o : Option Value) : Array Value → State → Outcome → State → Prop :=
  fun _ st oc t => (oc = .returned o ∧ va_P D cl w1 t.heap ∧ va_K D cl tys t) ∧ va_F A st t
def yy_Pre (D : va_G) (cl : List vw_C) (tys : List (ClassId × FieldType)) (w0 : va_W) (sz : Nat) (U : State) : Prop :=
  U.heap.size = sz ∧ va_P D cl w0 U.heap ∧ va_K D cl tys U ∧ va_D (fun _ => True) w0 ∧ yy_N U
def yy_Met (l : Launch) (y : MethodName) (ws : List Cond) (rm : Room) (D : va_G) (cl : List vw_C) (tys : List (ClassId × FieldType)) (av : List Value) (w0 : va_W) (o : Option Value) (w1 : va_W) : Prop :=
  ∀ sz : Nat, Met l y ws rm (va_Pc av (yy_Pre D cl tys w0 sz)) (yy_Q (va_A w0 sz) D cl tys w1 o) 0 0 (va_A w0 sz)
def yy_set : List Nat → va_W → va_W → va_W
  | [], _, ws => ws
  | _ :: _, [], ws => ws
  | i :: is, w :: w1, ws => yy_set is w1 (ws.set i w)
theorem yy_set_get : ∀ (is : List Nat) (w1 ws : va_W), is.length = w1.length → ∀ (k : Nat) (q : Nat × va_E), (yy_set is w1 ws)[k]? = some q → (∃ j : Nat, is[j]? = some k ∧ w1[j]? = some q) ∨ (k ∉ is ∧ ws[k]? = some q)
  | [], [], ws, _, k, q, h => Or.inr ⟨by simp, h⟩
  | [], _ :: _, ws, hl, k, q, h => by simp at hl
  | _ :: _, [], ws, hl, k, q, h => by simp at hl
  | i :: is, w :: w1, ws, hl, k, q, h => by
    rcases yy_set_get is w1 (ws.set i w) (by simpa using hl) k q h with ⟨j, h1, h2⟩ | ⟨h1, h2⟩
    · exact Or.inl ⟨j + 1, by simpa using h1, by simpa using h2⟩
    · by_cases hki : k = i
      · subst hki
        have hlt : k < ws.length := by
          have := (List.getElem?_eq_some_iff.mp h2).1
          simpa using this
        rw [List.getElem?_set_self hlt] at h2
        exact Or.inl ⟨0, rfl, h2⟩
      · rw [List.getElem?_set_ne (Ne.symm hki)] at h2
        exact Or.inr ⟨by simp [hki, h1], h2⟩
theorem yy_len {is : List Nat} {ws w0 w1 : va_W} (hC : is.map (fun i => ws[i]?) = w0.map some) (ha : w1.map Prod.fst = w0.map Prod.fst) : is.length = w1.length := by
  have h1 := congrArg List.length hC
  have h2 := congrArg List.length ha
  simp at h1 h2
  omega
theorem yy_at {is : List Nat} {ws w0 : va_W} (hC : is.map (fun i => ws[i]?) = w0.map some) {j k : Nat} (h : is[j]? = some k) : ∃ q0, w0[j]? = some q0 ∧ ws[k]? = some q0 := by
  have h1 : (is.map (fun i => ws[i]?))[j]? = some (ws[k]?) := by rw [List.getElem?_map, h]; rfl
  rw [hC, List.getElem?_map] at h1
  cases hw : w0[j]? with
  | none => rw [hw] at h1; cases h1
  | some q0 => rw [hw] at h1; exact ⟨q0, rfl, (Option.some.inj h1).symm⟩
theorem yy_of {is : List Nat} {ws w0 : va_W} (hC : is.map (fun i => ws[i]?) = w0.map some) {j : Nat} {q : Nat × va_E} (h : w0[j]? = some q) : ∃ i, is[j]? = some i ∧ ws[i]? = some q := by
  have h3 : (is.map (fun i => ws[i]?))[j]? = some (some q) := by rw [hC, List.getElem?_map, h]; rfl
  rw [List.getElem?_map] at h3
  cases hi : is[j]? with
  | none => rw [hi] at h3; cases h3
  | some i => rw [hi] at h3; exact ⟨i, rfl, Option.some.inj h3⟩
theorem yy_set_D {A : Nat → Prop} {is : List Nat} {ws w0 w1 : va_W} (hD : va_D A ws) (hC : is.map (fun i => ws[i]?) = w0.map some) (ha : w1.map Prod.fst = w0.map Prod.fst) : va_D A (yy_set is w1 ws) := by
  have key : ∀ (k : Nat) (q : Nat × va_E), (yy_set is w1 ws)[k]? = some q → ∃ q0, ws[k]? = some q0 ∧ q0.1 = q.1 := by
    intro k q hq
    rcases yy_set_get is w1 ws (yy_len hC ha) k q hq with ⟨j, h1, h2⟩ | ⟨h1, h2⟩
    · obtain ⟨q0, h3, h4⟩ := yy_at hC h1
      refine ⟨q0, h4, ?_⟩
      have h5 : (w1.map Prod.fst)[j]? = some q.1 := by rw [List.getElem?_map, h2]; rfl
      rw [ha, List.getElem?_map, h3] at h5
      exact Option.some.inj h5
    · exact ⟨q, h2, rfl⟩
  refine ⟨fun i j x y hi hj hxy => ?_, fun k q hk => ?_⟩
  · obtain ⟨x0, h1, h2⟩ := key i x hi
    obtain ⟨y0, h3, h4⟩ := key j y hj
    exact hD.1 i j x0 y0 h1 h3 (h2.trans (hxy.trans h4.symm))
  · obtain ⟨q0, h1, h2⟩ := key k q hk
    rw [← h2]
    exact hD.2 k q0 h1
theorem yy_set_P {A : Nat → Prop} {D : va_G} {cl : List vw_C} {is : List Nat} {ws w0 w1 : va_W} {H H1 : Heap} (hP : va_P D cl ws H) (hD : va_D A ws) (hC : is.map (fun i => ws[i]?) = w0.map some) (ha : w1.map Prod.fst = w0.map Prod.fst) (hk : ∀ q : Nat, q < H.size → ¬ va_A w0 H.size q → H1[q]? = H[q]?) (hP1 : va_P D cl w1 H1) : va_P D cl (yy_set is w1 ws) H1 := by
  intro k q hq
  rcases yy_set_get is w1 ws (yy_len hC ha) k q hq with ⟨j, h1, h2⟩ | ⟨h1, h2⟩
  · exact hP1 j q h2
  · refine (hP k q h2).kept (hk q.1 (hP k q h2).lt (fun h => ?_))
    rcases h with ⟨j, e, h⟩ | h
    · obtain ⟨i, h3, h4⟩ := yy_of hC h
      have hij := hD.1 k i q (q.1, e) h2 h4 rfl
      subst hij
      exact h1 (List.mem_of_getElem? h3)
    · have := (hP k q h2).lt
      omega
theorem yy_subP {D : va_G} {cl : List vw_C} {is : List Nat} {ws w0 : va_W} {H : Heap} (hP : va_P D cl ws H) (hC : is.map (fun i => ws[i]?) = w0.map some) : va_P D cl w0 H := by
  intro k q hq
  obtain ⟨i, -, h⟩ := yy_of hC hq
  exact hP i q h
theorem yy_blind {av : List Value} {D : va_G} {cl : List vw_C} {tys : List (ClassId × FieldType)} {w0 : va_W} {sz : Nat} : FrameBlind (va_Pc av (yy_Pre D cl tys w0 sz)) := by
  intro a U g mk q
  obtain ⟨q0, q1, qP, qK, qD, qN⟩ := q
  exact ⟨q0, q1, qP, va_K.moved (u := U) (U := U.calling g mk a) (Vm.Alike.refl U.vm) qK, qD, qN.same rfl⟩
section YC
variable {p : Program} {l : Launch} {e : Env} {R : Room} {s : State} {m : MethodId} {args : Array Value} {below : List Frame} {meth : Method} {c : Code} {H : Heap} {locs : List Loc} {cells slots : Nat} {Q : State → Prop}
variable {cc : ByteArray} {pc : Nat} {ls : Array Slot} {rest st0 : List Value} {D : va_G} {cl : List vw_C} {A : Nat → Prop} {tys : List (ClassId × FieldType)} {H0 : Heap} {w0 w1 w2 wc : va_W} {o : Option Value}
theorem yy_after {av : Array Value} (hr : va_Run p l e R s m args below meth c H locs cells slots 0 0 (F0 m pc ls st0) rest (yy_Q (va_A w0 H.size) D cl tys w1 o av) (va_A w0 H.size)) (hP : va_P D cl wc H) (hD : va_D A wc) (hS : va_S A H0 H locs) (hA : ∀ q : Nat, H0.size ≤ q → A q) (is : List Nat) (hC : is.map (fun i => wc[i]?) = w0.map some) (ha : w1.map Prod.fst = w0.map Prod.fst) (h2 : yy_set is w1 wc = w2)
    (kk : ∀ (H1 : Heap) (locs1 : List Loc), va_P D cl w2 H1 → va_D A w2 → va_S A H0 H1 locs1 → W p l e R s m args below meth c H1 locs1 cells slots Q (F0 m (pc + 3) ls (o.toList ++ rest))) : W p l e R s m args below meth c H locs cells slots Q (F0 m pc ls st0) := by
  subst h2
  intro T hT X
  obtain ⟨v, st₀, t, T', L, h0, X', hL, e1, e2, ⟨⟨hv, hP1, hK1⟩, hz, hk⟩, st⟩ := hr T hT X
  have hvo : v = o := by injection hv
  subst hvo
  rw [h0] at hz hk
  have hF := va_free (wc := w0) hD hS hA is hC
  obtain ⟨t2, a1, b1⟩ := kk T'.heap (locs ++ L) (by rw [e1]; exact yy_set_P hP hD hC ha hk hP1) (yy_set_D hD hC ha)
    ⟨Nat.le_trans hS.1 (by rw [e1]; exact hz), fun q h1 h2 => by rw [e1, hk q (Nat.lt_of_lt_of_le h1 hS.1) (fun z => h2 (hF q z))]; exact hS.2.1 q h1 h2, fun q hq => by
      rcases List.mem_append.mp hq with h | h
      · exact hS.2.2 q h
      · exact hF _ (hL q h)⟩ T' rfl X'
  exact ⟨t2, st t2 a1, b1⟩
variable {y : MethodName} {bytes : ByteArray} {maxL nL n index : Nat} {ret : Option FieldType} {ws : List Cond} {rm : Room} {Ts : List Cond} {own C host : String} {b : Addr} {As : List Value}
theorem yy_pre (hK : va_K D cl tys s) (hN : yy_N s) (hP : va_P D cl wc H) (hD : va_D A wc) (is : List Nat) (hC : is.map (fun i => wc[i]?) = w0.map some) (hnd : va_nd is = true) {av : List Value} : ∀ U : State, U.heap = H → s.WarmedH U.vm → va_Pc av (yy_Pre D cl tys w0 H.size) av.toArray U := by
  intro U hU hW
  exact ⟨rfl, by rw [hU], by rw [hU]; exact yy_subP hP hC, va_K.moved hW.alike hK, (hD.sub is hnd hC).weaken (fun _ _ _ _ => trivial), hN.warm hW⟩
theorem yy_callV (S : CallFix p m c cc nL s args Ts own) (hM : yy_Met l y ws rm D cl tys (.ref b :: As) w0 o w1) (cw : CallW R s args own C index y bytes maxL ret ws rm 0 0 n) (hK : va_K D cl tys s) (hN : yy_N s) (hP : va_P D cl wc H) (hD : va_D A wc) (hS : va_S A H0 H locs) (hA : ∀ q : Nat, H0.size ≤ q → A q) (is : List Nat) (hC : is.map (fun i => wc[i]?) = w0.map some) (hnd : va_nd is = true) (ha : w1.map Prod.fst = w0.map Prod.fst) (h2 : yy_set is w1 wc = w2)
    (q0 : Nat) {ci : Nat} {fs : List Value} {T : u_T} {N : Nat} (he : wc[q0]? = some (b, .inr (ci, fs))) (hc : cl[ci]? = some (C, T, N)) (hn : As.length = n) (hsize : ls.size = nL) (hstack : st0 = As.reverse ++ .ref b :: rest) (hW : (rest.map fun v => v.category).sum ≤ 8) (hdg : decode cc pc = .ok (.invokevirtual index, 3)) (hf : cells ≤ R.cells ∧ slots ≤ R.slots)
    (kk : ∀ (H1 : Heap) (locs1 : List Loc), va_P D cl w2 H1 → va_D A w2 → va_S A H0 H1 locs1 → W p l e R s m args below meth c H1 locs1 cells slots Q (F0 m (pc + 3) ls (o.toList ++ rest))) : W p l e R s m args below meth c H locs cells slots Q (F0 m pc ls st0) :=
  yy_after (va_runV S (hM H.size) cw ⟨yy_blind, va_recv hK hP hc he, yy_pre hK hN hP hD is hC hnd⟩ rfl hn hsize hstack (lv_room hW) hdg hf) hP hD hS hA is hC ha h2 kk
theorem yy_callVN (S : CallFix p m c cc nL s args Ts own) (hM : yy_Met l y ws rm D cl tys (.ref b :: As) w0 o w1) (cw : va_CN R s args own index y host bytes maxL ret ws rm 0 0 n ∧ (Cond.instanceMethod y).before args s = true ∧ (Cond.selects C y y).before args s = true) (hK : va_K D cl tys s) (hN : yy_N s) (hP : va_P D cl wc H) (hD : va_D A wc) (hS : va_S A H0 H locs) (hA : ∀ q : Nat, H0.size ≤ q → A q) (is : List Nat) (hC : is.map (fun i => wc[i]?) = w0.map some) (hnd : va_nd is = true) (ha : w1.map Prod.fst = w0.map Prod.fst) (h2 : yy_set is w1 wc = w2)
    (q0 : Nat) {ci : Nat} {fs : List Value} {T : u_T} {N : Nat} (he : wc[q0]? = some (b, .inr (ci, fs))) (hc : cl[ci]? = some (C, T, N)) (hn : As.length = n) (hsize : ls.size = nL) (hstack : st0 = As.reverse ++ .ref b :: rest) (hW : (rest.map fun v => v.category).sum ≤ 8) (hdg : decode cc pc = .ok (.invokevirtual index, 3)) (hf : cells ≤ R.cells ∧ slots ≤ R.slots)
    (kk : ∀ (H1 : Heap) (locs1 : List Loc), va_P D cl w2 H1 → va_D A w2 → va_S A H0 H1 locs1 → W p l e R s m args below meth c H1 locs1 cells slots Q (F0 m (pc + 3) ls (o.toList ++ rest))) : W p l e R s m args below meth c H locs cells slots Q (F0 m pc ls st0) :=
  yy_after (va_runVN S (hM H.size) cw ⟨yy_blind, va_recv hK hP hc he, yy_pre hK hN hP hD is hC hnd⟩ rfl hn hsize hstack (lv_room hW) hdg hf) hP hD hS hA is hC ha h2 kk
theorem yy_callS (S : CallFix p m c cc nL s args Ts own) (hM : yy_Met l y ws rm D cl tys As w0 o w1) (cw : CallB R s args own index y bytes maxL ret ws rm 0 0 n ∧ (Cond.static y).before args s = true) (hK : va_K D cl tys s) (hN : yy_N s) (hP : va_P D cl wc H) (hD : va_D A wc) (hS : va_S A H0 H locs) (hA : ∀ q : Nat, H0.size ≤ q → A q) (is : List Nat) (hC : is.map (fun i => wc[i]?) = w0.map some) (hnd : va_nd is = true) (ha : w1.map Prod.fst = w0.map Prod.fst) (h2 : yy_set is w1 wc = w2)
    (hn : As.length = n) (hsize : ls.size = nL) (hstack : st0 = As.reverse ++ rest) (hW : (rest.map fun v => v.category).sum ≤ 8) (hdg : decode cc pc = .ok (.invokestatic index, 3)) (hf : cells ≤ R.cells ∧ slots ≤ R.slots)
    (kk : ∀ (H1 : Heap) (locs1 : List Loc), va_P D cl w2 H1 → va_D A w2 → va_S A H0 H1 locs1 → W p l e R s m args below meth c H1 locs1 cells slots Q (F0 m (pc + 3) ls (o.toList ++ rest))) : W p l e R s m args below meth c H locs cells slots Q (F0 m pc ls st0) :=
  yy_after (va_runS S (hM H.size) cw ⟨yy_blind, yy_pre hK hN hP hD is hC hnd⟩ rfl hn hsize hstack (lv_room hW) hdg hf) hP hD hS hA is hC ha h2 kk
theorem yy_callSN (S : CallFix p m c cc nL s args Ts own) (hM : yy_Met l y ws rm D cl tys As w0 o w1) (cw : va_CN R s args own index y host bytes maxL ret ws rm 0 0 n ∧ (Cond.static y).before args s = true ∧ True) (hK : va_K D cl tys s) (hN : yy_N s) (hP : va_P D cl wc H) (hD : va_D A wc) (hS : va_S A H0 H locs) (hA : ∀ q : Nat, H0.size ≤ q → A q) (is : List Nat) (hC : is.map (fun i => wc[i]?) = w0.map some) (hnd : va_nd is = true) (ha : w1.map Prod.fst = w0.map Prod.fst) (h2 : yy_set is w1 wc = w2)
    (hn : As.length = n) (hsize : ls.size = nL) (hstack : st0 = As.reverse ++ rest) (hW : (rest.map fun v => v.category).sum ≤ 8) (hdg : decode cc pc = .ok (.invokestatic index, 3)) (hf : cells ≤ R.cells ∧ slots ≤ R.slots)
    (kk : ∀ (H1 : Heap) (locs1 : List Loc), va_P D cl w2 H1 → va_D A w2 → va_S A H0 H1 locs1 → W p l e R s m args below meth c H1 locs1 cells slots Q (F0 m (pc + 3) ls (o.toList ++ rest))) : W p l e R s m args below meth c H locs cells slots Q (F0 m pc ls st0) :=
  yy_after (va_runSN S (hM H.size) cw ⟨yy_blind, yy_pre hK hN hP hD is hC hnd⟩ rfl hn hsize hstack (lv_room hW) hdg hf) hP hD hS hA is hC ha h2 kk
theorem yy_iret {v : Int32} (hexec : p.tables.exec = Jvm.exec) (hb : c.code = cc) (hr : meth.sig.returnType = some .int) (hP : va_P D cl w1 H) (hK : va_K D cl tys s) (hS : va_S A s.heap H locs) (hlocks : meth.locks = false) (hdg : decode cc pc = .ok (.ireturn, 1)) : W p l e R s m args below meth c H locs cells slots (MQ below (yy_Q A D cl tys w1 (some (.int v))) args s cells slots A) (F0 m pc ls [.int v]) :=
  W.iret hexec hb hr (fun t ht hW => ⟨⟨rfl, by rw [ht]; exact hP, va_K.moved hW.alike hK⟩, hS.F ht⟩) hS.2.2 hdg hlocks
theorem yy_zret {v : Int32} (hexec : p.tables.exec = Jvm.exec) (hb : c.code = cc) (hr : meth.sig.returnType = some .boolean) (hn : narrow .boolean (.int v) = .int v) (hP : va_P D cl w1 H) (hK : va_K D cl tys s) (hS : va_S A s.heap H locs) (hlocks : meth.locks = false) (hdg : decode cc pc = .ok (.ireturn, 1)) : W p l e R s m args below meth c H locs cells slots (MQ below (yy_Q A D cl tys w1 (some (.int v))) args s cells slots A) (F0 m pc ls [.int v]) :=
  W.zret hexec hb hr hn (fun t ht hW => ⟨⟨rfl, by rw [ht]; exact hP, va_K.moved hW.alike hK⟩, hS.F ht⟩) hS.2.2 hdg hlocks
theorem yy_lret {v : Int64} (hexec : p.tables.exec = Jvm.exec) (hb : c.code = cc) (hr : meth.sig.returnType = some .long) (hP : va_P D cl w1 H) (hK : va_K D cl tys s) (hS : va_S A s.heap H locs) (hlocks : meth.locks = false) (hdg : decode cc pc = .ok (.lreturn, 1)) : W p l e R s m args below meth c H locs cells slots (MQ below (yy_Q A D cl tys w1 (some (.long v))) args s cells slots A) (F0 m pc ls [.long v]) :=
  W.lret hexec hb hr (fun t ht hW => ⟨⟨rfl, by rw [ht]; exact hP, va_K.moved hW.alike hK⟩, hS.F ht⟩) hS.2.2 hdg hlocks
theorem yy_vret (hexec : p.tables.exec = Jvm.exec) (hb : c.code = cc) (hr : meth.sig.returnType = none) (hP : va_P D cl w1 H) (hK : va_K D cl tys s) (hS : va_S A s.heap H locs) (hlocks : meth.locks = false) (hdg : decode cc pc = .ok (.return_, 1)) : W p l e R s m args below meth c H locs cells slots (MQ below (yy_Q A D cl tys w1 none) args s cells slots A) (F0 m pc ls []) :=
  W.vret hexec hb hr (fun t ht hW => ⟨⟨rfl, by rw [ht]; exact hP, va_K.moved hW.alike hK⟩, hS.F ht⟩) hS.2.2 hdg hlocks
end YC
/-! constructors: new cells, at addresses ad -/
def yy_QN (A : Nat → Prop) (D : va_G) (cl : List vw_C) (tys : List (ClassId × FieldType)) (ok : (Nat → Nat) → Prop) (w1 : (Nat → Nat) → va_W) : Array Value → State → Outcome → State → Prop :=
  fun _ st oc t => (∃ ad : Nat → Nat, ok ad ∧ oc = .returned none ∧ va_P D cl (w1 ad) t.heap ∧ va_K D cl tys t ∧ va_D A (w1 ad)) ∧ va_F A st t
def yy_New (l : Launch) (y : MethodName) (ws : List Cond) (rm : Room) (D : va_G) (cl : List vw_C) (tys : List (ClassId × FieldType)) (av : List Value) (w0 : va_W) (ok : (Nat → Nat) → Prop) (w1 : (Nat → Nat) → va_W) (mc ms : Nat) : Prop :=
  ∀ sz : Nat, Met l y ws rm (va_Pc av (yy_Pre D cl tys w0 sz)) (yy_QN (va_A w0 sz) D cl tys ok w1) mc ms (va_A w0 sz)
theorem yy_RA {U : State} {c1 c2 : ClassId} {ty : FieldType} (h1 : va_RA U c1 ty) (h2 : va_RA U c2 ty) : c1 = c2 := by
  cases ty with
  | object C =>
    obtain ⟨_, _, _, _, _, h1⟩ := h1
    obtain ⟨_, _, _, _, _, h2⟩ := h2
    exact Option.some.inj (h1.symm.trans h2)
  | _ => exact Option.some.inj ((show U.vm.findClass _ = some c1 from h1).symm.trans h2)
section YN
variable {p : Program} {l : Launch} {e : Env} {R : Room} {s : State} {m : MethodId} {args : Array Value} {below : List Frame} {meth : Method} {c : Code} {H : Heap} {locs : List Loc} {cells slots : Nat} {Q : State → Prop}
variable {cc : ByteArray} {pc : Nat} {ls : Array Slot} {rest st0 : List Value} {D : va_G} {cl : List vw_C} {A : Nat → Prop} {a : Nat} {tys : List (ClassId × FieldType)} {ws : va_W} {H0 : Heap}
theorem yy_newa (hexec : p.tables.exec = Jvm.exec) (hb : c.code = cc) {atype : ArrayType} (harr : (Cond.arrayClass (newarray.typeOf atype)).before args s = true) {ty : FieldType} (hty : newarray.typeOf atype = ty) (hK : va_K D cl tys s) {t0 : Nat} {cI : ClassId} (ht : tys[t0]? = some (cI, ty)) (hP : va_P D cl ws H) (hD : va_D A ws) (hS : va_S A H0 H locs) (hA : ∀ q : Nat, H0.size ≤ q → A q)
    {n : Int32} {N' : Nat} {a0 : vp_A} (ha : ∀ cA : ClassId, vp_cell cA a0 = arrV cA N' (fun _ => defaultValue ty)) (hn : ¬ n < 0) (hN : n.toNatClampNeg = N') (hbytes : N' * componentBytes ty ≤ 536870912) (hcells : cells + 1 ≤ R.cells) (hslots : slots + N' ≤ R.slots) (hdg : decode cc pc = .ok (.newarray atype, 2))
    (kk : ∀ (q : Nat) (H1 : Heap), va_P D cl (ws ++ [(q, .inl (cI, a0))]) H1 → va_D A (ws ++ [(q, .inl (cI, a0))]) → va_S A H0 H1 locs → W p l e R s m args below meth c H1 locs (cells + 1) (slots + N') Q (F0 m (pc + 2) ls (.ref q :: rest))) : W p l e R s m args below meth c H locs cells slots Q (F0 m pc ls (.int n :: rest)) := by
  refine va_newa hexec hb harr hty hK hP hD hS hA ha hn hN hbytes hcells hslots hdg (fun q cA H1 hK1 hP1 hD1 hS1 => ?_)
  have e1 : cA = cI := yy_RA (hK1.2 tys.length (cA, ty) (by simp)).2 (hK.2 t0 (cI, ty) ht).2
  rw [e1] at hP1 hD1
  exact kk q H1 hP1 hD1 hS1
theorem yy_newq (hexec : p.tables.exec = Jvm.exec) (hb : c.code = cc) {own C : String} {index : Nat} (hown : s.vm.findClass own = some m.cls) (hclink : (Cond.classLink own index C).before args s = true) (hover : va_AO C s) (hK : va_K D cl tys s) {t0 : Nat} {cN : ClassId} (ht : tys[t0]? = some (cN, .object C)) (hP : va_P D cl ws H) (hD : va_D A ws) (hS : va_S A H0 H locs) (hA : ∀ q : Nat, H0.size ≤ q → A q)
    {n : Int32} {N' : Nat} (hn : ¬ n < 0) (hN : n.toNatClampNeg = N') (hbytes : N' * 4 ≤ 536870912) (hcells : cells + 1 ≤ R.cells) (hslots : slots + N' ≤ R.slots) (hdg : decode cc pc = .ok (.anewarray index, 3))
    (kk : ∀ (q : Nat) (H1 : Heap), va_P D cl (ws ++ [(q, .inl (cN, N', .inr (.inr (.inr (.inr (fun _ => none))))))]) H1 → va_D A (ws ++ [(q, .inl (cN, N', .inr (.inr (.inr (.inr (fun _ => none))))))]) → va_S A H0 H1 locs → W p l e R s m args below meth c H1 locs (cells + 1) (slots + N') Q (F0 m (pc + 3) ls (.ref q :: rest))) : W p l e R s m args below meth c H locs cells slots Q (F0 m pc ls (.int n :: rest)) := by
  refine va_newq hexec hb hown hclink hover hK hP hD hS hA hn hN hbytes hcells hslots hdg (fun q cA H1 hK1 hP1 hD1 hS1 => ?_)
  have e1 : cA = cN := yy_RA (hK1.2 tys.length (cA, .object C) (by simp)).2 (hK.2 t0 (cN, .object C) ht).2
  rw [e1] at hP1 hD1
  exact kk q H1 hP1 hD1 hS1
theorem yr_astq (hexec : p.tables.exec = Jvm.exec) (hb : c.code = cc) (hK : va_K D cl tys s) (hP : va_P D cl ws H) (hD : va_D A ws) (hS : va_S A H0 H locs) (q0 t0 qk ci : Nat) {cA : ClassId} {r : vw_C} {n v j : Nat} {vs : List Value} {f : Nat → Option Nat} (ha : ws[q0]? = some (a, .inl (cA, n, .inr (.inr (.inr (.inr f)))))) (ht : tys[t0]? = some (cA, .object r.1)) (hv : ws[qk]? = some (v, .inr (ci, vs))) (hc : cl[ci]? = some r) {i : Int32} (hi : i = nI j) (hj : j < n) (hn : n < 2 ^ 31) (hdg : decode cc pc = .ok (.aastore, 1))
    (kk : ∀ (H1 : Heap) (locs1 : List Loc), va_P D cl (ws.set q0 (a, .inl (cA, n, .inr (.inr (.inr (.inr (va_up f j (some v)))))))) H1 → va_D A (ws.set q0 (a, .inl (cA, n, .inr (.inr (.inr (.inr (va_up f j (some v)))))))) → va_S A H0 H1 locs1 → W p l e R s m args below meth c H1 locs1 cells slots Q (F0 m (pc + 1) ls rest)) : W p l e R s m args below meth c H locs cells slots Q (F0 m pc ls (.ref v :: .int i :: .ref a :: rest)) := by
  subst hi
  have hcl : (nI j).toNatClampNeg = j := nI_clamp (by omega)
  refine va_astq hexec hb hK hP hD hS q0 t0 qk ci ha ht hv hc (vp_in_nI hj hn) hdg ?_
  rw [hcl]
  exact kk
variable {w0 wr wc : va_W} {ok : (Nat → Nat) → Prop} {w1 : (Nat → Nat) → va_W} {mc ms : Nat}
theorem yy_afterN {av : Array Value} (hr : va_Run p l e R s m args below meth c H locs cells slots mc ms (F0 m pc ls st0) rest (yy_QN (va_A w0 H.size) D cl tys ok w1 av) (va_A w0 H.size)) (hP : va_P D cl wc H) (hD : va_D A wc) (hS : va_S A H0 H locs) (hA : ∀ q : Nat, H0.size ≤ q → A q) (isC isR : List Nat) (hC : isC.map (fun i => wc[i]?) = w0.map some) (hR : isR.map (fun i => wc[i]?) = wr.map some) (hn : va_nd isR = true) (hdis : ∀ i ∈ isR, i ∉ isC)
    (kk : ∀ (ad : Nat → Nat) (H1 : Heap) (locs1 : List Loc), ok ad → va_P D cl (wr ++ w1 ad) H1 → va_D A (wr ++ w1 ad) → va_S A H0 H1 locs1 → W p l e R s m args below meth c H1 locs1 (cells + mc) (slots + ms) Q (F0 m (pc + 3) ls rest)) : W p l e R s m args below meth c H locs cells slots Q (F0 m pc ls st0) := by
  intro T hT X
  obtain ⟨v, st₀, t, T', L, h0, X', hL, e1, e2, ⟨⟨ad, hok, hv, hP1, hK1, hD1⟩, hz, hk⟩, st⟩ := hr T hT X
  have hvo : v = none := by injection hv
  subst hvo
  rw [h0] at hz hk
  have hF := va_free (wc := w0) hD hS hA isC hC
  obtain ⟨hP2, hD2⟩ := va_join (wr := wr) (w1 := w1 ad) hP hD isC isR hC hR hn hdis hk hF hP1 hD1
  obtain ⟨t2, a1, b1⟩ := kk ad T'.heap (locs ++ L) hok (by rw [e1]; exact hP2) hD2
    ⟨Nat.le_trans hS.1 (by rw [e1]; exact hz), fun q h1 h2 => by rw [e1, hk q (Nat.lt_of_lt_of_le h1 hS.1) (fun z => h2 (hF q z))]; exact hS.2.1 q h1 h2, fun q hq => by
      rcases List.mem_append.mp hq with h | h
      · exact hS.2.2 q h
      · exact hF _ (hL q h)⟩ T' rfl X'
  exact ⟨t2, st t2 a1, b1⟩
variable {y : MethodName} {bytes : ByteArray} {maxL nL n index : Nat} {wl : List Cond} {rm : Room} {Ts : List Cond} {own host : String} {b : Addr} {As : List Value}
theorem yy_callI (S : CallFix p m c cc nL s args Ts own) (hM : yy_New l y wl rm D cl tys (.ref b :: As) w0 ok w1 mc ms) (cw : CallB R s args own index y bytes maxL none wl rm mc ms n ∧ y.name = "<init>" ∧ (Cond.instanceMethod y).before args s = true) (hK : va_K D cl tys s) (hN : yy_N s) (hP : va_P D cl wc H) (hD : va_D A wc) (hS : va_S A H0 H locs) (hA : ∀ q : Nat, H0.size ≤ q → A q) (isC isR : List Nat) (hC : isC.map (fun i => wc[i]?) = w0.map some) (hnd : va_nd isC = true) (hR : isR.map (fun i => wc[i]?) = wr.map some) (hndR : va_nd isR = true) (hdis : ∀ i ∈ isR, i ∉ isC)
    (hn : As.length = n) (hsize : ls.size = nL) (hstack : st0 = As.reverse ++ .ref b :: rest) (hW : (rest.map fun v => v.category).sum ≤ 8) (hdg : decode cc pc = .ok (.invokespecial index, 3)) (hf : cells + mc ≤ R.cells ∧ slots + ms ≤ R.slots)
    (kk : ∀ (ad : Nat → Nat) (H1 : Heap) (locs1 : List Loc), ok ad → va_P D cl (wr ++ w1 ad) H1 → va_D A (wr ++ w1 ad) → va_S A H0 H1 locs1 → W p l e R s m args below meth c H1 locs1 (cells + mc) (slots + ms) Q (F0 m (pc + 3) ls rest)) : W p l e R s m args below meth c H locs cells slots Q (F0 m pc ls st0) :=
  yy_afterN (va_runI S (hM H.size) cw ⟨yy_blind, yy_pre hK hN hP hD isC hC hnd⟩ rfl hn hsize hstack (lv_room hW) hdg hf) hP hD hS hA isC isR hC hR hndR hdis kk
theorem yy_callIN (S : CallFix p m c cc nL s args Ts own) (hM : yy_New l y wl rm D cl tys (.ref b :: As) w0 ok w1 mc ms) (cw : va_CN R s args own index y host bytes maxL none wl rm mc ms n ∧ y.name = "<init>" ∧ (Cond.instanceMethod y).before args s = true) (hK : va_K D cl tys s) (hN : yy_N s) (hP : va_P D cl wc H) (hD : va_D A wc) (hS : va_S A H0 H locs) (hA : ∀ q : Nat, H0.size ≤ q → A q) (isC isR : List Nat) (hC : isC.map (fun i => wc[i]?) = w0.map some) (hnd : va_nd isC = true) (hR : isR.map (fun i => wc[i]?) = wr.map some) (hndR : va_nd isR = true) (hdis : ∀ i ∈ isR, i ∉ isC)
    (hn : As.length = n) (hsize : ls.size = nL) (hstack : st0 = As.reverse ++ .ref b :: rest) (hW : (rest.map fun v => v.category).sum ≤ 8) (hdg : decode cc pc = .ok (.invokespecial index, 3)) (hf : cells + mc ≤ R.cells ∧ slots + ms ≤ R.slots)
    (kk : ∀ (ad : Nat → Nat) (H1 : Heap) (locs1 : List Loc), ok ad → va_P D cl (wr ++ w1 ad) H1 → va_D A (wr ++ w1 ad) → va_S A H0 H1 locs1 → W p l e R s m args below meth c H1 locs1 (cells + mc) (slots + ms) Q (F0 m (pc + 3) ls rest)) : W p l e R s m args below meth c H locs cells slots Q (F0 m pc ls st0) :=
  yy_afterN (va_runIN S (hM H.size) cw ⟨yy_blind, yy_pre hK hN hP hD isC hC hnd⟩ rfl hn hsize hstack (lv_room hW) hdg hf) hP hD hS hA isC isR hC hR hndR hdis kk
theorem yy_vretN {ad : Nat → Nat} (hexec : p.tables.exec = Jvm.exec) (hb : c.code = cc) (hr : meth.sig.returnType = none) (hok : ok ad) (hP : va_P D cl (w1 ad) H) (hD : va_D A (w1 ad)) (hK : va_K D cl tys s) (hS : va_S A s.heap H locs) (hlocks : meth.locks = false) (hdg : decode cc pc = .ok (.return_, 1)) : W p l e R s m args below meth c H locs cells slots (MQ below (yy_QN A D cl tys ok w1) args s cells slots A) (F0 m pc ls []) :=
  W.vret hexec hb hr (fun t ht hW => ⟨⟨ad, hok, rfl, by rw [ht]; exact hP, va_K.moved hW.alike hK, hD⟩, hS.F ht⟩) hS.2.2 hdg hlocks
end YN
