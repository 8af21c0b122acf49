/-! objects made -/
/-- what a new object may name -/
def VN (kd f1 f2 f3 : Int32) (n : Nat) : Prop := kd = 0 ∨ ((kd = 1 ∨ kd = 2) ∧ (∃ a, a < n ∧ f1 = nI a) ∧ (f2 = -1 ∨ ∃ b, b < n ∧ f2 = nI b) ∧ (f3 = -1 ∨ ∃ c, c < n ∧ f3 = nI c))
theorem st_reachOf_nI {so : SS} {mo : MO} (HO : OBJ so mo) {a : Nat} (ha : a < mo.1) : st_reachOf (nI a) so = yR mo mo.1 (ylshl 1 (nI a)) := by
  have h60 := HO.2.1
  unfold st_reachOf st_isNumber
  simp only [yb]
  rw [HO.1, if_neg (nI_pos (by omega)), if_neg (nI_ge ha (by omega)), if_pos rfl, nI_clamp (by omega)]
  exact HO.2.2.2.2.2.2.2 a ha
theorem st_reachOf_opt {so : SS} {mo : MO} (HO : OBJ so mo) {f : Int32} (h : f = -1 ∨ ∃ b, b < mo.1 ∧ f = nI b) : st_reachOf f so = yR mo mo.1 (if f < 0 then 0 else ylshl 1 f) := by
  have h60 := HO.2.1
  rcases h with h | ⟨b, hb, h⟩
  · subst h
    rw [if_pos (show (-1 : Int32) < 0 by decide), yR_0]
    unfold st_reachOf st_isNumber
    simp only [yb]
    rw [if_pos (show (-1 : Int32) < 0 by decide), if_neg (show ¬ false = true by decide)]
  · subst h
    rw [if_neg (nI_pos (by omega))]
    exact st_reachOf_nI HO hb
theorem yVal_upd {mo : MO} {n x : Nat} {kd f1 f2 f3 : Int32} (hx : x ≠ n) (h : yVal mo x) : yVal (n + 1, upd mo.2.1 n kd, upd mo.2.2.1 n f1, upd mo.2.2.2.1 n f2, upd mo.2.2.2.2 n f3) x := by
  unfold yVal at h ⊢
  dsimp only
  rw [upd_ne _ _ hx, upd_ne _ _ hx, upd_ne _ _ hx, upd_ne _ _ hx]
  exact h
theorem yP_upd {mo : MO} {n x : Nat} {kd f1 f2 f3 : Int32} (hx : x ≠ n) : yP (n + 1, upd mo.2.1 n kd, upd mo.2.2.1 n f1, upd mo.2.2.2.1 n f2, upd mo.2.2.2.2 n f3) x = yP mo x := by
  unfold yP
  simp only [upd_ne _ _ hx]
theorem o_add {so : SS} {mo : MO} {kd f1 f2 f3 : Int32} (HO : OBJ so mo) (h60 : mo.1 < 60) (hV : VN kd f1 f2 f3 mo.1) : ∃ so', st_add kd f1 f2 f3 so = (nI mo.1, so') ∧ OBJ so' (mo.1 + 1, upd mo.2.1 mo.1 kd, upd mo.2.2.1 mo.1 f1, upd mo.2.2.2.1 mo.1 f2, upd mo.2.2.2.2 mo.1 f3) := by
  have hful : st_isFull so = false := by
    unfold st_isFull
    rw [HO.1, if_pos (show nI mo.1 < 60 from nI_lt (b := 60) h60 (by decide))]
  obtain ⟨g1, g2, g3, g4, g5, g6, g7, g8⟩ := HO
  have HO : OBJ so mo := ⟨g1, g2, g3, g4, g5, g6, g7, g8⟩
  have one : ∀ x, x < mo.1 → yR (mo.1 + 1, upd mo.2.1 mo.1 kd, upd mo.2.2.1 mo.1 f1, upd mo.2.2.2.1 mo.1 f2, upd mo.2.2.2.2 mo.1 f3) (mo.1 + 1) (ylshl 1 (nI x)) = yR mo mo.1 (ylshl 1 (nI x)) := by
    intro x hx
    rw [yR, if_neg (show ¬ yx (ylshl 1 (nI x)) mo.1 = true by rw [yx_1 (by omega), decide_eq_false (show ¬ x = mo.1 by omega)]; decide)]
    exact yR_congr mo.1 _ (fun y hy => yP_upd (by omega))
  have new : yR (mo.1 + 1, upd mo.2.1 mo.1 kd, upd mo.2.2.1 mo.1 f1, upd mo.2.2.2.1 mo.1 f2, upd mo.2.2.2.2 mo.1 f3) (mo.1 + 1) (ylshl 1 (nI mo.1)) = ylshl 1 (nI mo.1) ||| yR mo mo.1 (yP (mo.1 + 1, upd mo.2.1 mo.1 kd, upd mo.2.2.1 mo.1 f1, upd mo.2.2.2.1 mo.1 f2, upd mo.2.2.2.2 mo.1 f3) mo.1) := by
    rw [yR, if_pos (show yx (ylshl 1 (nI mo.1)) mo.1 = true by rw [yx_1 (by omega)]; exact decide_eq_true rfl), yR_congr (mo' := mo) mo.1 _ (fun y hy => yP_upd (by omega)), yR_or]
    congr 1
    refine yR_lo mo mo.1 _ (fun i hi => ?_)
    rw [yx_1 (by omega)]
    exact decide_eq_false (by omega)
  have hval : ∀ x, x < mo.1 + 1 → yVal (mo.1 + 1, upd mo.2.1 mo.1 kd, upd mo.2.2.1 mo.1 f1, upd mo.2.2.2.1 mo.1 f2, upd mo.2.2.2.2 mo.1 f3) x := by
    intro x hx
    by_cases hxn : x = mo.1
    · subst hxn
      unfold yVal
      dsimp only
      rw [upd_at, upd_at, upd_at, upd_at]
      exact hV
    · exact yVal_upd hxn (g7 x (by omega))
  by_cases hk : kd = 0
  · refine ⟨(upd so.1 mo.1 kd, upd so.2.1 mo.1 f1, upd so.2.2.1 mo.1 f2, upd so.2.2.2.1 mo.1 f3, vp_updL so.2.2.2.2.1 mo.1 (ylshl 1 (nI mo.1)), mo.1 + 1), ?_, ?_⟩
    · rw [st_add, hful]
      simp only [yb]
      rw [if_neg (show ¬ false = true by decide), if_pos hk, g1]
    · refine ⟨rfl, by show mo.1 + 1 ≤ 60; omega, by show upd so.1 mo.1 kd = upd mo.2.1 mo.1 kd; rw [g3], by show upd so.2.1 mo.1 f1 = upd mo.2.2.1 mo.1 f1; rw [g4], by show upd so.2.2.1 mo.1 f2 = upd mo.2.2.2.1 mo.1 f2; rw [g5], by show upd so.2.2.2.1 mo.1 f3 = upd mo.2.2.2.2 mo.1 f3; rw [g6], hval, ?_⟩
      intro x hx
      have hx : x < mo.1 + 1 := hx
      show vp_updL so.2.2.2.2.1 mo.1 (ylshl 1 (nI mo.1)) x = _
      by_cases hxn : x = mo.1
      · subst hxn
        rw [updL_at, new]
        have e0 : yP (mo.1 + 1, upd mo.2.1 mo.1 kd, upd mo.2.2.1 mo.1 f1, upd mo.2.2.2.1 mo.1 f2, upd mo.2.2.2.2 mo.1 f3) mo.1 = 0 := by
          unfold yP
          dsimp only
          rw [if_pos (show upd mo.2.1 mo.1 kd mo.1 ≤ 0 by rw [upd_at, hk]; decide)]
        rw [e0, yR_0, yx_or0]
      · rw [updL_ne _ _ hxn, one x (by omega)]
        exact g8 x (by omega)
  · rcases hV with hV | ⟨hkd, ⟨a, ha, ea⟩, h2, h3⟩
    · exact absurd hV hk
    · refine ⟨(upd so.1 mo.1 kd, upd so.2.1 mo.1 f1, upd so.2.2.1 mo.1 f2, upd so.2.2.2.1 mo.1 f3, vp_updL so.2.2.2.2.1 mo.1 ((((ylshl 1 (nI mo.1)) ||| st_reachOf f1 so) ||| st_reachOf f2 so) ||| st_reachOf f3 so), mo.1 + 1), ?_, ?_⟩
      · rw [st_add, hful]
        simp only [yb]
        rw [if_neg (show ¬ false = true by decide), if_neg hk, g1]
      · refine ⟨rfl, by show mo.1 + 1 ≤ 60; omega, by show upd so.1 mo.1 kd = upd mo.2.1 mo.1 kd; rw [g3], by show upd so.2.1 mo.1 f1 = upd mo.2.2.1 mo.1 f1; rw [g4], by show upd so.2.2.1 mo.1 f2 = upd mo.2.2.2.1 mo.1 f2; rw [g5], by show upd so.2.2.2.1 mo.1 f3 = upd mo.2.2.2.2 mo.1 f3; rw [g6], hval, ?_⟩
        intro x hx
        have hx : x < mo.1 + 1 := hx
        show vp_updL so.2.2.2.2.1 mo.1 ((((ylshl 1 (nI mo.1)) ||| st_reachOf f1 so) ||| st_reachOf f2 so) ||| st_reachOf f3 so) x = _
        by_cases hxn : x = mo.1
        · subst hxn
          rw [updL_at, new]
          have e0 : yP (mo.1 + 1, upd mo.2.1 mo.1 kd, upd mo.2.2.1 mo.1 f1, upd mo.2.2.2.1 mo.1 f2, upd mo.2.2.2.2 mo.1 f3) mo.1 = ((ylshl 1 f1) ||| (if f2 < 0 then 0 else ylshl 1 f2)) ||| (if f3 < 0 then 0 else ylshl 1 f3) := by
            unfold yP
            dsimp only
            rw [if_neg (show ¬ upd mo.2.1 mo.1 kd mo.1 ≤ 0 by rw [upd_at]; rcases hkd with h | h <;> rw [h] <;> decide)]
            simp only [upd_at]
          rw [e0, yR_or, yR_or, st_reachOf_opt HO h2, st_reachOf_opt HO h3, ea, st_reachOf_nI HO ha, yx_orA, yx_orA, yx_orA]
        · rw [updL_ne _ _ hxn, one x (by omega)]
          exact g8 x (by omega)
theorem find_make {so : SS} {mo : MO} {mn : MN} {k : Nat} {kd f1 f2 f3 : Int32} (HO : OBJ so mo) : ∀ (kk i : Nat), i + kk = mo.1 → (st_find_L3 kd f1 f2 f3 so kk i = -1 ∧ md_make_L3 k kd f1 f2 f3 mo mn kk i = md_make_L3 k kd f1 f2 f3 mo mn 0 mo.1) ∨ (∃ j, j < mo.1 ∧ st_find_L3 kd f1 f2 f3 so kk i = nI j ∧ md_make_L3 k kd f1 f2 f3 mo mn kk i = md_make_L3 k kd f1 f2 f3 mo mn 0 j)
  | 0, i, h => by
    left
    have e : i = mo.1 := by omega
    rw [e]
    exact ⟨rfl, rfl⟩
  | kk + 1, i, h => by
    have ih := find_make (mn := mn) (k := k) (kd := kd) (f1 := f1) (f2 := f2) (f3 := f3) HO kk (i + 1) (by omega)
    obtain ⟨g1, g2, g3, g4, g5, g6, g7, g8⟩ := HO
    have eM : md_make_L3 k kd f1 f2 f3 mo mn (kk + 1) i = if mo.2.1 i = kd then (if mo.2.2.1 i = f1 then (if mo.2.2.2.1 i = f2 then (if mo.2.2.2.2 i = f3 then md_make_L3 k kd f1 f2 f3 mo mn 0 i else md_make_L3 k kd f1 f2 f3 mo mn kk (i + 1)) else md_make_L3 k kd f1 f2 f3 mo mn kk (i + 1)) else md_make_L3 k kd f1 f2 f3 mo mn kk (i + 1)) else md_make_L3 k kd f1 f2 f3 mo mn kk (i + 1) := rfl
    rw [eM, st_find_L3, g3, g4, g5, g6]
    by_cases c1 : mo.2.1 i = kd
    · rw [if_pos c1, if_pos c1]
      by_cases c2 : mo.2.2.1 i = f1
      · rw [if_pos c2, if_pos c2]
        by_cases c3 : mo.2.2.2.1 i = f2
        · rw [if_pos c3, if_pos c3]
          by_cases c4 : mo.2.2.2.2 i = f3
          · rw [if_pos c4, if_pos c4]
            exact Or.inr ⟨i, by omega, rfl, rfl⟩
          · rw [if_neg c4, if_neg c4]
            exact ih
        · rw [if_neg c3, if_neg c3]
          exact ih
      · rw [if_neg c2, if_neg c2]
        exact ih
    · rw [if_neg c1, if_neg c1]
      exact ih
theorem isIn_m1 (x : Int64) : px_isIn x (-1) = false := by
  unfold px_isIn
  rw [if_pos (show (-1 : Int32) < 0 by decide)]
/-- writing an object -/
theorem n_make {so : SS} {mo : MO} {nd : NS} {mn : MN} {k : Nat} {kd f1 f2 f3 : Int32} (HO : OBJ so mo) (H : NOD nd mn k mo.1) (U : UPK nd) (hu : nd.2.2.2.2.2.1 = true) (hV : VN kd f1 f2 f3 mo.1) :
    ∃ (x : Int32) (so' : SS) (nd' : NS) (mo' : MO) (mn' : MN), px_writeObject kd f1 f2 f3 so nd = (x, so', nd') ∧ md_make k kd f1 f2 f3 mo mn = (x, mo', mn') ∧ OBJ so' mo' ∧ NOD nd' mn' k mo'.1 ∧ UPK nd' ∧ (∀ q, q ≠ k → AGR mn mn' q) ∧ mo.1 ≤ mo'.1 ∧ (x < 0 ∨ (nd'.2.2.2.2.2.1 = true ∧ ∃ j, j < mo'.1 ∧ x = nI j)) := by
  have h60 := HO.2.1
  have hfm := find_make (mn := mn) (k := k) (kd := kd) (f1 := f1) (f2 := f2) (f3 := f3) HO mo.1 0 (by omega)
  have hfind : st_find kd f1 f2 f3 so = st_find_L3 kd f1 f2 f3 so mo.1 0 := by
    unfold st_find
    rw [HO.1]
  rw [px_writeObject, hfind, md_make]
  obtain ⟨va, lg, no, se, he, pw, wl⟩ := nd
  obtain ⟨h, rf, dk, fz, nt, sl, nr, nv⟩ := mn
  obtain ⟨hV', hP, hL, e5, e6, hi⟩ := H
  have hP : RP pw wl dk fz k := hP
  have e6 : he = h k := e6
  have hi : yin (h k) mo.1 := hi
  have hu : pw = true := hu
  obtain ⟨b, pw1, wl1, dk1, fz1, c1, c2, hR, hq, ht, hf⟩ := w_write (va := va) (lg := lg) (no := no) (se := se) (he := he) (h := h) (rf := rf) (nt := nt) (sl := sl) (nr := nr) (nv := nv) hP
  have frw : ∀ q, q ≠ k → AGR (h, rf, dk, fz, nt, sl, nr, nv) (h, rf, dk1, fz1, nt, sl, nr, nv) q := fun q h1 => ⟨rfl, fun _ _ => rfl, (hq q h1).1, (hq q h1).2, rfl, rfl, fun _ _ => ⟨rfl, rfl⟩⟩
  have frk : ∀ (z : Int64) q, q ≠ k → AGR (h, rf, dk, fz, nt, sl, nr, nv) (vp_updL h k z, rf, dk1, fz1, nt, sl, nr, nv) q := fun z q h1 => ⟨updL_ne _ _ h1, fun _ _ => rfl, (hq q h1).1, (hq q h1).2, rfl, rfl, fun _ _ => ⟨rfl, rfl⟩⟩
  have nof : b = false → UPK (va, lg, no, se, he, pw1, wl1) := fun hb hp' => by
    have hp' : pw1 = true := hp'
    rw [hf hb] at hp'
    cases hp'
  have m60 : ∀ j, j < 60 → ¬ nI j = 60 := fun j hj hh => absurd ((nI_eq (b := 60) (by omega) (by decide)).mp hh) (by omega)
  rcases hfm with ⟨m1, m2⟩ | ⟨j, hj, m1, m2⟩
  · rw [m1, m2, md_make_L3]
    simp only [yb]
    rw [if_pos trivial]
    by_cases hful : mo.1 = 60
    · have e1 : st_isFull so = true := by
        unfold st_isFull
        rw [HO.1, hful, if_neg (by decide +kernel)]
      rw [if_pos e1, if_pos (show nI mo.1 = 60 by rw [hful]; rfl)]
      refine ⟨-3, _, _, _, _, rfl, rfl, HO, ⟨hV', hP, hL, e5, e6, hi⟩, U, fun q _ => AGR_refl _ q, Nat.le_refl _, Or.inl (by decide)⟩
    · have e1 : st_isFull so = false := by
        unfold st_isFull
        rw [HO.1, if_pos (show nI mo.1 < 60 from nI_lt (b := 60) (by omega) (by decide))]
      rw [if_neg (show ¬ st_isFull so = true by rw [e1]; decide), if_neg (show ¬ px_isIn (nd_heldSet (va, lg, no, se, he, pw, wl)) (-1) = true by rw [isIn_m1]; decide), if_neg (m60 mo.1 (by omega)), if_pos (nI_le (Nat.le_refl _) (by omega)), c1, c2]
      cases b with
      | false =>
        rw [if_neg (show ¬ false = true by decide), if_neg (show ¬ false = true by decide)]
        exact ⟨-2, _, _, _, _, rfl, rfl, HO, ⟨hV', hR, hL, e5, e6, hi⟩, nof rfl, frw, Nat.le_refl _, Or.inl (by decide)⟩
      | true =>
        obtain ⟨so', a1, a2⟩ := o_add HO (by omega) hV
        rw [if_pos rfl, if_pos rfl, a1, if_pos trivial]
        dsimp only
        rw [keep_nI (by omega)]
        dsimp only
        refine ⟨nI mo.1, _, _, _, _, rfl, rfl, a2, ?_, fun _ => U hu, frk _, by show mo.1 ≤ mo.1 + 1; omega, Or.inr ⟨(ht rfl).trans hu, mo.1, by show mo.1 < mo.1 + 1; omega, rfl⟩⟩
        have N1 : NOD (va, lg, no, se, he, pw1, wl1) (h, rf, dk1, fz1, nt, sl, nr, nv) k mo.1 := ⟨hV', hR, hL, e5, e6, hi⟩
        obtain ⟨p1, p2, p3, p4, p5, p6⟩ := NOD_mono (show mo.1 ≤ mo.1 + 1 by omega) N1
        refine ⟨p1, p2, p3, p4, ?_, ?_⟩
        · show he ||| ylshl 1 (nI mo.1) = vp_updL h k (h k ||| ylshl 1 (nI mo.1)) k
          rw [updL_at, e6]
        · show yin (vp_updL h k (h k ||| ylshl 1 (nI mo.1)) k) (mo.1 + 1)
          rw [updL_at]
          exact yin_or p6 (yin_1 (by omega) (by omega))
  · have nm1 : ¬ nI j = -1 := fun hh => by
      have := (pv_m1 (j + 1) (by omega)).mp (by rw [nI_pred]; exact hh)
      omega
    rw [m1, m2, md_make_L3]
    simp only [yb]
    have hC : px_isIn (nd_heldSet (va, lg, no, se, he, pw, wl)) (nI j) = yx he j := px_isIn_nI (by omega)
    have hM : md_has k (nI j) mo (h, rf, dk, fz, nt, sl, nr, nv) = yx he j := by
      rw [md_has_nI hj h60, e6]
    rw [if_neg nm1, if_neg (m60 j (by omega)), if_neg (nI_ge hj (by omega))]
    by_cases hx : yx he j = true
    · rw [if_pos (hC.trans hx), if_pos (hM.trans hx)]
      exact ⟨nI j, _, _, _, _, rfl, rfl, HO, ⟨hV', hP, hL, e5, e6, hi⟩, U, fun q _ => AGR_refl _ q, Nat.le_refl _, Or.inr ⟨hu, j, hj, rfl⟩⟩
    · rw [if_neg (show ¬ px_isIn (nd_heldSet (va, lg, no, se, he, pw, wl)) (nI j) = true by rw [hC]; exact hx), if_neg (show ¬ md_has k (nI j) mo (h, rf, dk, fz, nt, sl, nr, nv) = true by rw [hM]; exact hx), c1, c2]
      cases b with
      | false =>
        rw [if_neg (show ¬ false = true by decide), if_neg (show ¬ false = true by decide)]
        exact ⟨-2, _, _, _, _, rfl, rfl, HO, ⟨hV', hR, hL, e5, e6, hi⟩, nof rfl, frw, Nat.le_refl _, Or.inl (by decide)⟩
      | true =>
        rw [if_pos rfl, if_pos rfl, if_neg (show ¬ nI j = nI mo.1 from fun hh => absurd ((nI_eq (by omega) (by omega)).mp hh) (by omega)), keep_nI (by omega)]
        dsimp only
        refine ⟨nI j, _, _, _, _, rfl, rfl, HO, ⟨hV', hR, hL, e5, ?_, ?_⟩, fun _ => U hu, frk _, Nat.le_refl _, Or.inr ⟨(ht rfl).trans hu, j, hj, rfl⟩⟩
        · show he ||| ylshl 1 (nI j) = vp_updL h k (h k ||| ylshl 1 (nI j)) k
          rw [updL_at, e6]
        · show yin (vp_updL h k (h k ||| ylshl 1 (nI j)) k) mo.1
          rw [updL_at]
          exact yin_or hi (yin_1 hj (by omega))
