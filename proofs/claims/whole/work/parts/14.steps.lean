/-! steps of one node -/
def NOD (nd : NS) (mn : MN) (k n : Nat) : Prop := RV nd.1 mn.2.1 k n ∧ RP nd.2.2.2.2.2.1 nd.2.2.2.2.2.2 mn.2.2.1 mn.2.2.2.1 k ∧ (∃ m, m ≤ 4 ∧ mn.2.2.2.2.1 k % 5 = m ∧ nd.2.2.1 = nI m ∧ ylP nd.2.1 mn.2.2.2.2.2.2.1 mn.2.2.2.2.2.2.2 (4 * k) n 8 m) ∧ nd.2.2.2.1 = mn.2.2.2.2.2.1 k ∧ nd.2.2.2.2.1 = mn.1 k ∧ yin (mn.1 k) n
def UPK (nd : NS) : Prop := nd.2.2.2.2.2.1 = true → nd.2.2.1 = 0 ∧ nd.2.2.2.1 = false
def AGR (a b : MN) (q : Nat) : Prop := b.1 q = a.1 q ∧ (∀ r, r < 8 → b.2.1 (8 * q + r) = a.2.1 (8 * q + r)) ∧ b.2.2.1 q = a.2.2.1 q ∧ b.2.2.2.1 q = a.2.2.2.1 q ∧ b.2.2.2.2.1 q = a.2.2.2.2.1 q ∧ b.2.2.2.2.2.1 q = a.2.2.2.2.2.1 q ∧ (∀ j, j < 4 → b.2.2.2.2.2.2.1 (4 * q + j) = a.2.2.2.2.2.2.1 (4 * q + j) ∧ b.2.2.2.2.2.2.2 (4 * q + j) = a.2.2.2.2.2.2.2 (4 * q + j))
theorem AGR_refl (a : MN) (q : Nat) : AGR a a q := ⟨rfl, fun _ _ => rfl, rfl, rfl, rfl, rfl, fun _ _ => ⟨rfl, rfl⟩⟩
theorem AGR_trans {a b c : MN} {q : Nat} (A : AGR a b q) (B : AGR b c q) : AGR a c q := by
  obtain ⟨a1, a2, a3, a4, a5, a6, a7⟩ := A
  obtain ⟨b1, b2, b3, b4, b5, b6, b7⟩ := B
  exact ⟨b1.trans a1, fun r hr => (b2 r hr).trans (a2 r hr), b3.trans a3, b4.trans a4, b5.trans a5, b6.trans a6, fun j hj => ⟨(b7 j hj).1.trans (a7 j hj).1, (b7 j hj).2.trans (a7 j hj).2⟩⟩
theorem NOD_agr {nd : NS} {a b : MN} {q n : Nat} (A : AGR a b q) (H : NOD nd a q n) : NOD nd b q n := by
  obtain ⟨hV, ⟨hp, f, hf, e1, e2⟩, ⟨m, hm, e3, e4, hL⟩, e5, e6, hi⟩ := H
  obtain ⟨a1, a2, a3, a4, a5, a6, a7⟩ := A
  refine ⟨fun r hr => ?_, ⟨by rw [a3]; exact hp, f, hf, a4.trans e1, e2⟩, ⟨m, hm, by rw [a5]; exact e3, e4, ylP_congr 8 m (fun _ _ => rfl) (fun j hj => ⟨by rw [(a7 j (by omega)).1], (a7 j (by omega)).2⟩) hL⟩, by rw [a6]; exact e5, by rw [a1]; exact e6, by rw [a1]; exact hi⟩
  obtain ⟨v, hv, v1, v2⟩ := hV r hr
  exact ⟨v, hv, (a2 r hr).trans v1, v2⟩
theorem NOD_mono {nd : NS} {mn : MN} {q n n' : Nat} (hn : n ≤ n') (H : NOD nd mn q n) : NOD nd mn q n' := by
  obtain ⟨hV, hP, ⟨m, hm, e3, e4, hL⟩, e5, e6, hi⟩ := H
  refine ⟨fun r hr => ?_, hP, ⟨m, hm, e3, e4, ylP_mono hn 8 m hL⟩, e5, e6, yin_mono hi hn⟩
  obtain ⟨v, hv, v1, v2⟩ := hV r hr
  exact ⟨v, by omega, v1, v2⟩
/-- a step of node k: the same answer, the nodes alike after it, the others untouched -/
def STP (k n : Nat) (x : Bool × NS) (y : Bool × MN) (mn : MN) : Prop := x.1 = y.1 ∧ NOD x.2 y.2 k n ∧ UPK x.2 ∧ (∀ q, q ≠ k → AGR mn y.2 q) ∧ (x.1 = true → x.2.2.2.2.2.2.1 = true)
theorem n_transact {nd : NS} {mn : MN} {mw : MW} {tg : Nat → Int32} {k n : Nat} (hn : n ≤ 60) (H : NOD nd mn k n) (U : UPK nd) (hu : nd.2.2.2.2.2.1 = true) (hW : mw.1 ≤ 4) (hT : ylP tg mw.2.1 mw.2.2 0 n 8 mw.1) : STP k n (nd_transact nd tg) (md_transact k mn mw) mn := by
  obtain ⟨va, lg, no, se, he, pw, wl⟩ := nd
  obtain ⟨h, rf, dk, fz, nt, sl, nr, nv⟩ := mn
  obtain ⟨W, wr, wv⟩ := mw
  obtain ⟨hV, hP, ⟨m, hm, e3, e4, hL⟩, e5, e6, hi⟩ := H
  have hV : RV va rf k n := hV
  have hP : RP pw wl dk fz k := hP
  have hu : pw = true := hu
  have e3 : nt k % 5 = m := e3
  have e4 : no = nI m := e4
  have hL : ylP lg nr nv (4 * k) n 8 m := hL
  have e5 : se = sl k := e5
  have e6 : he = h k := e6
  have hi : yin (h k) n := hi
  have hW : W ≤ 4 := hW
  have hT : ylP tg wr wv 0 n 8 W := hT
  obtain ⟨u1, u2⟩ : no = 0 ∧ se = false := U hu
  have hm0 : m = 0 := (pw_0 m (by omega)).mp (e4.symm.trans u1)
  subst hm0
  subst e4
  have hl2 := ylP_nil' 8 hL
  obtain ⟨b, va', lg', no', se', pw', wl', rf', dk', fz', nt', sl', nr', nv', a1, a2, b1, b2, b3, b4, b6, ⟨⟨m', hm', c1, c2, c3⟩, c4, c5, c6⟩⟩ := w_transact (he := he) (h := h) hn hW hV u2 (e5.symm.trans u2) 8 0 0 0 (by omega) (Nat.le_refl _) (ylP_all hT) lg pw wl dk fz nt nr nv hP (by rw [ylP]) (fun i _ h2 => hl2 i h2) e3
  rw [Nat.sub_zero] at a2
  rw [STP, nd_transact, a1, md_transact]
  dsimp only
  rw [a2]
  refine ⟨rfl, ⟨b1, b2, ⟨m', hm', c1, c2, c3⟩, c4, e6, hi⟩, ?_, ?_, ?_⟩
  · intro hp'
    cases b with
    | true => exact ⟨(c5 rfl).2.1, (c5 rfl).2.2⟩
    | false =>
      have hp' : pw' = true := hp'
      rw [c6 rfl] at hp'
      cases hp'
  · intro q hq
    obtain ⟨x1, x2, x3, x4⟩ := b3 q hq
    refine ⟨rfl, fun r hr => b4 _ (by omega), x1, x2, x3, x4, fun j hj => b6 _ (by omega)⟩
  · intro hb
    have hb : b = true := hb
    exact ((c5 hb).1).trans hu
theorem md_has_nI {k i : Nat} {mo : MO} {mn : MN} (h : i < mo.1) (ho : mo.1 ≤ 60) : md_has k (nI i) mo mn = yx (mn.1 k) i := by
  unfold md_has
  rw [if_neg (nI_pos (by omega)), if_neg (nI_ge h (by omega))]
  cases hx : yx (mn.1 k) i with
  | true => rw [if_pos ((yx_shr_1 _ (by omega)).mpr hx)]
  | false =>
    rw [if_neg (fun hh => by rw [(yx_shr_1 _ (by omega)).mp hh] at hx; cases hx)]
theorem keep_nI {nd : NS} {i : Nat} (h : i < 60) : nd_keep (nI i) nd = (nd.1, nd.2.1, nd.2.2.1, nd.2.2.2.1, nd.2.2.2.2.1 ||| (ylshl 1 (nI i)), nd.2.2.2.2.2.1, nd.2.2.2.2.2.2) := by
  unfold nd_keep
  rw [if_neg (nI_pos (by omega)), if_neg (show ¬ (60 : Int32) ≤ nI i from nI_ge (b := 60) h (by decide))]
theorem missing_skip {mis : Int64} {nd : NS} : ∀ (f i : Nat), i + f ≤ 60 → (∀ j, i ≤ j → yx mis j = false) → nd_writeMissing_L14 f i mis nd = (true, nd)
  | 0, i, _, _ => rfl
  | f + 1, i, h, hz => by
    rw [nd_writeMissing_L14]
    simp only [yb]
    rw [px_isIn_nI (by omega), hz i (Nat.le_refl _), if_neg (by decide)]
    exact missing_skip f (i + 1) (by omega) (fun j hj => hz j (by omega))
theorem w_store {va lg : Nat → Int32} {no : Int32} {se : Bool} {rf : Nat → Int32} {nt : Nat → Nat} {sl : Nat → Bool} {nr : Nat → Nat} {nv : Nat → Int32} {k : Nat} {mo : MO} {mis set : Int64} (ho : mo.1 ≤ 60) (hs : yin set mo.1) : ∀ (kk i : Nat), i + kk = mo.1 → ∀ (he : Int64) (h : Nat → Int64) (pw : Bool) (wl : Int32) (dk : Nat → Bool) (fz : Nat → Int32), he = h k → yin he mo.1 → RP pw wl dk fz k → (∀ j, i ≤ j → yx mis j = (yx set j && !yx he j)) →
    ∃ b he' h' pw' wl' dk' fz', nd_writeMissing_L14 (60 - i) i mis (va, lg, no, se, he, pw, wl) = (b, va, lg, no, se, he', pw', wl') ∧ md_store_L3 k set mo kk i (h, rf, dk, fz, nt, sl, nr, nv) = (b, h', rf, dk', fz', nt, sl, nr, nv) ∧ he' = h' k ∧ yin he' mo.1 ∧ RP pw' wl' dk' fz' k ∧ (∀ q, q ≠ k → h' q = h q ∧ dk' q = dk q ∧ fz' q = fz q) ∧ (b = true → pw' = pw) ∧ (b = false → pw' = false)
  | 0, i, hi, he, h, pw, wl, dk, fz, e, hin, hP, hm => by
    refine ⟨true, he, h, pw, wl, dk, fz, ?_, rfl, e, hin, hP, fun _ _ => ⟨rfl, rfl, rfl⟩, fun _ => rfl, fun hb => (by cases hb)⟩
    refine missing_skip (60 - i) i (by omega) (fun j hj => ?_)
    rw [hm j hj, hs j (by omega)]
    rfl
  | kk + 1, i, hi, he, h, pw, wl, dk, fz, e, hin, hP, hm => by
    have e60 : 60 - i = (60 - (i + 1)) + 1 := by omega
    have hmi := hm i (Nat.le_refl _)
    have hm' : ∀ j, i + 1 ≤ j → yx mis j = (yx set j && !yx he j) := fun j hj => hm j (by omega)
    rw [e60, nd_writeMissing_L14, md_store_L3]
    simp only [yb]
    rw [px_isIn_nI (by omega), hmi, md_has_nI (by omega) ho]
    dsimp only
    by_cases hset : yx set i = true
    · rw [if_pos ((yx_shr_1 set (by omega)).mpr hset)]
      by_cases hhe : yx he i = true
      · rw [if_neg (show ¬ (yx set i && !yx he i) = true by rw [hset, hhe]; decide), if_pos (show yx (h k) i = true by rw [← e]; exact hhe)]
        exact w_store ho hs kk (i + 1) (by omega) he h pw wl dk fz e hin hP hm'
      · have hhe' := (Bool.not_eq_true _).mp hhe
        rw [if_pos (show (yx set i && !yx he i) = true by rw [hset, hhe']; rfl), if_neg (show ¬ yx (h k) i = true by rw [← e]; exact hhe)]
        obtain ⟨b, pw1, wl1, dk1, fz1, c1, c2, hR, hq, ht, hf⟩ := w_write (va := va) (lg := lg) (no := no) (se := se) (he := he) (h := h) (rf := rf) (nt := nt) (sl := sl) (nr := nr) (nv := nv) hP
        rw [c1, c2]
        cases b with
        | false =>
          dsimp only
          rw [if_neg (show ¬ false = true by decide), if_neg (show ¬ false = true by decide)]
          exact ⟨false, he, h, pw1, wl1, dk1, fz1, rfl, rfl, e, hin, hR, fun q h1 => ⟨rfl, (hq q h1).1, (hq q h1).2⟩, fun hb => (by cases hb), hf⟩
        | true =>
          dsimp only
          rw [if_pos rfl, if_pos rfl, keep_nI (by omega)]
          dsimp only
          rw [← e]
          obtain ⟨b, he', h', pw', wl', dk', fz', a1, a2, a3, a4, a5, a6, a7, a8⟩ := w_store (va := va) (lg := lg) (no := no) (se := se) (rf := rf) (nt := nt) (sl := sl) (nr := nr) (nv := nv) (mis := mis) (set := set) ho hs kk (i + 1) (by omega) (he ||| ylshl 1 (nI i)) (vp_updL h k (he ||| ylshl 1 (nI i))) pw1 wl1 dk1 fz1 (updL_at _ _ _).symm (yin_or hin (yin_1 (by omega) (by omega))) hR (fun j hj => by
            rw [hm' j hj, yx_or, yx_1 (by omega), decide_eq_false (show ¬ i = j by omega), Bool.or_false])
          refine ⟨b, he', h', pw', wl', dk', fz', a1, a2, a3, a4, a5, fun q h1 => ?_, fun hb => (a7 hb).trans (ht rfl), a8⟩
          obtain ⟨x1, x2, x3⟩ := a6 q h1
          exact ⟨x1.trans (updL_ne _ _ h1), x2.trans (hq q h1).1, x3.trans (hq q h1).2⟩
    · have hset' := (Bool.not_eq_true _).mp hset
      rw [if_neg (fun hh => hset ((yx_shr_1 set (by omega)).mp hh)), if_neg (show ¬ (yx set i && !yx he i) = true by rw [hset', Bool.false_and]; decide)]
      exact w_store ho hs kk (i + 1) (by omega) he h pw wl dk fz e hin hP hm'
theorem n_store {nd : NS} {mn : MN} {mo : MO} {k : Nat} {set : Int64} (ho : mo.1 ≤ 60) (hs : yin set mo.1) (H : NOD nd mn k mo.1) (U : UPK nd) (hu : nd.2.2.2.2.2.1 = true) : STP k mo.1 (nd_writeMissing set nd) (md_store k set mo mn) mn ∧ (∀ i, (md_store k set mo mn).2.2.1 i = mn.2.1 i) := by
  obtain ⟨va, lg, no, se, he, pw, wl⟩ := nd
  obtain ⟨h, rf, dk, fz, nt, sl, nr, nv⟩ := mn
  obtain ⟨hV, hP, hL, e5, e6, hi⟩ := H
  have hP : RP pw wl dk fz k := hP
  have hu : pw = true := hu
  have e6 : he = h k := e6
  have hi : yin he mo.1 := by rw [e6]; exact hi
  obtain ⟨b, he', h', pw', wl', dk', fz', a1, a2, a3, a4, a5, a6, a7, a8⟩ := w_store (va := va) (lg := lg) (no := no) (se := se) (rf := rf) (nt := nt) (sl := sl) (nr := nr) (nv := nv) (mis := set &&& (he ^^^ (-1))) (set := set) ho hs mo.1 0 (by omega) he h pw wl dk fz e6 hi hP (fun j _ => by
    by_cases hj : j < 64
    · rw [yx_and, yx_not _ hj]
    · rw [yx_and, hs j (by omega)]
      rfl)
  rw [STP, nd_writeMissing, md_store]
  dsimp only
  rw [show (60 : Nat) - 0 = 60 from rfl] at a1
  rw [a1, a2]
  refine ⟨⟨rfl, ⟨hV, a5, hL, e5, a3, ?_⟩, ?_, ?_, ?_⟩, fun _ => rfl⟩
  · show yin (h' k) mo.1
    rw [← a3]
    exact a4
  · intro hp'
    cases b with
    | true => exact U hu
    | false =>
      have hp' : pw' = true := hp'
      rw [a8 rfl] at hp'
      cases hp'
  · intro q hq
    obtain ⟨x1, x2, x3⟩ := a6 q hq
    exact ⟨x1, fun _ _ => rfl, x2, x3, rfl, rfl, fun _ _ => ⟨rfl, rfl⟩⟩
  · intro hb
    exact (a7 hb).trans hu
/-- recover -/
theorem n_recover {nd : NS} {mn : MN} {k n : Nat} (hn : n ≤ 60) (H : NOD nd mn k n) (hd : nd.2.2.2.2.2.1 = false) :
    ∃ (x : Int32) (nd' : NS) (mn' : MN), nd_restore nd = (x, nd') ∧ (if mn.2.2.2.2.2.1 k = true then (yb (md_replay k mn) fun r13 => (if r13.1 = true then ((nI (mn.2.2.2.2.1 k % 5)), (r13.2.1, r13.2.2.1, yupB r13.2.2.2.1 k false, r13.2.2.2.2.1, r13.2.2.2.2.2.1, r13.2.2.2.2.2.2.1, r13.2.2.2.2.2.2.2.1, r13.2.2.2.2.2.2.2.2)) else ((-2), r13.2))) else (if (nI (mn.2.2.2.2.1 k % 5)) = 0 then (0, (mn.1, mn.2.1, yupB mn.2.2.1 k false, mn.2.2.2.1, mn.2.2.2.2.1, mn.2.2.2.2.2.1, mn.2.2.2.2.2.2.1, mn.2.2.2.2.2.2.2)) else (yb (md_wipe k mn) fun r8 => (if r8.1 = true then (0, (r8.2.1, r8.2.2.1, yupB r8.2.2.2.1 k false, r8.2.2.2.2.1, r8.2.2.2.2.2.1, r8.2.2.2.2.2.2.1, r8.2.2.2.2.2.2.2.1, r8.2.2.2.2.2.2.2.2)) else ((-2), r8.2))))) = (x, mn') ∧ NOD nd' mn' k n ∧ UPK nd' ∧ (∀ q, q ≠ k → AGR mn mn' q) := by
  obtain ⟨va, lg, no, se, he, pw, wl⟩ := nd
  obtain ⟨h, rf, dk, fz, nt, sl, nr, nv⟩ := mn
  obtain ⟨hV, hP, ⟨m, hm, e3, e4, hL⟩, e5, e6, hi⟩ := H
  have hV : RV va rf k n := hV
  have hP : RP pw wl dk fz k := hP
  have hd : pw = false := hd
  have e3 : nt k % 5 = m := e3
  have e4 : no = nI m := e4
  have hL : ylP lg nr nv (4 * k) n 8 m := hL
  have e5 : se = sl k := e5
  have e6 : he = h k := e6
  have hi : yin (h k) n := hi
  dsimp only
  have up : ∀ (pw' : Bool) (wl' : Int32) (dk' : Nat → Bool) (fz' : Nat → Int32), RP pw' wl' dk' fz' k → RP true wl' (yupB dk' k false) fz' k := by
    intro pw' wl' dk' fz' hR
    exact ⟨by rw [yupB_at]; rfl, hR.2⟩
  rw [nd_restore]
  dsimp only
  cases hs : se with
  | true =>
    have es : sl k = true := e5.symm.trans hs
    rw [if_pos rfl, if_pos es]
    obtain ⟨b, va', lg', no', se', pw', wl', rf', dk', fz', nt', sl', a1, a2, b1, b2, b3, b4, b5⟩ := w_carry (he := he) (h := h) (no := no) (se := true) (nt := nt) (sl := sl) hn hm 8 0 0 (by omega) (ylP_all hL) va rf pw wl dk fz hV hP
    rw [Nat.sub_zero] at a2
    rw [← e3] at a2
    rw [nd_carryOutLog, md_replay]
    simp only [yb, a1, a2]
    have e5' : true = sl k := hs.symm.trans e5
    have t := PO_PE (nr := nr) (nv := nv) hm e3 e4 hL e5' b5
    obtain ⟨⟨m', hm', c1, c2, c3⟩, c4, c5, c6⟩ := t
    have fr : ∀ q, q ≠ k → AGR (h, rf, dk, fz, nt, sl, nr, nv) (h, rf', dk', fz', nt', sl', nr, nv) q := by
      intro q hq
      obtain ⟨x1, x2, x3, x4⟩ := b3 q hq
      exact ⟨rfl, fun r hr => b4 _ (by omega), x1, x2, x3, x4, fun _ _ => ⟨rfl, rfl⟩⟩
    cases b with
    | true =>
      rw [if_pos rfl, if_pos rfl, show nI (nt k % 5) = no by rw [e3, e4]]
      refine ⟨no, _, _, rfl, rfl, ⟨b1, up _ _ _ _ b2, ⟨m', hm', c1, c2, c3⟩, c4, e6, hi⟩, fun _ => ⟨(c5 rfl).2.1, (c5 rfl).2.2⟩, fun q hq => AGR_trans (fr q hq) ⟨rfl, fun _ _ => rfl, yupB_ne _ _ hq, rfl, rfl, rfl, fun _ _ => ⟨rfl, rfl⟩⟩⟩
    | false =>
      rw [if_neg (by decide), if_neg (by decide)]
      refine ⟨-2, _, _, rfl, rfl, ⟨b1, b2, ⟨m', hm', c1, c2, c3⟩, c4, e6, hi⟩, fun hp' => ?_, fr⟩
      have hp' : pw' = true := hp'
      rw [c6 rfl] at hp'
      cases hp'
  | false =>
    have es : ¬ sl k = true := by
      rw [← e5, hs]
      decide
    rw [if_neg (show ¬ false = true by decide), if_neg es]
    by_cases h0 : m = 0
    · subst h0
      rw [if_pos (show no = 0 from e4), if_pos (show nI (nt k % 5) = 0 by rw [e3]; rfl)]
      refine ⟨0, _, _, rfl, rfl, ⟨hV, up _ _ _ _ hP, ⟨0, by omega, e3, e4, hL⟩, hs.symm.trans e5, e6, hi⟩, fun _ => ⟨e4, rfl⟩, fun q hq => ⟨rfl, fun _ _ => rfl, yupB_ne _ _ hq, rfl, rfl, rfl, fun _ _ => ⟨rfl, rfl⟩⟩⟩
    · have hne : ¬ nI m = 0 := fun hh => h0 ((pw_0 m (by omega)).mp hh)
      rw [if_neg (show ¬ no = 0 by rw [e4]; exact hne), if_neg (show ¬ nI (nt k % 5) = 0 by rw [e3]; exact hne)]
      obtain ⟨b, lg', no', se', pw', wl', dk', fz', nt', sl', a1, a2, b2, b3, b5⟩ := w_wipe (va := va) (lg := lg) (no := no) (se := false) (he := he) (h := h) (rf := rf) (nt := nt) (sl := sl) (nr := nr) (nv := nv) hP
      simp only [yb, a1, a2]
      have e5' : false = sl k := hs.symm.trans e5
      have t := PO_PE (nr := nr) (nv := nv) hm e3 e4 hL e5' b5
      obtain ⟨⟨m', hm', c1, c2, c3⟩, c4, c5, c6⟩ := t
      have fr : ∀ q, q ≠ k → AGR (h, rf, dk, fz, nt, sl, nr, nv) (h, rf, dk', fz', nt', sl', nr, nv) q := by
        intro q hq
        obtain ⟨x1, x2, x3, x4⟩ := b3 q hq
        exact ⟨rfl, fun _ _ => rfl, x1, x2, x3, x4, fun _ _ => ⟨rfl, rfl⟩⟩
      cases b with
      | true =>
        rw [if_pos rfl, if_pos rfl]
        refine ⟨0, _, _, rfl, rfl, ⟨hV, up _ _ _ _ b2, ⟨m', hm', c1, c2, c3⟩, c4, e6, hi⟩, fun _ => ⟨(c5 rfl).2.1, (c5 rfl).2.2⟩, fun q hq => AGR_trans (fr q hq) ⟨rfl, fun _ _ => rfl, yupB_ne _ _ hq, rfl, rfl, rfl, fun _ _ => ⟨rfl, rfl⟩⟩⟩
      | false =>
        rw [if_neg (by decide), if_neg (by decide)]
        refine ⟨-2, _, _, rfl, rfl, ⟨hV, b2, ⟨m', hm', c1, c2, c3⟩, c4, e6, hi⟩, fun hp' => ?_, fr⟩
        have hp' : pw' = true := hp'
        rw [c6 rfl] at hp'
        cases hp'
