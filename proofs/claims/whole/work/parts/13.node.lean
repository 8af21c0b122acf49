/-! a node of the class and the same of the reference -/
theorem pv_m2 : ∀ v, v < 102 → ¬ nI v - 1 = -2 := by decide +kernel
theorem pv_m1 : ∀ v, v < 102 → (nI v - 1 = -1 ↔ v = 0) := by decide +kernel
theorem pv_0 : ∀ v, v < 102 → (nI v - 1 = 0 ↔ v = 1) := by decide +kernel
theorem pv_le : ∀ v, v < 102 → (nI v - 1 ≤ 0 ↔ v ≤ 1) := by decide +kernel
theorem pv_lt : ∀ v, v < 102 → (nI v - 1 < 0 ↔ v = 0) := by decide +kernel
theorem pw_1 : ∀ v, v < 102 → (nI v = 1 ↔ v = 1) := by decide +kernel
theorem pw_0 : ∀ v, v < 102 → (nI v = 0 ↔ v = 0) := by decide +kernel
theorem pw_le : ∀ v, v < 102 → (nI v ≤ 0 ↔ v = 0) := by decide +kernel
theorem pv_inj {v w : Nat} (hv : v < 102) (hw : w < 102) : nI v - 1 = nI w - 1 ↔ v = w := by
  constructor
  · intro h
    cases v with
    | zero =>
      by_cases h0 : w = 0
      · exact h0.symm
      · exact absurd ((pv_m1 w hw).mp (h.symm.trans ((pv_m1 0 hv).mpr rfl))) h0
    | succ a =>
      cases w with
      | zero => exact absurd ((pv_m1 _ hv).mp (h.trans ((pv_m1 0 hw).mpr rfl))) (by omega)
      | succ b =>
        rw [nI_pred, nI_pred] at h
        have := (nI_eq (by omega) (by omega)).mp h
        omega
  · intro h
    rw [h]
theorem upd_at (f : Nat → Int32) (k : Nat) (x : Int32) : upd f k x k = x := by simp [upd]
theorem upd_ne (f : Nat → Int32) {k j : Nat} (x : Int32) (h : j ≠ k) : upd f k x j = f j := by simp [upd, h]
theorem updL_at (f : Nat → Int64) (k : Nat) (x : Int64) : vp_updL f k x k = x := by simp [vp_updL]
theorem updL_ne (f : Nat → Int64) {k j : Nat} (x : Int64) (h : j ≠ k) : vp_updL f k x j = f j := by simp [vp_updL, h]
theorem yupB_at (f : Nat → Bool) (k : Nat) (x : Bool) : yupB f k x k = x := by simp [yupB]
theorem yupB_ne (f : Nat → Bool) {k j : Nat} (x : Bool) (h : j ≠ k) : yupB f k x j = f j := by simp [yupB, h]
theorem yupN_at (f : Nat → Nat) (k : Nat) (x : Nat) : yupN f k x k = x := by simp [yupN]
theorem yupN_ne (f : Nat → Nat) {k j : Nat} (x : Nat) (h : j ≠ k) : yupN f k x j = f j := by simp [yupN, h]
/-- references -/
def RV (va rf : Nat → Int32) (k n : Nat) : Prop := ∀ r, r < 8 → ∃ v, v ≤ n ∧ rf (8 * k + r) = nI v ∧ va r = nI v - 1
/-- power -/
def RP (pw : Bool) (wl : Int32) (dk : Nat → Bool) (fz : Nat → Int32) (k : Nat) : Prop := pw = !dk k ∧ ∃ f, f ≤ 101 ∧ fz k = nI f ∧ wl = nI f - 1
/-- a row of new values and the reference's list of them: the first r references, m of them named -/
def ylP (lg : Nat → Int32) (rf : Nat → Nat) (vl : Nat → Int32) (b n : Nat) : Nat → Nat → Prop
  | 0, m => m = 0
  | r + 1, m => (lg r = -2 ∧ ylP lg rf vl b n r m) ∨ (∃ m' v, m = m' + 1 ∧ v ≤ n ∧ rf (b + m') % 8 = r ∧ vl (b + m') = nI v ∧ lg r = nI v - 1 ∧ ylP lg rf vl b n r m')
/-- the same from r on -/
def ylR (lg : Nat → Int32) (rf : Nat → Nat) (vl : Nat → Int32) (b n M : Nat) : Nat → Nat → Nat → Prop
  | 0, _, j => j = M
  | k + 1, r, j => (lg r = -2 ∧ ylR lg rf vl b n M k (r + 1) j) ∨ (∃ v, v ≤ n ∧ rf (b + j) % 8 = r ∧ vl (b + j) = nI v ∧ lg r = nI v - 1 ∧ ylR lg rf vl b n M k (r + 1) (j + 1))
section LL
variable {lg lg' : Nat → Int32} {rf rf' : Nat → Nat} {vl vl' : Nat → Int32} {b n M : Nat}
theorem ylR_le : ∀ (k r j : Nat), ylR lg rf vl b n M k r j → j ≤ M
  | 0, r, j, h => by
    rw [ylR] at h
    omega
  | k + 1, r, j, h => by
    rw [ylR] at h
    rcases h with ⟨_, h⟩ | ⟨v, _, _, _, _, h⟩
    · exact ylR_le k (r + 1) j h
    · have := ylR_le k (r + 1) (j + 1) h
      omega
theorem ylP_LR : ∀ (k r : Nat), ylP lg rf vl b n (r + k) M → ∃ j, ylP lg rf vl b n r j ∧ ylR lg rf vl b n M k r j
  | 0, r, h => ⟨M, h, by rw [ylR]⟩
  | k + 1, r, h => by
    have h' : ylP lg rf vl b n ((r + 1) + k) M := by
      rw [show r + 1 + k = r + (k + 1) by omega]
      exact h
    obtain ⟨j', hp, hr⟩ := ylP_LR k (r + 1) h'
    rw [ylP] at hp
    rcases hp with ⟨e, hp⟩ | ⟨m', v, e, hv, h1, h2, h3, hp⟩
    · refine ⟨j', hp, ?_⟩
      rw [ylR]
      exact Or.inl ⟨e, hr⟩
    · subst e
      refine ⟨m', hp, ?_⟩
      rw [ylR]
      exact Or.inr ⟨v, hv, h1, h2, h3, hr⟩
theorem ylP_all (h : ylP lg rf vl b n 8 M) : ylR lg rf vl b n M 8 0 0 := by
  obtain ⟨j, h1, h2⟩ := ylP_LR 8 0 h
  rw [ylP] at h1
  subst h1
  exact h2
theorem ylP_nil : ∀ r : Nat, (∀ i, i < r → lg i = -2) → ylP lg rf vl b n r 0
  | 0, _ => by rw [ylP]
  | r + 1, h => by
    rw [ylP]
    exact Or.inl ⟨h r (by omega), ylP_nil r (fun i hi => h i (by omega))⟩
theorem ylP_nil' : ∀ r : Nat, ylP lg rf vl b n r 0 → ∀ i, i < r → lg i = -2
  | 0, _ => fun i hi => absurd hi (by omega)
  | r + 1, h => by
    rw [ylP] at h
    rcases h with ⟨e, h⟩ | ⟨m', v, e, _⟩
    · intro i hi
      rcases Nat.lt_or_eq_of_le (Nat.le_of_lt_succ hi) with h1 | h1
      · exact ylP_nil' r h i h1
      · subst h1
        exact e
    · exact absurd e (by omega)
theorem ylP_pad {r m : Nat} (h : ylP lg rf vl b n r m) : ∀ k : Nat, (∀ i, r ≤ i → i < r + k → lg i = -2) → ylP lg rf vl b n (r + k) m
  | 0, _ => h
  | k + 1, hk => by
    show ylP lg rf vl b n ((r + k) + 1) m
    rw [ylP]
    exact Or.inl ⟨hk (r + k) (by omega) (by omega), ylP_pad h k (fun i h1 h2 => hk i h1 (by omega))⟩
theorem ylP_congr : ∀ (r m : Nat), (∀ i, i < r → lg' i = lg i) → (∀ j, j < m → rf' (b + j) % 8 = rf (b + j) % 8 ∧ vl' (b + j) = vl (b + j)) → ylP lg rf vl b n r m → ylP lg' rf' vl' b n r m
  | 0, m, _, _, h => by
    rw [ylP] at h ⊢
    exact h
  | r + 1, m, h1, h2, h => by
    rw [ylP] at h ⊢
    rcases h with ⟨e, h⟩ | ⟨m', v, e, hv, e1, e2, e3, h⟩
    · exact Or.inl ⟨(h1 r (by omega)).trans e, ylP_congr r m (fun i hi => h1 i (by omega)) h2 h⟩
    · subst e
      exact Or.inr ⟨m', v, rfl, hv, (h2 m' (by omega)).1.trans e1, (h2 m' (by omega)).2.trans e2, (h1 r (by omega)).trans e3, ylP_congr r m' (fun i hi => h1 i (by omega)) (fun j hj => h2 j (by omega)) h⟩
theorem ylP_mono {n' : Nat} (hn : n ≤ n') : ∀ (r m : Nat), ylP lg rf vl b n r m → ylP lg rf vl b n' r m
  | 0, m, h => by
    rw [ylP] at h ⊢
    exact h
  | r + 1, m, h => by
    rw [ylP] at h ⊢
    rcases h with ⟨e, h⟩ | ⟨m', v, e, hv, e1, e2, e3, h⟩
    · exact Or.inl ⟨e, ylP_mono hn r m h⟩
    · exact Or.inr ⟨m', v, e, by omega, e1, e2, e3, ylP_mono hn r m' h⟩
end LL
theorem clr_at : ∀ (k i : Nat) (tg : Nat → Int32) (j : Nat), (i ≤ j ∧ j < i + k) ∨ tg j = -2 → px_clearTargets_L2 k i tg j = -2
  | 0, i, tg, j, h => by
    rw [px_clearTargets_L2]
    rcases h with h | h
    · omega
    · exact h
  | k + 1, i, tg, j, h => by
    rw [px_clearTargets_L2]
    refine clr_at k (i + 1) _ j ?_
    by_cases hj : j = i
    · right
      rw [hj, upd_at]
    · rcases h with h | h
      · left
        omega
      · right
        rw [upd_ne _ _ hj]
        exact h
theorem clr_8 (tg : Nat → Int32) (j : Nat) (h : j < 8) : px_clearTargets tg j = -2 := clr_at 8 0 tg j (Or.inl ⟨Nat.zero_le _, by omega⟩)
theorem empty_L {va : Nat → Int32} {he : Int64} {pw : Bool} {wl : Int32} {se : Bool} {no : Int32} : ∀ (k i : Nat) (lg : Nat → Int32), nd_emptyLog_L11 k i (va, lg, no, se, he, pw, wl) = (true, va, px_clearTargets_L2 k i lg, 0, false, he, pw, wl)
  | 0, i, lg => rfl
  | k + 1, i, lg => by
    rw [nd_emptyLog_L11, px_clearTargets_L2]
    exact empty_L k (i + 1) _
section WW
variable {va lg : Nat → Int32} {no : Int32} {se : Bool} {he : Int64} {pw : Bool} {wl : Int32} {h : Nat → Int64} {rf : Nat → Int32} {dk : Nat → Bool} {fz : Nat → Int32} {nt : Nat → Nat} {sl : Nat → Bool} {nr : Nat → Nat} {nv : Nat → Int32} {k n : Nat}
theorem w_write (H : RP pw wl dk fz k) : ∃ b pw' wl' dk' fz', nd_write (va, lg, no, se, he, pw, wl) = (b, va, lg, no, se, he, pw', wl') ∧ md_write k (h, rf, dk, fz, nt, sl, nr, nv) = (b, h, rf, dk', fz', nt, sl, nr, nv) ∧ RP pw' wl' dk' fz' k ∧ (∀ q, q ≠ k → dk' q = dk q ∧ fz' q = fz q) ∧ (b = true → pw' = pw) ∧ (b = false → pw' = false) := by
  obtain ⟨hp, f, hf, e1, e2⟩ := H
  subst e2
  by_cases h1 : f = 1
  · subst h1
    refine ⟨false, false, -1, yupB dk k true, upd fz k 0, ?_, ?_, ⟨?_, 0, by omega, upd_at _ _ _, by decide +kernel⟩, ?_, ?_, ?_⟩
    · rw [nd_write]
      dsimp only
      rw [if_pos (show nI 1 - 1 = 0 by decide +kernel)]
    · rw [md_write]
      dsimp only
      rw [if_pos (show fz k = 1 by rw [e1]; decide +kernel)]
    · rw [yupB_at]
      rfl
    · intro q hq
      exact ⟨yupB_ne _ _ hq, upd_ne _ _ hq⟩
    · intro hb
      cases hb
    · intro _
      rfl
  · have g1 : ¬ nI f - 1 = 0 := fun hh => h1 ((pv_0 f (by omega)).mp hh)
    have g2 : ¬ fz k = 1 := fun hh => h1 ((pw_1 f (by omega)).mp (e1.symm.trans hh))
    by_cases h0 : f = 0
    · subst h0
      refine ⟨true, pw, nI 0 - 1, dk, upd fz k 0, ?_, ?_, ⟨hp, 0, by omega, upd_at _ _ _, rfl⟩, ?_, fun _ => rfl, ?_⟩
      · rw [nd_write]
        dsimp only
        rw [if_neg g1, if_pos (show nI 0 - 1 ≤ 0 by decide +kernel)]
      · rw [md_write]
        dsimp only
        rw [if_neg g2, if_pos (show fz k ≤ 0 by rw [e1]; decide +kernel)]
      · intro q hq
        exact ⟨rfl, upd_ne _ _ hq⟩
      · intro hb
        cases hb
    · obtain ⟨g, rfl⟩ : ∃ g, f = g + 1 := ⟨f - 1, by omega⟩
      refine ⟨true, pw, nI (g + 1) - 1 - 1, dk, upd fz k (fz k - 1), ?_, ?_, ⟨hp, g, by omega, ?_, ?_⟩, ?_, fun _ => rfl, ?_⟩
      · rw [nd_write]
        dsimp only
        rw [if_neg g1, if_neg (show ¬ nI (g + 1) - 1 ≤ 0 from fun hh => absurd ((pv_le _ (by omega)).mp hh) (by omega))]
      · rw [md_write]
        dsimp only
        rw [if_neg g2, if_neg (show ¬ fz k ≤ 0 from fun hh => by rw [e1] at hh; exact absurd ((pw_le _ (by omega)).mp hh) (by omega))]
      · rw [upd_at, e1, nI_pred]
      · rw [nI_pred]
      · intro q hq
        exact ⟨rfl, upd_ne _ _ hq⟩
      · intro hb
        cases hb
/-- what the end of a log leaves -/
def PO (k : Nat) (b pw : Bool) (lg : Nat → Int32) (no : Int32) (se : Bool) (nt : Nat → Nat) (sl : Nat → Bool) (pw' : Bool) (lg' : Nat → Int32) (no' : Int32) (se' : Bool) (nt' : Nat → Nat) (sl' : Nat → Bool) : Prop := (b = true → pw' = pw ∧ (∀ i, i < 8 → lg' i = -2) ∧ no' = 0 ∧ se' = false ∧ nt' k = 0 ∧ sl' k = false) ∧ (b = false → pw' = false ∧ lg' = lg ∧ no' = no ∧ se' = se ∧ nt' = nt ∧ sl' = sl)
theorem w_wipe (H : RP pw wl dk fz k) : ∃ b lg' no' se' pw' wl' dk' fz' nt' sl', nd_emptyLog (va, lg, no, se, he, pw, wl) = (b, va, lg', no', se', he, pw', wl') ∧ md_wipe k (h, rf, dk, fz, nt, sl, nr, nv) = (b, h, rf, dk', fz', nt', sl', nr, nv) ∧ RP pw' wl' dk' fz' k ∧ (∀ q, q ≠ k → dk' q = dk q ∧ fz' q = fz q ∧ nt' q = nt q ∧ sl' q = sl q) ∧ PO k b pw lg no se nt sl pw' lg' no' se' nt' sl' := by
  obtain ⟨b, pw', wl', dk', fz', e1, e2, hR, hq, ht, hf⟩ := w_write (va := va) (lg := lg) (no := no) (se := se) (he := he) (h := h) (rf := rf) (nt := nt) (sl := sl) (nr := nr) (nv := nv) H
  cases b with
  | true =>
    refine ⟨true, px_clearTargets_L2 8 0 lg, 0, false, pw', wl', dk', fz', yupN nt k 0, yupB sl k false, ?_, ?_, hR, ?_, ?_, ?_⟩
    · rw [nd_emptyLog]
      simp only [yb, e1]
      rw [if_pos trivial]
      exact empty_L 8 0 lg
    · rw [md_wipe]
      simp only [yb, e2]
      rw [if_pos trivial]
    · intro q h1
      exact ⟨(hq q h1).1, (hq q h1).2, yupN_ne _ _ h1, yupB_ne _ _ h1⟩
    · intro _
      exact ⟨ht rfl, fun i hi => clr_8 lg i hi, rfl, rfl, yupN_at _ _ _, yupB_at _ _ _⟩
    · intro hb
      cases hb
  | false =>
    refine ⟨false, lg, no, se, pw', wl', dk', fz', nt, sl, ?_, ?_, hR, ?_, ?_, ?_⟩
    · rw [nd_emptyLog]
      simp only [yb, e1]
      rw [if_neg (by decide)]
    · rw [md_wipe]
      simp only [yb, e2]
      rw [if_neg (by decide)]
    · intro q h1
      exact ⟨(hq q h1).1, (hq q h1).2, rfl, rfl⟩
    · intro hb
      cases hb
    · intro _
      exact ⟨hf rfl, rfl, rfl, rfl, rfl, rfl⟩
theorem w_carry {M : Nat} (hn : n ≤ 60) (hM : M ≤ 4) : ∀ (kk r j : Nat), r + kk = 8 → ylR lg nr nv (4 * k) n M kk r j → ∀ (va rf : Nat → Int32) (pw : Bool) (wl : Int32) (dk : Nat → Bool) (fz : Nat → Int32), RV va rf k n → RP pw wl dk fz k →
    ∃ b va' lg' no' se' pw' wl' rf' dk' fz' nt' sl', nd_carryOutLog_L2 kk r (va, lg, no, se, he, pw, wl) = (b, va', lg', no', se', he, pw', wl') ∧ md_replay_L2 k (M - j) j (h, rf, dk, fz, nt, sl, nr, nv) = (b, h, rf', dk', fz', nt', sl', nr, nv) ∧ RV va' rf' k n ∧ RP pw' wl' dk' fz' k ∧ (∀ q, q ≠ k → dk' q = dk q ∧ fz' q = fz q ∧ nt' q = nt q ∧ sl' q = sl q) ∧ (∀ i, i < 8 * k ∨ 8 * k + 8 ≤ i → rf' i = rf i) ∧ PO k b pw lg no se nt sl pw' lg' no' se' nt' sl'
  | 0, r, j, hr, hL, va, rf, pw, wl, dk, fz, hV, hP => by
    rw [ylR] at hL
    obtain ⟨b, lg', no', se', pw', wl', dk', fz', nt', sl', e1, e2, hR, hq, hO⟩ := w_wipe (va := va) (lg := lg) (no := no) (se := se) (he := he) (h := h) (rf := rf) (nt := nt) (sl := sl) (nr := nr) (nv := nv) hP
    refine ⟨b, va, lg', no', se', pw', wl', rf, dk', fz', nt', sl', ?_, ?_, hV, hR, hq, fun _ _ => rfl, hO⟩
    · rw [nd_carryOutLog_L2]
      simp only [yb, e1]
    · rw [hL, Nat.sub_self, md_replay_L2]
      simp only [yb, e2]
  | kk + 1, r, j, hr, hL, va, rf, pw, wl, dk, fz, hV, hP => by
    rw [ylR] at hL
    rcases hL with ⟨e, hL⟩ | ⟨v, hv, e1, e2, e3, hL⟩
    · obtain ⟨b, va', lg', no', se', pw', wl', rf', dk', fz', nt', sl', a1, a2, rest⟩ := w_carry hn hM kk (r + 1) j (by omega) hL va rf pw wl dk fz hV hP
      refine ⟨b, va', lg', no', se', pw', wl', rf', dk', fz', nt', sl', ?_, a2, rest⟩
      rw [nd_carryOutLog_L2]
      dsimp only
      rw [if_pos e]
      exact a1
    · have hle := ylR_le _ _ _ hL
      have hne : ¬ lg r = -2 := by
        rw [e3]
        exact pv_m2 v (by omega)
      obtain ⟨b, pw1, wl1, dk1, fz1, c1, c2, hR, hq, ht, hf⟩ := w_write (va := va) (lg := lg) (no := no) (se := se) (he := he) (h := h) (rf := rf) (nt := nt) (sl := sl) (nr := nr) (nv := nv) hP
      have eM : M - j = (M - (j + 1)) + 1 := by omega
      cases b with
      | false =>
        refine ⟨false, va, lg, no, se, pw1, wl1, rf, dk1, fz1, nt, sl, ?_, ?_, hV, hR, fun q h1 => ⟨(hq q h1).1, (hq q h1).2, rfl, rfl⟩, fun _ _ => rfl, fun hb => (by cases hb), fun _ => ⟨hf rfl, rfl, rfl, rfl, rfl, rfl⟩⟩
        · rw [nd_carryOutLog_L2]
          dsimp only
          rw [if_neg hne]
          simp only [yb, c1]
          rw [if_neg (by decide)]
        · rw [eM, md_replay_L2]
          simp only [yb, c2]
          rw [if_neg (by decide)]
      | true =>
        have hV1 : RV (upd va r (lg r)) (upd rf (8 * k + r) (nv (4 * k + j))) k n := by
          intro r' h'
          by_cases hr' : r' = r
          · subst hr'
            exact ⟨v, hv, by rw [upd_at, e2], by rw [upd_at, e3]⟩
          · obtain ⟨u, hu, a1, a2⟩ := hV r' h'
            exact ⟨u, hu, by rw [upd_ne _ _ (by omega)]; exact a1, by rw [upd_ne _ _ hr']; exact a2⟩
        obtain ⟨b, va', lg', no', se', pw', wl', rf', dk', fz', nt', sl', a1, a2, b1, b2, b3, b4, b5⟩ := w_carry hn hM kk (r + 1) (j + 1) (by omega) hL (upd va r (lg r)) (upd rf (8 * k + r) (nv (4 * k + j))) pw1 wl1 dk1 fz1 hV1 hR
        refine ⟨b, va', lg', no', se', pw', wl', rf', dk', fz', nt', sl', ?_, ?_, b1, b2, ?_, ?_, ?_⟩
        · rw [nd_carryOutLog_L2]
          dsimp only
          rw [if_neg hne]
          simp only [yb, c1]
          rw [if_pos trivial]
          exact a1
        · rw [eM, md_replay_L2]
          simp only [yb, c2]
          rw [if_pos trivial, e1]
          exact a2
        · intro q h1
          obtain ⟨x1, x2, x3, x4⟩ := b3 q h1
          exact ⟨x1.trans (hq q h1).1, x2.trans (hq q h1).2, x3, x4⟩
        · intro i hi
          rw [b4 i hi, upd_ne _ _ (by omega)]
        · rw [ht rfl] at b5
          exact b5
/-- the end of a transaction: power, log, seal -/
def PE (k n : Nat) (b pw : Bool) (pw' : Bool) (lg' : Nat → Int32) (no' : Int32) (se' : Bool) (nt' : Nat → Nat) (sl' : Nat → Bool) (nr' : Nat → Nat) (nv' : Nat → Int32) : Prop := (∃ m, m ≤ 4 ∧ nt' k % 5 = m ∧ no' = nI m ∧ ylP lg' nr' nv' (4 * k) n 8 m) ∧ se' = sl' k ∧ (b = true → pw' = pw ∧ no' = 0 ∧ se' = false) ∧ (b = false → pw' = false)
theorem PO_PE {b : Bool} {m : Nat} {pw' : Bool} {lg' : Nat → Int32} {no' : Int32} {se' : Bool} {nt' : Nat → Nat} {sl' : Nat → Bool} (hm : m ≤ 4) (e1 : nt k % 5 = m) (e2 : no = nI m) (hL : ylP lg nr nv (4 * k) n 8 m) (e3 : se = sl k) (H : PO k b pw lg no se nt sl pw' lg' no' se' nt' sl') : PE k n b pw pw' lg' no' se' nt' sl' nr nv := by
  cases b with
  | true =>
    obtain ⟨a1, a2, a3, a4, a5, a6⟩ := H.1 rfl
    exact ⟨⟨0, by omega, by rw [a5], a3, ylP_nil 8 a2⟩, a4.trans a6.symm, fun _ => ⟨a1, a3, a4⟩, fun hb => (by cases hb)⟩
  | false =>
    obtain ⟨a1, a2, a3, a4, a5, a6⟩ := H.2 rfl
    subst a2
    subst a3
    subst a4
    subst a5
    subst a6
    exact ⟨⟨m, hm, e1, e2, hL⟩, e3, fun hb => (by cases hb), fun _ => a1⟩
end WW
theorem w_transact {va : Nat → Int32} {he : Int64} {h : Nat → Int64} {k n W : Nat} {tg : Nat → Int32} {wr : Nat → Nat} {wv : Nat → Int32} {rf : Nat → Int32} {se : Bool} {sl : Nat → Bool} (hn : n ≤ 60) (hW : W ≤ 4) (hV : RV va rf k n) (hse : se = false) (hsl : sl k = false) : ∀ (kk r j mm : Nat), r + kk = 8 → mm ≤ j → ylR tg wr wv 0 n W kk r j → ∀ (lg : Nat → Int32) (pw : Bool) (wl : Int32) (dk : Nat → Bool) (fz : Nat → Int32) (nt nr : Nat → Nat) (nv : Nat → Int32), RP pw wl dk fz k → ylP lg nr nv (4 * k) n r mm → (∀ i, r ≤ i → i < 8 → lg i = -2) → nt k % 5 = mm →
    ∃ b va' lg' no' se' pw' wl' rf' dk' fz' nt' sl' nr' nv', nd_transact_L2 tg kk r (va, lg, nI mm, se, he, pw, wl) = (b, va', lg', no', se', he, pw', wl') ∧ md_transact_L4 k (W, wr, wv) (W - j) j mm (h, rf, dk, fz, nt, sl, nr, nv) = (b, h, rf', dk', fz', nt', sl', nr', nv') ∧ RV va' rf' k n ∧ RP pw' wl' dk' fz' k ∧ (∀ q, q ≠ k → dk' q = dk q ∧ fz' q = fz q ∧ nt' q = nt q ∧ sl' q = sl q) ∧ (∀ i, i < 8 * k ∨ 8 * k + 8 ≤ i → rf' i = rf i) ∧ (∀ i, i < 4 * k ∨ 4 * k + 4 ≤ i → nr' i = nr i ∧ nv' i = nv i) ∧ PE k n b pw pw' lg' no' se' nt' sl' nr' nv'
  | 0, r, j, mm, hr, hmj, hT, lg, pw, wl, dk, fz, nt, nr, nv, hP, hL, hl2, hnt => by
    have er : r = 8 := by omega
    subst er
    rw [ylR] at hT
    have hm4 : mm ≤ 4 := by omega
    by_cases h0 : mm = 0
    · subst h0
      refine ⟨true, va, lg, nI 0, se, pw, wl, rf, dk, fz, nt, sl, nr, nv, ?_, ?_, hV, hP, fun _ _ => ⟨rfl, rfl, rfl, rfl⟩, fun _ _ => rfl, fun _ _ => ⟨rfl, rfl⟩, ⟨0, by omega, hnt, rfl, hL⟩, hse.trans hsl.symm, fun _ => ⟨rfl, rfl, hse⟩, fun hb => (by cases hb)⟩
      · rw [nd_transact_L2]
        dsimp only
        rw [if_pos (show nI 0 = 0 from rfl)]
      · rw [hT, Nat.sub_self, md_transact_L4]
        rw [if_pos (show nI 0 = 0 from rfl)]
    · have hne : ¬ nI mm = 0 := fun hh => h0 ((pw_0 mm (by omega)).mp hh)
      obtain ⟨b, pw1, wl1, dk1, fz1, c1, c2, hR, hq, ht, hf⟩ := w_write (va := va) (lg := lg) (no := nI mm) (se := se) (he := he) (h := h) (rf := rf) (nt := nt) (sl := sl) (nr := nr) (nv := nv) hP
      cases b with
      | false =>
        refine ⟨false, va, lg, nI mm, se, pw1, wl1, rf, dk1, fz1, nt, sl, nr, nv, ?_, ?_, hV, hR, fun q h1 => ⟨(hq q h1).1, (hq q h1).2, rfl, rfl⟩, fun _ _ => rfl, fun _ _ => ⟨rfl, rfl⟩, ⟨mm, hm4, hnt, rfl, hL⟩, hse.trans hsl.symm, fun hb => (by cases hb), hf⟩
        · rw [nd_transact_L2]
          dsimp only
          rw [if_neg hne]
          simp only [yb, c1]
          rw [if_neg (by decide)]
        · rw [hT, Nat.sub_self, md_transact_L4, if_neg hne]
          simp only [yb, c2]
          rw [if_neg (by decide)]
      | true =>
        obtain ⟨b, va', lg', no', se', pw', wl', rf', dk', fz', nt', sl', a1, a2, b1, b2, b3, b4, b5⟩ := w_carry (he := he) (h := h) (no := nI mm) (se := true) (nt := nt) (sl := yupB sl k true) hn hm4 8 0 0 (by omega) (ylP_all hL) va rf pw1 wl1 dk1 fz1 hV hR
        refine ⟨b, va', lg', no', se', pw', wl', rf', dk', fz', nt', sl', nr, nv, ?_, ?_, b1, b2, ?_, b4, fun _ _ => ⟨rfl, rfl⟩, ?_⟩
        · rw [nd_transact_L2]
          dsimp only
          rw [if_neg hne]
          simp only [yb, c1]
          rw [if_pos trivial, nd_carryOutLog, a1]
        · rw [hT, Nat.sub_self, md_transact_L4, if_neg hne]
          simp only [yb, c2]
          rw [if_pos trivial, md_replay]
          dsimp only
          rw [hnt]
          rw [Nat.sub_zero] at a2
          rw [a2]
        · intro q h1
          obtain ⟨x1, x2, x3, x4⟩ := b3 q h1
          exact ⟨x1.trans (hq q h1).1, x2.trans (hq q h1).2, x3, x4.trans (yupB_ne _ _ h1)⟩
        · have t := PO_PE (nr := nr) (nv := nv) hm4 hnt rfl hL (show true = yupB sl k true k from (yupB_at _ _ _).symm) b5
          rw [ht rfl] at t
          exact t
  | kk + 1, r, j, mm, hr, hmj, hT, lg, pw, wl, dk, fz, nt, nr, nv, hP, hL, hl2, hnt => by
    rw [ylR] at hT
    have hL1 : ylP lg nr nv (4 * k) n (r + 1) mm := by
      rw [ylP]
      exact Or.inl ⟨hl2 r (by omega) (by omega), hL⟩
    have hL8 : ylP lg nr nv (4 * k) n 8 mm := by
      have t := ylP_pad hL (kk + 1) (fun i h1 h2 => hl2 i h1 (by omega))
      rw [hr] at t
      exact t
    rcases hT with ⟨e, hT⟩ | ⟨v, hv, e1, e2, e3, hT⟩
    · obtain ⟨b, va', lg', no', se', pw', wl', rf', dk', fz', nt', sl', nr', nv', a1, a2, rest⟩ := w_transact (he := he) (h := h) hn hW hV hse hsl kk (r + 1) j mm (by omega) hmj hT lg pw wl dk fz nt nr nv hP hL1 (fun i h1 h2 => hl2 i (by omega) h2) hnt
      refine ⟨b, va', lg', no', se', pw', wl', rf', dk', fz', nt', sl', nr', nv', ?_, a2, rest⟩
      rw [nd_transact_L2, if_pos e]
      exact a1
    · have hle := ylR_le _ _ _ hT
      rw [Nat.zero_add] at e1 e2
      have hne : ¬ tg r = -2 := by
        rw [e3]
        exact pv_m2 v (by omega)
      have eW : W - j = (W - (j + 1)) + 1 := by omega
      obtain ⟨u, hu, u1, u2⟩ := hV r (by omega)
      have hm4 : mm + 1 ≤ 4 := by omega
      by_cases huv : u = v
      · obtain ⟨b, va', lg', no', se', pw', wl', rf', dk', fz', nt', sl', nr', nv', a1, a2, rest⟩ := w_transact (he := he) (h := h) hn hW hV hse hsl kk (r + 1) (j + 1) mm (by omega) (by omega) hT lg pw wl dk fz nt nr nv hP hL1 (fun i h1 h2 => hl2 i (by omega) h2) hnt
        refine ⟨b, va', lg', no', se', pw', wl', rf', dk', fz', nt', sl', nr', nv', ?_, ?_, rest⟩
        · rw [nd_transact_L2, if_neg hne]
          dsimp only
          rw [if_pos (show tg r = va r by rw [e3, u2, huv])]
          exact a1
        · rw [eW, md_transact_L4]
          dsimp only
          rw [if_pos (show rf (8 * k + wr j % 8) = wv j by rw [e1, u1, e2, huv])]
          exact a2
      · have n1 : ¬ tg r = va r := by
          rw [e3, u2]
          exact fun hh => huv ((pv_inj (by omega) (by omega)).mp hh).symm
        have n2 : ¬ rf (8 * k + wr j % 8) = wv j := by
          rw [e1, u1, e2]
          exact fun hh => huv ((nI_eq (by omega) (by omega)).mp hh)
        obtain ⟨b, pw1, wl1, dk1, fz1, c1, c2, hR, hq, ht, hf⟩ := w_write (va := va) (lg := lg) (no := nI mm) (se := se) (he := he) (h := h) (rf := rf) (nt := nt) (sl := sl) (nr := nr) (nv := nv) hP
        cases b with
        | false =>
          refine ⟨false, va, lg, nI mm, se, pw1, wl1, rf, dk1, fz1, nt, sl, nr, nv, ?_, ?_, hV, hR, fun q h1 => ⟨(hq q h1).1, (hq q h1).2, rfl, rfl⟩, fun _ _ => rfl, fun _ _ => ⟨rfl, rfl⟩, ⟨mm, by omega, hnt, rfl, hL8⟩, hse.trans hsl.symm, fun hb => (by cases hb), hf⟩
          · rw [nd_transact_L2, if_neg hne]
            dsimp only
            rw [if_neg n1]
            simp only [yb, c1]
            rw [if_neg (by decide)]
          · rw [eW, md_transact_L4]
            dsimp only
            rw [if_neg n2]
            simp only [yb, c2]
            rw [if_neg (by decide)]
        | true =>
          have hL2 : ylP (upd lg r (tg r)) (yupN nr (4 * k + mm) (wr j % 8)) (upd nv (4 * k + mm) (wv j)) (4 * k) n (r + 1) (mm + 1) := by
            rw [ylP]
            refine Or.inr ⟨mm, v, rfl, hv, ?_, ?_, ?_, ?_⟩
            · rw [yupN_at]
              omega
            · rw [upd_at, e2]
            · rw [upd_at, e3]
            · refine ylP_congr r mm (fun i hi => upd_ne _ _ (by omega)) (fun q hq' => ⟨?_, upd_ne _ _ (by omega)⟩) hL
              rw [yupN_ne _ _ (by omega)]
          obtain ⟨b, va', lg', no', se', pw', wl', rf', dk', fz', nt', sl', nr', nv', a1, a2, b1, b2, b3, b4, b6, b5⟩ := w_transact (he := he) (h := h) hn hW hV hse hsl kk (r + 1) (j + 1) (mm + 1) (by omega) (by omega) hT (upd lg r (tg r)) pw1 wl1 dk1 fz1 (yupN nt k (mm + 1)) (yupN nr (4 * k + mm) (wr j % 8)) (upd nv (4 * k + mm) (wv j)) hR hL2 (fun i h1 h2 => by rw [upd_ne _ _ (by omega)]; exact hl2 i (by omega) h2) (by rw [yupN_at]; omega)
          refine ⟨b, va', lg', no', se', pw', wl', rf', dk', fz', nt', sl', nr', nv', ?_, ?_, b1, b2, ?_, b4, ?_, ?_⟩
          · rw [nd_transact_L2, if_neg hne]
            dsimp only
            rw [if_neg n1]
            simp only [yb, c1]
            rw [if_pos trivial, nI_1]
            exact a1
          · rw [eW, md_transact_L4]
            dsimp only
            rw [if_neg n2]
            simp only [yb, c2]
            rw [if_pos trivial]
            exact a2
          · intro q h1
            obtain ⟨x1, x2, x3, x4⟩ := b3 q h1
            exact ⟨x1.trans (hq q h1).1, x2.trans (hq q h1).2, x3.trans (yupN_ne _ _ h1), x4⟩
          · intro i hi
            obtain ⟨x1, x2⟩ := b6 i hi
            exact ⟨x1.trans (yupN_ne _ _ (by omega)), x2.trans (upd_ne _ _ (by omega))⟩
          · rw [ht rfl] at b5
            exact b5
