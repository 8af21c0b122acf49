/-! facts of the pure functions that the walks need -/
theorem px_isNode_nat {x : Int32} {r : Bool} (e : r = px_isNode x) (h : r = true) : ∃ k : Nat, x.toNatClampNeg = k ∧ k < 3 ∧ x = nI k := by
  subst e
  unfold px_isNode at h
  split at h
  · cases h
  · split at h
    · cases h
    · exact yy_nat (yy_in ‹_› ‹_› rfl) (by decide)
theorem px_isClient_nat {x : Int32} {r : Bool} (e : r = px_isClient x) (h : r = true) : ∃ k : Nat, x.toNatClampNeg = k ∧ k < 3 ∧ x = nI k := by
  subst e
  unfold px_isClient at h
  simp only [yb] at h
  split at h
  · exact px_isNode_nat rfl ‹_›
  · cases h
theorem px_isClient_ne {k : Nat} {r : Bool} (e : r = px_isClient (nI k)) (h : r = true) : k ≠ 0 := by
  intro hk
  subst hk
  subst e
  exact absurd h (by decide)
theorem px_isOwn_nat {x : Int32} {r : Bool} (e : r = px_isOwnReference x) (h : r = true) : ∃ k : Nat, x.toNatClampNeg = k ∧ k < 4 ∧ x = nI k := by
  subst e
  unfold px_isOwnReference at h
  split at h
  · cases h
  · split at h
    · cases h
    · exact yy_nat (yy_in ‹_› ‹_› rfl) (by decide)
theorem px_isOwn_in {x : Int32} {r : Bool} (e : r = px_isOwnReference x) (h : r = true) : vp_in x 4 := by
  obtain ⟨k, -, h2, rfl⟩ := px_isOwn_nat e h
  exact vp_in_nI h2 (by decide)
theorem md_isNode_nat {x : Int32} {r : Bool} (e : r = md_isNode x) (h : r = true) : ∃ k : Nat, x.toNatClampNeg = k ∧ k < 3 ∧ x = nI k := by
  subst e
  unfold md_isNode at h
  split at h
  · cases h
  · split at h
    · cases h
    · next h0 h2 =>
      refine yy_nat ?_ (by decide)
      rw [vp_in_iff]
      rw [yy_lti] at h0 h2
      have e0 : (0 : Int32).toInt = 0 := rfl
      have e2 : (2 : Int32).toInt = 2 := rfl
      omega
theorem st_isNumber_in {x : Int32} {so : SS} {r : Bool} (e : r = st_isNumber x so) (h : r = true) (hs : so.2.2.2.2.2 ≤ 60) : vp_in x 60 := by
  subst e
  unfold st_isNumber at h
  split at h
  · cases h
  · split at h
    · cases h
    · exact yy_in5 ‹_› ‹_› hs (by decide)
theorem st_isFull_lt {so : SS} {r : Bool} (e : r = st_isFull so) (h : r = false) (hs : so.2.2.2.2.2 ≤ 60) : so.2.2.2.2.2 < 60 := by
  subst e
  unfold st_isFull at h
  split at h
  · next h1 =>
    rw [yy_lti, nI_toInt (by omega)] at h1
    have e6 : (60 : Int32).toInt = 60 := rfl
    omega
  · cases h
theorem pk_isPlace_in {x : Int32} {pk : PS} {r : Bool} (e : r = pk_isPlace x pk) (h : r = true) (hp : pk.2.2.2.2.1 ≤ 60) : vp_in x 60 := by
  subst e
  unfold pk_isPlace at h
  split at h
  · cases h
  · split at h
    · cases h
    · exact yy_in5 ‹_› ‹_› hp (by decide)
theorem md_has_in {nk : Nat} {x : Int32} {mo : MO} {mn : MN} {r : Bool} (e : r = md_has nk x mo mn) (h : r = true) (ho : mo.1 ≤ 60) : vp_in x 60 := by
  subst e
  unfold md_has at h
  split at h
  · cases h
  · split at h
    · cases h
    · exact yy_in5 ‹_› ‹_› ho (by decide)
theorem md_write_noted (nk : Nat) (mn : MN) : (md_write nk mn).2.2.2.2.2.1 = mn.2.2.2.2.1 := by
  unfold md_write
  split
  · rfl
  · split <;> rfl
theorem md_replay_hi {nk i k : Nat} {mn : MN} {r : Bool × MN} (e : r = md_write nk mn) (hi : i + (k + 1) = mn.2.2.2.2.1 nk % 5) : i + 1 + k = r.2.2.2.2.2.1 nk % 5 := by
  subst e
  rw [md_write_noted]
  omega
theorem yy_lt60' {s : Nat} (h : ¬ (60 : Int32) ≤ nI s) (hs : s ≤ 60) : s < 60 := by
  rcases Nat.lt_or_eq_of_le hs with h1 | h1
  · exact h1
  · subst h1
    exact absurd (by decide +kernel) h
theorem md_wish_le {r : MW} {a : Nat} {v : Int32} {mw : MW} {N : Nat} (e : r = md_wish a v mw) (h : mw.1 + 1 ≤ N) : r.1 ≤ N := by
  subst e
  exact h
theorem pk_chooseBase_L_size {pl : Nat} {so : SS} : ∀ (q : Nat) (least content : Int32) (pk : PS), (pk_chooseBase_L20 pl so q least content pk).2.2.2.2.2.1 = pk.2.2.2.2.1
  | 0, least, content, pk => rfl
  | q + 1, least, content, pk => by
    rw [pk_chooseBase_L20]
    simp only [yb]
    split
    · rfl
    · split
      · split
        · exact pk_chooseBase_L_size q _ _ _
        · split
          · exact pk_chooseBase_L_size q _ _ _
          · exact pk_chooseBase_L_size q _ _ _
      · exact pk_chooseBase_L_size q _ _ _
theorem pk_placeKind_L_le {kd : Int32} {so : SS} : ∀ (x : Nat) (pk : PS), pk.2.2.2.2.1 ≤ 60 → (pk_placeKind_L3 kd so x pk).2.2.2.2.1 ≤ 60
  | 0, pk, h => h
  | x + 1, pk, h => by
    rw [pk_placeKind_L3]
    simp only [yb]
    split
    · exact h
    · rename_i h1
      have h2 := yy_lt60' h1 h
      split
      · split
        · split
          · exact pk_placeKind_L_le x _ h2
          · exact pk_placeKind_L_le x _ h2
        · exact pk_placeKind_L_le x _ h
      · exact pk_placeKind_L_le x _ h
theorem pk_placeKind_le {kd : Int32} {so : SS} {pk r : PS} (e : r = pk_placeKind kd pk so) (h : pk.2.2.2.2.1 ≤ 60) : r.2.2.2.2.1 ≤ 60 := by
  subst e
  exact pk_placeKind_L_le 60 pk h
/-! there is room in the pack: each object is placed once -/
def kcnt (kd : Nat → Int32) (q : Nat) : Nat → Nat
  | 0 => 0
  | y + 1 => kcnt kd q y + (if kd y = nI q then 1 else 0)
def ybel (mo : MO) : Nat → Nat
  | 0 => 0
  | q + 1 => ybel mo q + kcnt mo.2.1 q mo.1
def yc7 (mo : MO) (q s : Nat) : Prop := s + ybel mo q ≤ 60
def yc19 (mo : MO) (q x s : Nat) : Prop := s + kcnt mo.2.1 q x + ybel mo q ≤ 60
theorem kcnt3 (kd : Nat → Int32) : ∀ n : Nat, kcnt kd 0 n + kcnt kd 1 n + kcnt kd 2 n ≤ n
  | 0 => Nat.le_refl _
  | y + 1 => by
    have h := kcnt3 kd y
    rw [kcnt, kcnt, kcnt]
    by_cases h0 : kd y = nI 0
    · rw [if_pos h0, if_neg (show ¬ kd y = nI 1 by rw [h0]; decide +kernel), if_neg (show ¬ kd y = nI 2 by rw [h0]; decide +kernel)]
      omega
    · rw [if_neg h0]
      by_cases h1 : kd y = nI 1
      · rw [if_pos h1, if_neg (show ¬ kd y = nI 2 by rw [h1]; decide +kernel)]
        omega
      · rw [if_neg h1]
        split <;> omega
theorem yc7_0 {mo : MO} (ho : mo.1 ≤ 60) : yc7 mo 3 0 := by
  have h := kcnt3 mo.2.1 mo.1
  unfold yc7
  simp only [ybel]
  omega
theorem yc7_19 {mo : MO} {q s : Nat} (h : yc7 mo (q + 1) s) : yc19 mo q mo.1 s := by
  unfold yc7 at h
  unfold yc19
  rw [ybel] at h
  omega
theorem yc19_7 {mo : MO} {q s : Nat} (h : yc19 mo q 0 s) : yc7 mo q s := by
  unfold yc19 at h
  unfold yc7
  rw [kcnt] at h
  omega
theorem yc19_s {mo : MO} {q x s : Nat} (h : yc19 mo q (x + 1) s) : yc19 mo q x s := by
  unfold yc19 at h ⊢
  rw [kcnt] at h
  omega
theorem yc19_p {mo : MO} {q x s : Nat} (h : yc19 mo q (x + 1) s) (hk : mo.2.1 x = nI q) : s < 60 ∧ yc19 mo q x (s + 1) := by
  unfold yc19 at h ⊢
  rw [kcnt, if_pos hk] at h
  omega
theorem place142 {x q : Nat} {mo : MO} {mp : MP} {K : Int32 → MP} : ∀ (k i : Nat) (w : Int32), ∃ w', md_place_L142 x q mo mp K k i w = K w'
  | 0, i, w => ⟨w, rfl⟩
  | k + 1, i, w => by
    rw [md_place_L142]
    split
    · exact place142 k (i + 1) _
    · exact place142 k (i + 1) _
theorem place92 {x : Nat} {mo : MO} : ∀ (q pp : Nat) (mp : MP), (md_place_L92 x mo q pp mp).1 = mp.1
  | 0, pp, mp => rfl
  | q + 1, pp, mp => by
    rw [md_place_L92]
    split
    · rfl
    · split
      · split
        · split
          · exact place92 q pp mp
          · obtain ⟨w', e⟩ := place142 (x := x) (q := q) (mo := mo) (mp := mp) (K := fun w => (if (mp.2.2.2.2 pp) ≤ w then (md_place_L92 x mo q pp mp) else (md_place_L92 x mo q pp (mp.1, mp.2.1, upd mp.2.2.1 pp (nI q), upd mp.2.2.2.1 pp ((mp.2.2.2.1 q) + 1), upd mp.2.2.2.2 pp w)))) 8 0 2
            rw [e]
            split
            · exact place92 q pp mp
            · exact place92 q pp _
        · exact place92 q pp mp
      · exact place92 q pp mp
theorem md_place_size (x : Nat) (mo : MO) (mp : MP) : (md_place x mo mp).1 = mp.1 + 1 := by
  unfold md_place
  split
  · exact place92 _ _ _
  · split
    · split
      · exact place92 _ _ _
      · exact place92 _ _ _
    · split
      · exact place92 _ _ _
      · exact place92 _ _ _
theorem yc19_q {mo : MO} {q x : Nat} {mp r : MP} (h : yc19 mo q (x + 1) mp.1) (hk : mo.2.1 x = nI q) (e : r = md_place x mo mp) : yc19 mo q x r.1 := by
  subst e
  rw [md_place_size]
  exact (yc19_p h hk).2
