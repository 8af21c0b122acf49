/-! sets and what they reach -/
theorem yx_or0 (a : Int64) : a ||| 0 = a := by
  apply yx_ext
  intro i _
  rw [yx_or, yx_0, Bool.or_false]
theorem yx_orA (a b c : Int64) : (a ||| b) ||| c = a ||| (b ||| c) := by
  apply yx_ext
  intro i _
  rw [yx_or, yx_or, yx_or, yx_or, Bool.or_assoc]
theorem yx_orC (a b : Int64) : a ||| b = b ||| a := by
  apply yx_ext
  intro i _
  rw [yx_or, yx_or, Bool.or_comm]
theorem yin_or {a b : Int64} {n : Nat} (ha : yin a n) (hb : yin b n) : yin (a ||| b) n := fun i hi => by
  rw [yx_or, ha i hi, hb i hi]
  rfl
theorem yin_and {a b : Int64} {n : Nat} (ha : yin a n) : yin (a &&& b) n := fun i hi => by
  rw [yx_and, ha i hi]
  rfl
theorem yin_0 {n : Nat} : yin 0 n := fun i _ => yx_0 i
theorem yin_1 {i n : Nat} (h : i < n) (hn : n ≤ 64) : yin (ylshl 1 (nI i)) n := fun j hj => by
  rw [yx_1 (by omega)]
  exact decide_eq_false (by omega)
theorem yin_mono {a : Int64} {n m : Nat} (h : yin a n) (hm : n ≤ m) : yin a m := fun i hi => h i (Nat.le_trans hm hi)
/-- what an object names -/
def yP (mo : MO) (x : Nat) : Int64 := if mo.2.1 x ≤ 0 then 0 else ((ylshl 1 (mo.2.2.1 x)) ||| (if mo.2.2.2.1 x < 0 then 0 else ylshl 1 (mo.2.2.2.1 x))) ||| (if mo.2.2.2.2 x < 0 then 0 else ylshl 1 (mo.2.2.2.2 x))
def yR (mo : MO) : Nat → Int64 → Int64
  | 0, a => a
  | x + 1, a => yR mo x (if yx a x = true then a ||| yP mo x else a)
theorem yR_eq (mo : MO) : ∀ (n : Nat) (a : Int64), n ≤ 64 → md_reach_L10 mo n a = yR mo n a
  | 0, a, _ => rfl
  | x + 1, a, h => by
    rw [md_reach_L10, yR]
    by_cases hx : yx a x = true
    · rw [if_pos ((yx_shr_1 a (by omega)).mpr hx), if_pos hx]
      unfold yP
      by_cases hk : mo.2.1 x ≤ 0
      · simp only [if_pos hk, yx_or0]
        exact yR_eq mo x a (by omega)
      · by_cases h2 : mo.2.2.2.1 x < 0
        · by_cases h3 : mo.2.2.2.2 x < 0
          · simp only [if_neg hk, if_pos h2, if_pos h3, yx_or0]
            exact yR_eq mo x _ (by omega)
          · simp only [if_neg hk, if_pos h2, if_neg h3, yx_or0, yx_orA]
            exact yR_eq mo x _ (by omega)
        · by_cases h3 : mo.2.2.2.2 x < 0
          · simp only [if_neg hk, if_neg h2, if_pos h3, yx_or0, yx_orA]
            exact yR_eq mo x _ (by omega)
          · simp only [if_neg hk, if_neg h2, if_neg h3, yb, yx_orA]
            exact yR_eq mo x _ (by omega)
    · rw [if_neg (fun hh => hx ((yx_shr_1 a (by omega)).mp hh)), if_neg hx]
      exact yR_eq mo x a (by omega)
theorem yR_step (p a b : Int64) (x : Nat) : (if yx (a ||| b) x = true then (a ||| b) ||| p else a ||| b) = (if yx a x = true then a ||| p else a) ||| (if yx b x = true then b ||| p else b) := by
  by_cases ha : yx a x = true
  · by_cases hb : yx b x = true
    · rw [if_pos (show yx (a ||| b) x = true by rw [yx_or, ha]; rfl), if_pos ha, if_pos hb]
      apply yx_ext
      intro i _
      simp only [yx_or]
      cases yx a i <;> cases yx b i <;> cases yx p i <;> rfl
    · rw [if_pos (show yx (a ||| b) x = true by rw [yx_or, ha]; rfl), if_pos ha, if_neg hb]
      apply yx_ext
      intro i _
      simp only [yx_or]
      cases yx a i <;> cases yx b i <;> cases yx p i <;> rfl
  · by_cases hb : yx b x = true
    · rw [if_pos (show yx (a ||| b) x = true by rw [yx_or, hb, Bool.or_true]), if_neg ha, if_pos hb]
      apply yx_ext
      intro i _
      simp only [yx_or]
      cases yx a i <;> cases yx b i <;> cases yx p i <;> rfl
    · rw [if_neg (show ¬ yx (a ||| b) x = true by rw [yx_or, Bool.not_eq_true _ |>.mp ha, Bool.not_eq_true _ |>.mp hb]; decide), if_neg ha, if_neg hb]
theorem yR_or (mo : MO) : ∀ (n : Nat) (a b : Int64), yR mo n (a ||| b) = yR mo n a ||| yR mo n b
  | 0, a, b => rfl
  | x + 1, a, b => by
    rw [yR, yR_step, yR_or mo x]
    rfl
theorem yR_lo (mo : MO) : ∀ (n : Nat) (a : Int64), (∀ i, i < n → yx a i = false) → yR mo n a = a
  | 0, a, _ => rfl
  | x + 1, a, h => by
    rw [yR, if_neg (show ¬ yx a x = true by rw [h x (by omega)]; decide)]
    exact yR_lo mo x a (fun i hi => h i (by omega))
theorem yR_0 (mo : MO) (n : Nat) : yR mo n 0 = 0 := yR_lo mo n 0 (fun i _ => yx_0 i)
/-- an object of the tables names objects of lower numbers -/
def yVal (mo : MO) (x : Nat) : Prop := mo.2.1 x = 0 ∨ ((mo.2.1 x = 1 ∨ mo.2.1 x = 2) ∧ (∃ a, a < x ∧ mo.2.2.1 x = nI a) ∧ (mo.2.2.2.1 x = -1 ∨ ∃ b, b < x ∧ mo.2.2.2.1 x = nI b) ∧ (mo.2.2.2.2 x = -1 ∨ ∃ c, c < x ∧ mo.2.2.2.2 x = nI c))
theorem yP_in {mo : MO} {x : Nat} (h : yVal mo x) (hx : x ≤ 60) : yin (yP mo x) x := by
  rcases h with h0 | ⟨hk, ⟨a, ha, ea⟩, h2, h3⟩
  · rw [yP, if_pos (show mo.2.1 x ≤ 0 by rw [h0]; decide)]
    exact yin_0
  · unfold yP
    split
    · exact yin_0
    · refine yin_or (yin_or ?_ ?_) ?_
      · rw [ea]
        exact yin_1 ha (by omega)
      · split
        · exact yin_0
        · rename_i hn
          rcases h2 with h2 | ⟨b, hb, eb⟩
          · exact absurd (show mo.2.2.2.1 x < 0 by rw [h2]; decide) hn
          · rw [eb]
            exact yin_1 hb (by omega)
      · split
        · exact yin_0
        · rename_i hn
          rcases h3 with h3 | ⟨c, hc, ec⟩
          · exact absurd (show mo.2.2.2.2 x < 0 by rw [h3]; decide) hn
          · rw [ec]
            exact yin_1 hc (by omega)
theorem yR_in {mo : MO} {m : Nat} (hm : m ≤ 60) : ∀ (n : Nat) (a : Int64), n ≤ m → (∀ x, x < n → yVal mo x) → yin a m → yin (yR mo n a) m
  | 0, a, _, _, h => h
  | x + 1, a, hn, hv, h => by
    rw [yR]
    refine yR_in hm x _ (by omega) (fun y hy => hv y (by omega)) ?_
    split
    · exact yin_or h (yin_mono (yP_in (hv x (by omega)) (by omega)) (by omega))
    · exact h
theorem yR_congr {mo mo' : MO} : ∀ (n : Nat) (a : Int64), (∀ x, x < n → yP mo x = yP mo' x) → yR mo n a = yR mo' n a
  | 0, a, _ => rfl
  | x + 1, a, h => by
    rw [yR, yR, h x (by omega)]
    exact yR_congr x _ (fun y hy => h y (by omega))
/-- a set's members below i -/
def yor (x : Int64) : Nat → Int64
  | 0 => 0
  | i + 1 => yor x i ||| (if yx x i = true then ylshl 1 (nI i) else 0)
theorem yx_yor (x : Int64) : ∀ (n j : Nat), n ≤ 64 → yx (yor x n) j = (decide (j < n) && yx x j)
  | 0, j, _ => by
    rw [yor, yx_0, decide_eq_false (by omega)]
    rfl
  | i + 1, j, h => by
    rw [yor, yx_or, yx_yor x i j (by omega)]
    by_cases hj : i = j
    · subst hj
      rw [decide_eq_false (show ¬ i < i by omega), decide_eq_true (show i < i + 1 by omega)]
      by_cases hx : yx x i = true
      · rw [if_pos hx, yx_1 (by omega), hx]
        simp
      · rw [if_neg hx, yx_0]
        simp [hx]
    · have e : decide (j < i + 1) = decide (j < i) := by
        by_cases h1 : j < i
        · rw [decide_eq_true h1, decide_eq_true (show j < i + 1 by omega)]
        · rw [decide_eq_false h1, decide_eq_false (show ¬ j < i + 1 by omega)]
      rw [e]
      by_cases hx : yx x i = true
      · rw [if_pos hx, yx_1 (by omega), decide_eq_false hj, Bool.or_false]
      · rw [if_neg hx, yx_0, Bool.or_false]
theorem yor_eq {x : Int64} {n : Nat} (h : yin x n) (hn : n ≤ 64) : yor x n = x := by
  apply yx_ext
  intro i _
  rw [yx_yor x n i hn]
  by_cases hi : i < n
  · rw [decide_eq_true hi]
    rfl
  · rw [h i (by omega), Bool.and_false]
/-- the two tables of objects -/
def OBJ (so : SS) (mo : MO) : Prop := so.2.2.2.2.2 = mo.1 ∧ mo.1 ≤ 60 ∧ so.1 = mo.2.1 ∧ so.2.1 = mo.2.2.1 ∧ so.2.2.1 = mo.2.2.2.1 ∧ so.2.2.2.1 = mo.2.2.2.2 ∧ (∀ x, x < mo.1 → yVal mo x) ∧ (∀ x, x < mo.1 → so.2.2.2.2.1 x = yR mo mo.1 (ylshl 1 (nI x)))
theorem md_reach_eq {mo : MO} (ho : mo.1 ≤ 60) (a : Int64) : md_reach a mo = yR mo mo.1 a := by
  unfold md_reach
  exact yR_eq mo mo.1 a (by omega)
section OB
variable {so : SS} {mo : MO} {objs goals wants : Int64}
theorem OBJ.reachIn (H : OBJ so mo) {a : Int64} (h : yin a mo.1) : yin (yR mo mo.1 a) mo.1 := yR_in H.2.1 mo.1 a (Nat.le_refl _) H.2.2.2.2.2.2.1 h
theorem st_reachOfAll_L (H : OBJ so mo) : ∀ (k i : Nat), i + k = mo.1 → st_reachOfAll_L5 objs so k i (yR mo mo.1 (yor objs i)) = yR mo mo.1 (yor objs mo.1)
  | 0, i, h => by
    have e : i = mo.1 := by omega
    rw [st_reachOfAll_L5, e]
  | k + 1, i, h => by
    have h60 := H.2.1
    rw [st_reachOfAll_L5]
    simp only [yb]
    rw [px_isIn_nI (by omega)]
    by_cases hx : yx objs i = true
    · have e : yor objs i ||| ylshl 1 (nI i) = yor objs (i + 1) := by rw [yor, if_pos hx]
      rw [if_pos hx, H.2.2.2.2.2.2.2 i (by omega), ← yR_or, e]
      exact st_reachOfAll_L H k (i + 1) (by omega)
    · have e : yor objs (i + 1) = yor objs i := by rw [yor, if_neg hx, yx_or0]
      rw [if_neg hx, ← e]
      exact st_reachOfAll_L H k (i + 1) (by omega)
theorem st_reachOfAll_eq (H : OBJ so mo) (h : yin objs mo.1) : st_reachOfAll objs so = yR mo mo.1 objs := by
  have h60 := H.2.1
  have t := st_reachOfAll_L (objs := objs) H mo.1 0 (by omega)
  rw [yor_eq h (by omega), yor, yR_0] at t
  unfold st_reachOfAll
  rw [H.1]
  exact t
theorem eachR_L (H : OBJ so mo) : ∀ (k i : Nat), i + k = mo.1 → st_eachReachesOne_L3 objs goals so k i = md_allReach_L3 objs goals mo k i
  | 0, i, h => rfl
  | k + 1, i, h => by
    have h60 := H.2.1
    rw [st_eachReachesOne_L3, md_allReach_L3]
    simp only [yb]
    rw [px_isIn_nI (by omega)]
    by_cases hx : yx objs i = true
    · rw [if_pos hx, if_pos ((yx_shr_1 objs (by omega)).mpr hx), H.2.2.2.2.2.2.2 i (by omega), md_reach_eq h60, eachR_L H k (i + 1) (by omega)]
    · rw [if_neg hx, if_neg (fun hh => hx ((yx_shr_1 objs (by omega)).mp hh)), eachR_L H k (i + 1) (by omega)]
theorem eachR_eq (H : OBJ so mo) : st_eachReachesOne objs goals so = md_allReach objs goals mo := by
  unfold st_eachReachesOne md_allReach
  rw [H.1]
  exact eachR_L H mo.1 0 (by omega)
theorem eachR_none (H : OBJ so mo) : ∀ (k i : Nat), i + k = mo.1 → st_eachReachesOne_L3 objs 0 so k i = true → ∀ j, i ≤ j → j < mo.1 → yx objs j = false
  | 0, i, h, _ => fun j h1 h2 => absurd h1 (by omega)
  | k + 1, i, h, ht => by
    have h60 := H.2.1
    rw [st_eachReachesOne_L3] at ht
    simp only [yb] at ht
    rw [px_isIn_nI (by omega)] at ht
    by_cases hx : yx objs i = true
    · rw [if_pos hx, if_pos (show (so.2.2.2.2.1 i &&& 0) = 0 by apply yx_ext; intro q _; rw [yx_and, yx_0, Bool.and_false])] at ht
      cases ht
    · rw [if_neg hx] at ht
      intro j h1 h2
      rcases Nat.lt_or_eq_of_le h1 with h3 | h3
      · exact eachR_none H k (i + 1) (by omega) ht j h3 h2
      · subst h3
        exact (Bool.not_eq_true _).mp hx
theorem eachR_0 (H : OBJ so mo) (hin : yin objs mo.1) (hne : ¬ objs = 0) : st_eachReachesOne objs 0 so = false := by
  cases ht : st_eachReachesOne objs 0 so with
  | false => rfl
  | true =>
    unfold st_eachReachesOne at ht
    rw [H.1] at ht
    have h := eachR_none H mo.1 0 (by omega) ht
    refine absurd ?_ hne
    apply yx_ext
    intro i _
    rw [yx_0]
    by_cases hi : i < mo.1
    · exact h i (Nat.zero_le _) hi
    · exact hin i (by omega)
theorem eachR_empty (H : OBJ so mo) : ∀ (k i : Nat), i + k = mo.1 → st_eachReachesOne_L3 0 goals so k i = true
  | 0, i, _ => rfl
  | k + 1, i, h => by
    have h60 := H.2.1
    rw [st_eachReachesOne_L3]
    simp only [yb]
    rw [px_isIn_nI (by omega), yx_0, if_neg (by decide)]
    exact eachR_empty H k (i + 1) (by omega)
/-- the commits of a set, as the reference gathers them -/
theorem conv_L23 (H : OBJ so mo) {mn : MN} {mt : MT} {known set : Int64} : ∀ (k i : Nat) (acc : Int64), i + k = mo.1 → md_converse_L23 wants mo mn mt k i known (set &&& acc) set = md_converse_L69 wants mo mn 60 0 known (set &&& st_allOfKind_L5 2 so k i acc) mt
  | 0, i, acc, _ => rfl
  | k + 1, i, acc, h => by
    rw [md_converse_L23, st_allOfKind_L5, H.2.2.1]
    by_cases hk : mo.2.1 i = 2
    · rw [if_pos hk, if_pos hk, ← conv_L23 H k (i + 1) _ (by omega)]
      have e : (set &&& acc) ||| (set &&& ylshl 1 (nI i)) = set &&& (acc ||| ylshl 1 (nI i)) := by
        apply yx_ext
        intro q _
        simp only [yx_or, yx_and]
        cases yx set q <;> cases yx acc q <;> rfl
      rw [e]
    · rw [if_neg hk, if_neg hk, ← conv_L23 H k (i + 1) _ (by omega)]
end OB
