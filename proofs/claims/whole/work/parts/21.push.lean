section PU
variable {so : SS} {tk : TS} {pk : PS} {vd tg : Nat → Int32} {ns : Nat → NS} {mo : MO} {mn : MN} {mw : MW} {mt : MT} {mv : Nat → Int32} {mp : MP} {s : Nat}
theorem has_tail {nd : NS} (hs : s < 16) : ∀ (f i : Nat), 4 ≤ i → i + f = 8 → nd_hasValues_L2 (nI s) nd f i = true
  | 0, i, _, _ => rfl
  | f + 1, i, h4, h => by
    rw [nd_hasValues_L2]
    simp only [yb]
    rw [if_neg (ch4 s hs i (by omega) h4)]
    exact has_tail hs f (i + 1) (by omega) (by omega)
theorem has_L {nd : NS} {k : Nat} (hs : s < 16) (ho : mo.1 ≤ 60) (hV : RV nd.1 mn.2.1 k mo.1) : ∀ (f i : Nat), i + f = 4 → md_push_L46 (nI s) mo mn mw mv mp f i k = if nd_hasValues_L2 (nI s) nd (f + 4) i = true then md_push_L87 (nI s) mo mn mw mp 4 0 k true mv else ((-1), mn, mw, mv, mp)
  | 0, i, h => by
    rw [has_tail hs 4 i (by omega) (by omega), if_pos rfl]
    rfl
  | f + 1, i, h => by
    have ih := has_L (k := k) (nd := nd) hs ho hV f (i + 1) (by omega)
    have eH : nd_hasValues_L2 (nI s) nd (f + 1 + 4) i = (if px_isChosen (nI s) (nI i) = true then (if nd.1 i = -1 then false else nd_hasValues_L2 (nI s) nd (f + 4) (i + 1)) else nd_hasValues_L2 (nI s) nd (f + 4) (i + 1)) := by
      rw [show f + 1 + 4 = (f + 4) + 1 by omega]
      rfl
    rw [md_push_L46]
    by_cases hc : px_isChosen (nI s) (nI i) = true
    · obtain ⟨v, hv, v1, v2⟩ := hV i (by omega)
      rw [if_pos hc] at eH
      rw [if_pos ((chb1 s hs i (by omega)).mpr hc)]
      by_cases h0 : v = 0
      · rw [if_pos (show nd.1 i = -1 by rw [v2]; exact (pv_m1 v (by omega)).mpr h0)] at eH
        rw [if_pos (show mn.2.1 (8 * k + i) = 0 by rw [v1]; exact (pw_0 v (by omega)).mpr h0), if_neg (show ¬ nd_hasValues_L2 (nI s) nd (f + 1 + 4) i = true by rw [eH]; decide)]
      · rw [if_neg (show ¬ nd.1 i = -1 by rw [v2]; exact fun hh => h0 ((pv_m1 v (by omega)).mp hh))] at eH
        rw [if_neg (show ¬ mn.2.1 (8 * k + i) = 0 by rw [v1]; exact fun hh => h0 ((pw_0 v (by omega)).mp hh)), eH]
        exact ih
    · rw [if_neg hc] at eH
      rw [if_neg (fun hh => hc ((chb1 s hs i (by omega)).mp hh)), eH]
      exact ih
theorem has_all {nd : NS} {set : Int32} : ∀ (f i : Nat), nd_hasValues_L2 set nd f i = true → ∀ j, i ≤ j → j < i + f → px_isChosen set (nI j) = true → ¬ nd.1 j = -1
  | 0, i, _ => fun j h1 h2 => absurd h1 (by omega)
  | f + 1, i, h => by
    rw [nd_hasValues_L2] at h
    simp only [yb] at h
    intro j h1 h2 hc
    rcases Nat.lt_or_eq_of_le h1 with h3 | h3
    · refine has_all f (i + 1) ?_ j h3 (by omega) hc
      split at h
      · split at h
        · cases h
        · exact h
      · exact h
    · subst h3
      rw [if_pos hc] at h
      intro hm
      rw [if_pos hm] at h
      cases h
theorem verdict_eq {nd ne : NS} {k i : Nat} (HO : OBJ so mo) (hi : i < 4) (N : NOD nd mn k mo.1) (N0 : NOD ne mn 0 mo.1) (hne : ¬ nd.1 i = -1) : px_verdictOn i so nd ne = md_judge i (mn.2.1 (8 * k + 4 + i)) (mn.2.1 (8 * k + i)) mo mn ∧ (px_verdictOn i so nd ne = 1 ∨ px_verdictOn i so nd ne = 2 ∨ px_verdictOn i so nd ne = 3) := by
  have h60 := HO.2.1
  obtain ⟨v, hv, v1, v2⟩ := N.1 i (by omega)
  obtain ⟨u, hu, u1, u2⟩ := N.1 (4 + i) (by omega)
  obtain ⟨t, ht, t1, t2⟩ := N0.1 i (by omega)
  rw [Nat.mul_zero, Nat.zero_add] at t1
  rw [← Nat.add_assoc] at u1
  unfold px_verdictOn md_judge
  simp only [yb]
  rw [valueOf_nI (by omega), valueOf_nI (by omega), valueOf_nI (by omega), u2, t2, v2, u1, t1, v1]
  rw [v2] at hne
  have hv0 : v ≠ 0 := fun h => hne ((pv_m1 v (by omega)).mpr h)
  by_cases htu : t = u
  · rw [htu, if_pos rfl, if_pos rfl]
    by_cases hu0 : u = 0
    · rw [if_pos ((pv_m1 u (by omega)).mpr hu0), if_pos ((pw_le u (by omega)).mpr hu0)]
      exact ⟨rfl, Or.inl rfl⟩
    · rw [if_neg (fun hh => hu0 ((pv_m1 u (by omega)).mp hh)), if_neg (fun hh => hu0 ((pw_le u (by omega)).mp hh))]
      obtain ⟨w, rfl⟩ : ∃ w, v = w + 1 := ⟨v - 1, by omega⟩
      obtain ⟨x, rfl⟩ : ∃ x, u = x + 1 := ⟨u - 1, by omega⟩
      rw [nI_pred, nI_pred, st_reachOf_nI HO (by omega), md_reach_eq h60, px_isIn_nI (by omega)]
      by_cases hb : yx (yR mo mo.1 (ylshl 1 (nI w))) x = true
      · rw [if_pos hb, if_neg (fun hh => by rw [(yx_shr_0 _ (by omega)).mp hh] at hb; cases hb)]
        exact ⟨rfl, Or.inl rfl⟩
      · rw [if_neg hb, if_pos ((yx_shr_0 _ (by omega)).mpr ((Bool.not_eq_true _).mp hb))]
        exact ⟨rfl, Or.inr (Or.inr rfl)⟩
  · rw [if_neg (fun hh => htu ((pv_inj (by omega) (by omega)).mp hh)), if_neg (fun hh => htu ((nI_eq (by omega) (by omega)).mp hh))]
    exact ⟨rfl, Or.inr (Or.inl rfl)⟩
theorem judge_L {nd ne : NS} {k : Nat} (HO : OBJ so mo) (hs : s < 16) (N : NOD nd mn k mo.1) (N0 : NOD ne mn 0 mo.1) (hA : ∀ j, j < 4 → px_isChosen (nI s) (nI j) = true → ¬ nd.1 j = -1) : ∀ (f i : Nat) (good : Bool) (vd : Nat → Int32), i + f = 4 → md_push_L87 (nI s) mo mn mw mp f i k good vd = md_push_L87 (nI s) mo mn mw mp 0 4 k (px_judge_L6 (nI s) so nd ne f i good vd).1 (px_judge_L6 (nI s) so nd ne f i good vd).2
  | 0, i, good, vd, h => by
    have e : i = 4 := by omega
    subst e
    rfl
  | f + 1, i, good, vd, h => by
    rw [md_push_L87.eq_2, px_judge_L6.eq_2]
    simp only [yb, upd_at]
    by_cases hc : px_isChosen (nI s) (nI i) = true
    · obtain ⟨e1, e2⟩ := verdict_eq HO (i := i) (by omega) N N0 (hA i (by omega) hc)
      rw [if_pos hc, if_neg (fun hh => (chb0 s hs i (by omega)).mp hh hc), ← e1]
      cases good with
      | false =>
        rw [if_neg (by decide), if_neg (by decide)]
        exact judge_L HO hs N N0 hA f (i + 1) _ _ (by omega)
      | true =>
        rw [if_pos rfl, if_pos rfl]
        rcases e2 with e2 | e2 | e2
        · rw [if_neg (show ¬ (2 : Int32) ≤ px_verdictOn i so nd ne by rw [e2]; decide), if_neg (show ¬ px_verdictOn i so nd ne = 0 by rw [e2]; decide), if_pos e2]
          exact judge_L HO hs N N0 hA f (i + 1) _ _ (by omega)
        · rw [if_pos (show (2 : Int32) ≤ px_verdictOn i so nd ne by rw [e2]; decide), if_neg (show ¬ px_verdictOn i so nd ne = 0 by rw [e2]; decide), if_neg (show ¬ px_verdictOn i so nd ne = 1 by rw [e2]; decide)]
          exact judge_L HO hs N N0 hA f (i + 1) _ _ (by omega)
        · rw [if_pos (show (2 : Int32) ≤ px_verdictOn i so nd ne by rw [e2]; decide), if_neg (show ¬ px_verdictOn i so nd ne = 0 by rw [e2]; decide), if_neg (show ¬ px_verdictOn i so nd ne = 1 by rw [e2]; decide)]
          exact judge_L HO hs N N0 hA f (i + 1) _ _ (by omega)
    · rw [if_neg hc, if_pos ((chb0 s hs i (by omega)).mpr hc)]
      cases good with
      | false =>
        rw [if_neg (by decide), if_neg (by decide)]
        exact judge_L HO hs N N0 hA f (i + 1) _ _ (by omega)
      | true =>
        rw [if_pos rfl, if_pos rfl, if_neg (by decide), if_pos (by decide)]
        exact judge_L HO hs N N0 hA f (i + 1) _ _ (by omega)
theorem pack_0L {kk : Nat} {K : MP → MP} {mp : MP} : ∀ x : Nat, x ≤ 60 → md_pack_L19 0 kk mo K x mp = K mp
  | 0, _ => rfl
  | x + 1, h => by
    rw [md_pack_L19, if_neg (fun hh => by
      have := (yx_shr_1 0 (by omega)).mp hh
      rw [yx_0] at this
      cases this)]
    exact pack_0L x (by omega)
theorem pack_0 (ho : mo.1 ≤ 60) : md_pack 0 mo mp = (0, mp.2.1, mp.2.2.1, mp.2.2.2.1, mp.2.2.2.2) := by
  rw [md_pack, md_pack_L7, pack_0L mo.1 ho, md_pack_L7, pack_0L mo.1 ho, md_pack_L7, pack_0L mo.1 ho]
  rfl
theorem fresh_L {nd : NS} {k : Nat} (hs : s < 16) (ho : mo.1 ≤ 60) (hV : RV nd.1 mn.2.1 k mo.1) (hA : ∀ j, j < 4 → px_isChosen (nI s) (nI j) = true → ¬ nd.1 j = -1) : ∀ (f i : Nat) (acc : Int64), i + f = 4 → md_carry_L5 k (nI s) mo mn mw mp f i acc = md_carry_L5 k (nI s) mo mn mw mp 0 4 (nd_commitsOf_L5 (nI s) nd (f + 4) i acc)
  | 0, i, acc, h => by
    have e : i = 4 := by omega
    subst e
    rw [commits_tail hs 4 4 acc (by omega) (by omega)]
  | f + 1, i, acc, h => by
    rw [md_carry_L5.eq_2, show f + 1 + 4 = (f + 4) + 1 by omega, nd_commitsOf_L5]
    simp only [yb]
    by_cases hc : px_isChosen (nI s) (nI i) = true
    · obtain ⟨v, hv, v1, v2⟩ := hV i (by omega)
      rw [if_pos hc, if_pos ((chb1 s hs i (by omega)).mpr hc), if_neg (hA i (by omega) hc), v1, v2]
      exact fresh_L hs ho hV hA f (i + 1) _ (by omega)
    · rw [if_neg hc, if_neg (fun hh => hc ((chb1 s hs i (by omega)).mp hh))]
      exact fresh_L hs ho hV hA f (i + 1) _ (by omega)
theorem tips15_tail {ne : NS} : ∀ (f i : Nat) (acc : Int64), 4 ≤ i → i + f = 8 → nd_commitsOf_L5 15 ne f i acc = acc := commits_tail (s := 15) (by decide)
theorem tips15_L {ne : NS} {n : Nat} (hV : RV ne.1 mn.2.1 0 n) (hn : n ≤ 60) : ∀ (f i : Nat) (acc : Int64), i + f = 4 → nd_commitsOf_L5 15 ne (f + 4) i acc = md_tips_L6 0 mn f i acc
  | 0, i, acc, h => by
    rw [Nat.zero_add, tips15_tail 4 i acc (by omega) (by omega)]
    rfl
  | f + 1, i, acc, h => by
    rw [show f + 1 + 4 = (f + 4) + 1 by omega, nd_commitsOf_L5, md_tips_L6]
    simp only [yb]
    obtain ⟨v, hv, v1, v2⟩ := hV i (by omega)
    rw [chosen_own i (by omega), decide_eq_true (show i < 4 by omega), if_pos rfl, v1, v2]
    by_cases h0 : v = 0
    · rw [if_pos ((pv_m1 v (by omega)).mpr h0), if_pos ((pw_le v (by omega)).mpr h0)]
      exact tips15_L hV hn f (i + 1) acc (by omega)
    · rw [if_neg (fun hh => h0 ((pv_m1 v (by omega)).mp hh)), if_neg (fun hh => h0 ((pw_le v (by omega)).mp hh))]
      exact tips15_L hV hn f (i + 1) _ (by omega)
theorem wish_L {nd : NS} {k n sd sh : Nat} {K : MW → Bool × MN × MW × MP} (hs : s < 16) (hn : n ≤ 60) (hsd : (sd = 0 ∧ sh = 0) ∨ (sd = 1 ∧ sh = 4)) (hV : RV nd.1 mn.2.1 k n) (hA : ∀ j, j < 4 → px_isChosen (nI s) (nI j) = true → ¬ nd.1 j = -1) : ∀ (f i : Nat) (mw : MW) (tg : Nat → Int32), i + f = 4 → mw.1 ≤ i → ylP tg mw.2.1 mw.2.2 0 n (sh + i) mw.1 → (∀ j, sh + i ≤ j → j < 8 → tg j = -2) → ∃ mw' : MW, md_carry_L119 k (nI s) sd mn K f i mw = K mw' ∧ mw'.1 ≤ 4 ∧ ylP (px_aimAtValues_L7 (nI s) sh nd f i tg) mw'.2.1 mw'.2.2 0 n 8 mw'.1
  | 0, i, mw, tg, h, hm, hL, h2 => by
    refine ⟨mw, rfl, by omega, ?_⟩
    have t := ylP_pad hL (8 - (sh + i)) (fun j h1 h3 => h2 j h1 (by omega))
    rw [show sh + i + (8 - (sh + i)) = 8 by omega] at t
    exact t
  | f + 1, i, mw, tg, h, hm, hL, h2 => by
    have hL1 := ylP_none (h2 (sh + i) (by omega) (by omega)) hL
    have h2' : ∀ j, sh + (i + 1) ≤ j → j < 8 → tg j = -2 := fun j h1 h3 => h2 j (by omega) h3
    rw [md_carry_L119, px_aimAtValues_L7]
    simp only [yb]
    by_cases hc : px_isChosen (nI s) (nI i) = true
    · obtain ⟨v, hv, v1, v2⟩ := hV i (by omega)
      rw [if_pos hc, if_pos ((chb1 s hs i (by omega)).mpr hc), valueOf_nI (by omega), if_neg (hA i (by omega) hc), v1, v2, show i + sh = sh + i by omega]
      have hLw := ylP_wish (mw := mw) (v := v) (show sh + i < 8 by omega) hv hL
      have go := wish_L (k := k) (K := K) hs hn hsd hV hA f (i + 1) (md_wish (sh + i) (nI v) mw) (upd tg (sh + i) (nI v - 1)) (by omega) (by show mw.1 + 1 ≤ i + 1; omega) hLw (fun j h1 h3 => by rw [upd_ne _ _ (by omega)]; exact h2' j h1 h3)
      rcases hsd with ⟨rfl, rfl⟩ | ⟨rfl, rfl⟩
      · rw [if_pos (show nI 0 = 0 from rfl)]
        rw [Nat.zero_add] at go ⊢
        exact go
      · rw [if_neg (show ¬ nI 1 = 0 by decide +kernel)]
        exact go
    · rw [if_neg hc, if_neg (fun hh => hc ((chb1 s hs i (by omega)).mp hh))]
      exact wish_L (k := k) (K := K) hs hn hsd hV hA f (i + 1) mw tg (by omega) (by omega) hL1 h2'
theorem carry_end {k : Nat} {P : Int64} (R : REL so tk pk vd ns mo mn mt mv mp) (hs : s < 16) (hk : k < 3) (hk0 : k ≠ 0) (hu : nd_isUp (ns k) = true) (hu0 : nd_isUp (ns 0) = true) (hP : yin P mo.1) (hA : ∀ j, j < 4 → px_isChosen (nI s) (nI j) = true → ¬ (ns k).1 j = -1) {pk' : PS} {mp' : MP} (hpk : pk'.2.2.2.1 = P) (hpc : PCK pk' mp') {vd' : Nat → Int32} :
    (px_carryOutPush (nI s) pk' tg (ns k) (ns 0)).1 = (md_carry_L93 k (nI s) mo 2 0 P mn mw mp').1 ∧ REL so tk pk' vd' (yupF (yupF ns 0 (px_carryOutPush (nI s) pk' tg (ns k) (ns 0)).2.2.2) k (px_carryOutPush (nI s) pk' tg (ns k) (ns 0)).2.2.1) mo (md_carry_L93 k (nI s) mo 2 0 P mn mw mp').2.1 mt vd' (md_carry_L93 k (nI s) mo 2 0 P mn mw mp').2.2.2 := by
  have h60 := R.1.2.1
  obtain ⟨N, U⟩ := R.2.1 k hk
  obtain ⟨N0, U0⟩ := R.2.1 0 (by decide)
  have R1 : REL so tk pk' vd' ns mo mn mt vd' mp' := ⟨R.1, R.2.1, R.2.2.1, hpc, rfl⟩
  obtain ⟨⟨s1, s2, s3, s4, s5⟩, _⟩ := n_store h60 hP N0 U0 hu0
  unfold px_carryOutPush
  simp only [yb]
  rw [show pk_memberSet pk' = P from hpk, md_carry_L93, if_pos (show nI 0 = 0 from rfl)]
  obtain ⟨mw1, w1, w2, w3⟩ := wish_L (k := k) (sd := 0) (sh := 0) (nd := ns k) (K := fun mw => (yb (md_store 0 P mo mn) fun r10 => (if r10.1 = true then (yb (md_transact 0 r10.2 mw) fun r12 => (if r12.1 = true then (md_carry_L93 k (nI s) mo 1 (0 + 1) P r12.2 mw mp') else (false, r12.2, mw, mp'))) else (false, r10.2, mw, mp')))) hs h60 (Or.inl ⟨rfl, rfl⟩) N.1 hA 4 0 (0, mw.2.1, mw.2.2) (px_clearTargets tg) (by omega) (by show 0 ≤ 0; omega) (ylP_nil 0 (fun i hi => absurd hi (by omega))) (fun j _ h8 => clr_8 tg j h8)
  rw [w1]
  simp only [yb]
  have ea : px_aimAtValues (nI s) 0 tg (ns k) = px_aimAtValues_L7 (nI s) 0 (ns k) 4 0 (px_clearTargets tg) := rfl
  rw [← ea] at w3
  by_cases hb : (md_store 0 P mo mn).1 = true
  · have hb' := s1.trans hb
    rw [if_pos hb, if_pos hb']
    obtain ⟨t1, t2, t3, t4, t5⟩ := n_transact (tg := px_aimAtValues (nI s) 0 tg (ns k)) (mw := mw1) h60 s2 s3 (s5 hb') w2 w3
    have A : ∀ q, q ≠ 0 → AGR mn (md_transact 0 (md_store 0 P mo mn).2 mw1).2 q := fun q hq => AGR_trans (s4 q hq) (t4 q hq)
    have R2 := REL_node R1 R.1 (Nat.le_refl _) t2 t3 A
    obtain ⟨N2, U2⟩ := R2.2.1 k hk
    rw [yupF_o _ _ hk0] at N2 U2
    rw [t1]
    by_cases hc : (md_transact 0 (md_store 0 P mo mn).2 mw1).1 = true
    · rw [if_pos hc, if_pos hc, md_carry_L93, if_neg (show ¬ nI (0 + 1) = 0 by decide +kernel)]
      obtain ⟨mw2, x1, x2, x3⟩ := wish_L (k := k) (mn := (md_transact 0 (md_store 0 P mo mn).2 mw1).2) (sd := 0 + 1) (sh := 4) (nd := ns k) (K := fun mw => (yb (md_transact k (md_transact 0 (md_store 0 P mo mn).2 mw1).2 mw) fun r7 => (if r7.1 = true then (md_carry_L93 k (nI s) mo 0 (0 + 1 + 1) P r7.2 mw mp') else (false, r7.2, mw, mp')))) hs h60 (Or.inr ⟨rfl, rfl⟩) N2.1 hA 4 0 (0, mw1.2.1, mw1.2.2) (px_clearTargets (px_aimAtValues (nI s) 0 tg (ns k))) (by omega) (by show 0 ≤ 0; omega) (ylP_nil 4 (fun i hi => clr_8 _ i (by omega))) (fun j _ h8 => clr_8 _ j h8)
      rw [x1]
      simp only [yb]
      have eb : px_aimAtValues (nI s) 4 (px_aimAtValues (nI s) 0 tg (ns k)) (ns k) = px_aimAtValues_L7 (nI s) 4 (ns k) 4 0 (px_clearTargets (px_aimAtValues (nI s) 0 tg (ns k))) := rfl
      rw [← eb] at x3
      obtain ⟨y1, y2, y3, y4, y5⟩ := n_transact (tg := px_aimAtValues (nI s) 4 (px_aimAtValues (nI s) 0 tg (ns k)) (ns k)) (mw := mw2) h60 N2 U2 hu x2 x3
      have R3 := REL_node R2 R.1 (Nat.le_refl _) y2 y3 y4
      by_cases hd : (md_transact k (md_transact 0 (md_store 0 P mo mn).2 mw1).2 mw2).1 = true
      · rw [if_pos hd]
        exact ⟨y1.trans hd, R3⟩
      · rw [if_neg hd]
        exact ⟨y1.trans ((Bool.not_eq_true _).mp hd), R3⟩
    · rw [if_neg hc, if_neg hc]
      exact ⟨rfl, REL_node R2 R.1 (Nat.le_refl _) N2 U2 (fun q _ => AGR_refl _ q)⟩
  · have hb' : ¬ (nd_writeMissing P (ns 0)).1 = true := fun hh => hb (s1.symm.trans hh)
    rw [if_neg hb, if_neg hb']
    have R2 := REL_node R1 R.1 (Nat.le_refl _) s2 s3 s4
    obtain ⟨N2, U2⟩ := R2.2.1 k hk
    rw [yupF_o _ _ hk0] at N2 U2
    exact ⟨rfl, REL_node R2 R.1 (Nat.le_refl _) N2 U2 (fun q _ => AGR_refl _ q)⟩
theorem rel_push (R : REL so tk pk vd ns mo mn mt mv mp) (node set : Int32) : (x_push node set so pk vd tg ns).1 = (md_push node set mo mn mw mv mp).1 ∧ REL so tk (x_push node set so pk vd tg ns).2.1 (x_push node set so pk vd tg ns).2.2.1 (x_push node set so pk vd tg ns).2.2.2.2 mo (md_push node set mo mn mw mv mp).2.1 mt (md_push node set mo mn mw mv mp).2.2.2.1 (md_push node set mo mn mw mv mp).2.2.2.2 := by
  have h60 := R.1.2.1
  have ev : vd = mv := R.2.2.2.2
  unfold x_push md_push
  simp only [yb, yn, isClient_eq, isSet_eq]
  by_cases h1 : node < 1
  · simp only [if_pos h1]
    exact ⟨(by first | rfl | trivial), R⟩
  · by_cases h2 : 2 < node
    · simp only [if_neg h1, if_pos h2]
      exact ⟨(by first | rfl | trivial), R⟩
    · by_cases h3 : set < 1
      · simp only [if_neg h1, if_neg h2, if_pos h3]
        exact ⟨(by first | rfl | trivial), R⟩
      · by_cases h4 : set ≤ 15
        · simp only [if_neg h1, if_neg h2, if_neg h3, if_pos h4]
          obtain ⟨k, hc, hk, en⟩ := yy_natC h1 h2
          obtain ⟨s, hs, rfl⟩ := set_nat h3 h4
          have hk0 : k ≠ 0 := by
            intro hz
            subst hz
            rw [en] at h1
            exact h1 (by decide +kernel)
          simp only [hc]
          obtain ⟨N, U⟩ := R.2.1 k hk
          obtain ⟨N0, U0⟩ := R.2.1 0 (by decide)
          by_cases hd : mn.2.2.1 k = true
          · rw [dark_up N hd, if_pos hd, if_neg (show ¬ false = true by decide)]
            exact ⟨(by first | rfl | trivial), R⟩
          · have hu := lit_up N hd
            rw [hu, if_neg hd, if_pos rfl]
            by_cases hd0 : mn.2.2.1 0 = true
            · rw [dark_up N0 hd0, if_pos hd0, if_neg (show ¬ false = true by decide)]
              exact ⟨(by first | rfl | trivial), R⟩
            · have hu0 := lit_up N0 hd0
              rw [hu0, if_neg hd0, if_pos rfl, has_L (nd := ns k) hs h60 N.1 4 0 (by omega), show nd_hasValues_L2 (nI s) (ns k) (4 + 4) 0 = nd_hasValues (nI s) (ns k) from rfl]
              by_cases hh : nd_hasValues (nI s) (ns k) = true
              · have hA : ∀ j, j < 4 → px_isChosen (nI s) (nI j) = true → ¬ (ns k).1 j = -1 := fun j hj hcj => has_all 8 0 hh j (Nat.zero_le _) (by omega) hcj
                rw [if_pos hh, if_pos hh, ← ev, judge_L R.1 hs N N0 hA 4 0 true vd (by omega), show px_judge_L6 (nI s) so (ns k) (ns 0) 4 0 true vd = px_judge (nI s) so vd (ns k) (ns 0) from rfl, md_push_L87]
                simp only [yb]
                by_cases hj : (px_judge (nI s) so vd (ns k) (ns 0)).1 = true
                · rw [if_pos hj, if_pos hj]
                  have eC : md_carry k (nI s) mo mn mw mp = md_carry_L93 k (nI s) mo 2 0 (yR mo mo.1 (nd_commitsOf (nI s) (ns k)) &&& (yR mo mo.1 (md_tips 0 0 3 mn &&& mn.1 k) ^^^ (-1))) mn mw (md_pack (yR mo mo.1 (nd_commitsOf (nI s) (ns k)) &&& (yR mo mo.1 (md_tips 0 0 3 mn &&& mn.1 k) ^^^ (-1))) mo mp) := by
                    rw [md_carry, fresh_L (nd := ns k) hs h60 N.1 hA 4 0 0 (by omega), show nd_commitsOf_L5 (nI s) (ns k) (4 + 4) 0 0 = nd_commitsOf (nI s) (ns k) from rfl, md_carry_L5]
                    simp only [yb]
                    rw [md_reach_eq h60, md_reach_eq h60]
                  rw [eC]
                  have e15 : nd_commitsOf 15 (ns 0) = md_tips 0 0 3 mn := by
                    unfold nd_commitsOf md_tips
                    exact tips15_L N0.1 h60 4 0 0 (by omega)
                  have hcin : yin (nd_commitsOf (nI s) (ns k)) mo.1 := commits_in h60 N.1 8 0 0 (by omega) yin_0
                  have htin : yin (md_tips 0 0 3 mn) mo.1 := tips_in (RV_ref N0.1) h60 4 0 0 (by omega) yin_0
                  have e9 : nd_heldSet (ns k) = mn.1 k := N.2.2.2.2.1
                  rw [e15, e9, st_reachOfAll_eq R.1 hcin, st_reachOfAll_eq R.1 (yin_and htin)]
                  have hPin : yin (yR mo mo.1 (nd_commitsOf (nI s) (ns k)) &&& (yR mo mo.1 (md_tips 0 0 3 mn &&& mn.1 k) ^^^ (-1))) mo.1 := yin_and (R.1.reachIn hcin)
                  obtain ⟨q1, q2⟩ := fill_pack R.1 (set := yR mo mo.1 (nd_commitsOf (nI s) (ns k)) &&& (yR mo mo.1 (md_tips 0 0 3 mn &&& mn.1 k) ^^^ (-1))) R.2.2.2.1
                  obtain ⟨z1, z2⟩ := carry_end (tg := tg) (mw := mw) (vd' := (px_judge (nI s) so vd (ns k) (ns 0)).2) R hs hk hk0 hu hu0 hPin hA q2 q1
                  rw [z1]
                  split
                  · exact ⟨rfl, z2⟩
                  · exact ⟨rfl, z2⟩
                · rw [if_neg hj, if_neg hj]
                  obtain ⟨q1, q2⟩ := fill_pack R.1 (set := 0) R.2.2.2.1
                  rw [pack_0 h60] at q1
                  exact ⟨rfl, R.1, R.2.1, R.2.2.1, q1, rfl⟩
              · rw [if_neg hh, if_neg hh]
                exact ⟨(by first | rfl | trivial), R⟩
        · simp only [if_neg h1, if_neg h2, if_neg h3, if_neg h4]
          exact ⟨(by first | rfl | trivial), R⟩
end PU
