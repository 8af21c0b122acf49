section RO
variable {so : SS} {tk : TS} {pk : PS} {vd tg : Nat → Int32} {ns : Nat → NS} {mo : MO} {mn : MN} {mw : MW} {mt : MT} {mv : Nat → Int32} {mp : MP}
theorem point_tail (R : REL so tk pk vd ns mo mn mt mv mp) {k rn v : Nat} (hk : k < 3) (hr : rn < 4) (hu : nd_isUp (ns k) = true) (hv : v ≤ mo.1) {cm : Int32} (e : cm = nI v - 1) (e' : cm + 1 = nI v) :
    ∃ (z : Int32) (tg' : Nat → Int32) (ns' : Nat → NS) (mn' : MN) (mw' : MW), (if (nd_transact (ns k) (px_aimAtOne rn cm tg)).1 = true then ((1 : Int32), (px_aimAtOne rn cm tg), (yupF ns k (nd_transact (ns k) (px_aimAtOne rn cm tg)).2)) else ((-2), (px_aimAtOne rn cm tg), (yupF ns k (nd_transact (ns k) (px_aimAtOne rn cm tg)).2))) = (z, tg', ns') ∧ (if (md_transact k mn (md_wish rn (cm + 1) (0, mw.2.1, mw.2.2))).1 = true then ((1 : Int32), (md_transact k mn (md_wish rn (cm + 1) (0, mw.2.1, mw.2.2))).2, (md_wish rn (cm + 1) (0, mw.2.1, mw.2.2))) else ((-2), (md_transact k mn (md_wish rn (cm + 1) (0, mw.2.1, mw.2.2))).2, (md_wish rn (cm + 1) (0, mw.2.1, mw.2.2)))) = (z, mn', mw') ∧ REL so tk pk vd ns' mo mn' mt mv mp := by
  obtain ⟨N, U⟩ := R.2.1 k hk
  have hT := aim_one (tg := tg) (mw := mw) (rn := rn) (v := v) (n := mo.1) (by omega) hv
  rw [← e, ← e'] at hT
  obtain ⟨t1, t2, t3, t4, _⟩ := n_transact (tg := px_aimAtOne rn cm tg) (mw := md_wish rn (cm + 1) (0, mw.2.1, mw.2.2)) R.1.2.1 N U hu (by show 0 + 1 ≤ 4; omega) hT
  rw [t1]
  by_cases hb : (md_transact k mn (md_wish rn (cm + 1) (0, mw.2.1, mw.2.2))).1 = true
  · rw [if_pos hb, if_pos hb]
    exact ⟨_, _, _, _, _, rfl, rfl, REL_node R R.1 (Nat.le_refl _) t2 t3 t4⟩
  · rw [if_neg hb, if_neg hb]
    exact ⟨_, _, _, _, _, rfl, rfl, REL_node R R.1 (Nat.le_refl _) t2 t3 t4⟩
theorem rel_point (R : REL so tk pk vd ns mo mn mt mv mp) (node rf cm : Int32) : (x_point node rf cm so tg ns).1 = (md_point node rf cm mo mn mw).1 ∧ REL so tk pk vd (x_point node rf cm so tg ns).2.2 mo (md_point node rf cm mo mn mw).2.1 mt mv mp := by
  have h60 := R.1.2.1
  unfold x_point md_point
  simp only [yb]
  rw [isNode_eq]
  by_cases hN : md_isNode node = true
  · obtain ⟨k, hc, hk, _⟩ := md_isNode_nat rfl hN
    obtain ⟨N, U⟩ := R.2.1 k hk
    simp only [if_pos hN, yn, hc, isOwn_eq]
    by_cases h0 : rf < 0
    · simp only [if_pos h0]
      exact ⟨(by first | rfl | trivial), R⟩
    · by_cases h3 : rf ≤ 3
      · simp only [if_neg h0, if_pos h3]
        obtain ⟨rn, hrc, hr, _⟩ := yy_nat4 h0 h3
        simp only [hrc]
        by_cases hd : mn.2.2.1 k = true
        · rw [dark_up N hd, if_pos hd, if_neg (show ¬ false = true by decide)]
          exact ⟨(by first | rfl | trivial), R⟩
        · have hu := lit_up N hd
          obtain ⟨v, hv, v1, v2⟩ := N.1 rn (by omega)
          rw [hu, if_pos rfl, if_neg hd, valueOf_nI (by omega), v1, v2]
          have fin : ∀ w, w ≤ mo.1 → cm = nI w - 1 → cm + 1 = nI w → ((nI v - 1 = cm) ↔ (nI v = cm + 1)) := by
            intro w hw e e'
            rw [e', e, pv_inj (by omega) (by omega), nI_eq (by omega) (by omega)]
          by_cases ho : cm = -1
          · have hca : px_isCommitOrAbsent cm so (ns k) = true := by
              unfold px_isCommitOrAbsent
              rw [if_pos ho]
            have e0 : cm = nI 0 - 1 := by rw [ho]; decide +kernel
            have e1 : cm + 1 = nI 0 := by rw [ho]; decide +kernel
            rw [hca, if_pos rfl, if_pos ho]
            by_cases hq : nI v - 1 = cm
            · rw [if_pos hq, if_pos ((fin 0 (by omega) e0 e1).mp hq)]
              exact ⟨(by first | rfl | trivial), R⟩
            · rw [if_neg hq, if_neg (fun hh => hq ((fin 0 (by omega) e0 e1).mpr hh))]
              obtain ⟨z, tg', ns', mn', mw', c1, c2, c3⟩ := point_tail (tg := tg) (mw := mw) R hk hr hu (v := 0) (by omega) e0 e1
              rw [c1, c2]
              exact ⟨rfl, c3⟩
          · have hca : px_isCommitOrAbsent cm so (ns k) = if md_has k cm mo mn = true then (if mo.2.1 cm.toNatClampNeg = 2 then true else false) else false := by
              unfold px_isCommitOrAbsent
              simp only [yb]
              rw [if_neg ho, holdsKind_eq R.1 N]
              split
              · split
                · rfl
                · rfl
              · rfl
            rw [hca, if_neg ho]
            by_cases hoh : md_has k cm mo mn = true
            · obtain ⟨b, hb, eb⟩ := has_lt h60 hoh
              rw [if_pos hoh, if_pos hoh]
              by_cases hok : mo.2.1 cm.toNatClampNeg = 2
              · rw [if_pos hok, if_pos hok, if_pos rfl]
                have e0 : cm = nI (b + 1) - 1 := by rw [eb, nI_pred]
                have e1 : cm + 1 = nI (b + 1) := by rw [eb, nI_1]
                by_cases hq : nI v - 1 = cm
                · rw [if_pos hq, if_pos ((fin (b + 1) (by omega) e0 e1).mp hq)]
                  exact ⟨(by first | rfl | trivial), R⟩
                · rw [if_neg hq, if_neg (fun hh => hq ((fin (b + 1) (by omega) e0 e1).mpr hh))]
                  obtain ⟨z, tg', ns', mn', mw', c1, c2, c3⟩ := point_tail (tg := tg) (mw := mw) R hk hr hu (v := b + 1) (by omega) e0 e1
                  rw [c1, c2]
                  exact ⟨rfl, c3⟩
              · rw [if_neg hok, if_neg hok, if_neg (show ¬ false = true by decide)]
                exact ⟨(by first | rfl | trivial), R⟩
            · rw [if_neg hoh, if_neg hoh, if_neg (show ¬ false = true by decide)]
              exact ⟨(by first | rfl | trivial), R⟩
      · simp only [if_neg h0, if_neg h3]
        exact ⟨(by first | rfl | trivial), R⟩
  · simp only [if_neg hN]
    exact ⟨(by first | rfl | trivial), R⟩
theorem rel_arm (R : REL so tk pk vd ns mo mn mt mv mp) (node n : Int32) : (x_arm node n ns).1 = (md_arm node n mn).1 ∧ REL so tk pk vd (x_arm node n ns).2 mo (md_arm node n mn).2 mt mv mp := by
  unfold x_arm md_arm
  simp only [yb]
  rw [isNode_eq]
  by_cases hN : md_isNode node = true
  · obtain ⟨k, hc, hk, _⟩ := md_isNode_nat rfl hN
    obtain ⟨N, U⟩ := R.2.1 k hk
    simp only [if_pos hN, yn, hc]
    by_cases h1 : n < -1
    · rw [if_pos h1, if_pos h1]
      exact ⟨(by first | rfl | trivial), R⟩
    · by_cases h2 : n ≤ 100
      · rw [if_neg h1, if_neg h1, if_pos h2, if_pos h2]
        obtain ⟨f, hf, e1, e2⟩ : ∃ f, f ≤ 101 ∧ n + 1 = nI f ∧ n = nI f - 1 := by
          by_cases h3 : n < 0
          · have e : n = -1 := by
              rw [yy_lti] at h1 h3
              apply Int32.toInt_inj.mp
              have a0 : (0 : Int32).toInt = 0 := rfl
              have a1 : (-1 : Int32).toInt = -1 := rfl
              omega
            exact ⟨0, by omega, by rw [e]; decide +kernel, by rw [e]; decide +kernel⟩
          · obtain ⟨j, hj, e⟩ := nI_of2 (M := 100) (n := 100) rfl h3 h2
            exact ⟨j + 1, by omega, by rw [e, nI_1], by rw [e, nI_pred]⟩
        obtain ⟨hV, hP, hL, e5, e6, hi⟩ := N
        refine ⟨rfl, REL_node R R.1 (Nat.le_refl _) ⟨hV, ⟨hP.1, f, hf, ?_, e2⟩, hL, e5, e6, hi⟩ U (fun q hq => ⟨rfl, fun _ _ => rfl, rfl, upd_ne _ _ hq, rfl, rfl, fun _ _ => ⟨rfl, rfl⟩⟩)⟩
        show upd mn.2.2.2.1 k (n + 1) k = nI f
        rw [upd_at, e1]
      · rw [if_neg h1, if_neg h1, if_neg h2, if_neg h2]
        exact ⟨(by first | rfl | trivial), R⟩
  · simp only [if_neg hN]
    exact ⟨(by first | rfl | trivial), R⟩
theorem rel_recover (R : REL so tk pk vd ns mo mn mt mv mp) (node : Int32) : (x_recover node ns).1 = (md_recover node mn).1 ∧ REL so tk pk vd (x_recover node ns).2 mo (md_recover node mn).2 mt mv mp := by
  unfold x_recover md_recover
  simp only [yb]
  rw [isNode_eq]
  by_cases hN : md_isNode node = true
  · obtain ⟨k, hc, hk, _⟩ := md_isNode_nat rfl hN
    obtain ⟨N, U⟩ := R.2.1 k hk
    simp only [if_pos hN, yn, hc]
    by_cases hd : mn.2.2.1 k = true
    · have hu := dark_up N hd
      rw [hu, if_pos hd, if_neg (show ¬ false = true by decide)]
      obtain ⟨x, nd', mn', e1, e2, a1, a2, a3⟩ := n_recover R.1.2.1 N hu
      simp only [yb] at e2
      rw [e1, e2]
      exact ⟨rfl, REL_node R R.1 (Nat.le_refl _) a1 a2 a3⟩
    · rw [lit_up N hd, if_neg hd, if_pos rfl]
      exact ⟨(by first | rfl | trivial), R⟩
  · simp only [if_neg hN]
    exact ⟨(by first | rfl | trivial), R⟩
theorem chosen_all : ∀ i, i < 8 → px_isChosen 255 (nI i) = true := by decide +kernel
theorem chosen_own : ∀ i, i < 8 → px_isChosen 15 (nI i) = decide (i < 4) := by decide +kernel
theorem tips_L {nd : NS} {k n : Nat} (hV : RV nd.1 mn.2.1 k n) (hn : n ≤ 60) : ∀ (f i : Nat) (acc : Int64), i + f = 8 → nd_commitsOf_L5 255 nd f i acc = md_tips_L6 k mn f i acc
  | 0, i, acc, _ => rfl
  | f + 1, i, acc, h => by
    rw [nd_commitsOf_L5, md_tips_L6]
    simp only [yb]
    obtain ⟨v, hv, v1, v2⟩ := hV i (by omega)
    rw [chosen_all i (by omega), if_pos rfl, v1, v2]
    by_cases h0 : v = 0
    · rw [if_pos ((pv_m1 v (by omega)).mpr h0), if_pos ((pw_le v (by omega)).mpr h0)]
      exact tips_L hV hn f (i + 1) acc (by omega)
    · rw [if_neg (fun hh => h0 ((pv_m1 v (by omega)).mp hh)), if_neg (fun hh => h0 ((pw_le v (by omega)).mp hh))]
      exact tips_L hV hn f (i + 1) _ (by omega)
theorem tips_eq {nd : NS} {k n : Nat} (hV : RV nd.1 mn.2.1 k n) (hn : n ≤ 60) : nd_commitsOf 255 nd = md_tips k 0 7 mn := by
  unfold nd_commitsOf md_tips
  exact tips_L hV hn 8 0 0 (by omega)
theorem tips_in {k n : Nat} (hV : ∀ r, r < 8 → ∃ v, v ≤ n ∧ mn.2.1 (8 * k + r) = nI v) (hn : n ≤ 60) : ∀ (f i : Nat) (acc : Int64), i + f ≤ 8 → yin acc n → yin (md_tips_L6 k mn f i acc) n
  | 0, i, acc, _, ha => ha
  | f + 1, i, acc, h, ha => by
    rw [md_tips_L6]
    obtain ⟨v, hv, v1⟩ := hV i (by omega)
    rw [v1]
    by_cases h0 : v = 0
    · rw [if_pos ((pw_le v (by omega)).mpr h0)]
      exact tips_in hV hn f (i + 1) acc (by omega) ha
    · rw [if_neg (fun hh => h0 ((pw_le v (by omega)).mp hh))]
      obtain ⟨w, rfl⟩ : ∃ w, v = w + 1 := ⟨v - 1, by omega⟩
      rw [nI_pred]
      exact tips_in hV hn f (i + 1) _ (by omega) (yin_or ha (yin_1 (by omega) (by omega)))
theorem RV_ref {va : Nat → Int32} {k n : Nat} (hV : RV va mn.2.1 k n) : ∀ r, r < 8 → ∃ v, v ≤ n ∧ mn.2.1 (8 * k + r) = nI v := fun r hr => by
  obtain ⟨v, hv, v1, _⟩ := hV r hr
  exact ⟨v, hv, v1⟩
theorem rel_collect (R : REL so tk pk vd ns mo mn mt mv mp) (node : Int32) : (x_collect node so ns).1 = (md_collect node mo mn).1 ∧ REL so tk pk vd (x_collect node so ns).2 mo (md_collect node mo mn).2 mt mv mp := by
  have h60 := R.1.2.1
  unfold x_collect md_collect
  simp only [yb]
  rw [isNode_eq]
  by_cases hN : md_isNode node = true
  · obtain ⟨k, hc, hk, _⟩ := md_isNode_nat rfl hN
    obtain ⟨N, U⟩ := R.2.1 k hk
    simp only [if_pos hN, yn, hc]
    by_cases hd : mn.2.2.1 k = true
    · rw [dark_up N hd, if_pos hd, if_neg (show ¬ false = true by decide)]
      exact ⟨(by first | rfl | trivial), R⟩
    · have hin : yin (md_tips k 0 7 mn) mo.1 := tips_in (RV_ref N.1) h60 8 0 0 (by omega) yin_0
      rw [lit_up N hd, if_neg hd, if_pos rfl, tips_eq N.1 h60, st_reachOfAll_eq R.1 hin, md_reach_eq h60]
      obtain ⟨hV, hP, hL, e5, e6, hi⟩ := N
      have hz : yin (mn.1 k &&& yR mo mo.1 (md_tips k 0 7 mn)) mo.1 := yin_and hi
      rw [nd_keepOnly]
      simp only [yb]
      rw [e6, jl_md (yin_mono hi h60), jl_md (yin_mono hz h60)]
      refine ⟨rfl, REL_node R R.1 (Nat.le_refl _) ⟨hV, hP, hL, e5, ?_, ?_⟩ U (fun q hq => ⟨updL_ne _ _ hq, fun _ _ => rfl, rfl, rfl, rfl, rfl, fun _ _ => ⟨rfl, rfl⟩⟩)⟩
      · show mn.1 k &&& yR mo mo.1 (md_tips k 0 7 mn) = vp_updL mn.1 k (mn.1 k &&& yR mo mo.1 (md_tips k 0 7 mn)) k
        rw [updL_at]
      · show yin (vp_updL mn.1 k (mn.1 k &&& yR mo mo.1 (md_tips k 0 7 mn)) k) mo.1
        rw [updL_at]
        exact hz
  · simp only [if_neg hN]
    exact ⟨(by first | rfl | trivial), R⟩
theorem rel_up (R : REL so tk pk vd ns mo mn mt mv mp) (node : Int32) : x_up node ns = md_up node mn := by
  unfold x_up md_up
  simp only [yb]
  rw [isNode_eq]
  by_cases hN : md_isNode node = true
  · obtain ⟨k, hc, hk, _⟩ := md_isNode_nat rfl hN
    obtain ⟨N, U⟩ := R.2.1 k hk
    simp only [if_pos hN, yn, hc]
    by_cases hd : mn.2.2.1 k = true
    · rw [dark_up N hd, if_pos hd, if_neg (show ¬ false = true by decide)]
    · rw [lit_up N hd, if_neg hd, if_pos rfl]
  · simp only [if_neg hN]
theorem rel_reference (R : REL so tk pk vd ns mo mn mt mv mp) (node rf : Int32) : x_reference node rf ns = md_reference node rf mn := by
  have h60 := R.1.2.1
  unfold x_reference md_reference
  simp only [yb]
  rw [isNode_eq]
  by_cases hN : md_isNode node = true
  · obtain ⟨k, hc, hk, _⟩ := md_isNode_nat rfl hN
    obtain ⟨N, U⟩ := R.2.1 k hk
    simp only [if_pos hN, yn, hc]
    by_cases h0 : rf < 0
    · rw [if_pos h0, if_pos h0]
    · rw [if_neg h0, if_neg h0]
      have e : rf < 8 ↔ rf ≤ 7 := by
        rw [yy_lei, yy_lti]
        have e3 : (8 : Int32).toInt = 8 := rfl
        have e2 : (7 : Int32).toInt = 7 := rfl
        omega
      by_cases h7 : rf ≤ 7
      · rw [if_pos h7, if_pos (e.mpr h7)]
        obtain ⟨rn, hrc, hr, er⟩ := yy_nat8 h0 h7
        rw [hrc]
        by_cases hd : mn.2.2.1 k = true
        · rw [dark_up N hd, if_pos hd, if_neg (show ¬ false = true by decide)]
        · obtain ⟨v, hv, v1, v2⟩ := N.1 rn hr
          rw [lit_up N hd, if_neg hd, if_pos rfl, er, valueOf_nI hr, v1, v2]
          by_cases hz : v = 0
          · rw [if_pos ((pv_m1 v (by omega)).mpr hz), if_pos ((pw_0 v (by omega)).mpr hz)]
          · rw [if_neg (fun hh => hz ((pv_m1 v (by omega)).mp hh)), if_neg (fun hh => hz ((pw_0 v (by omega)).mp hh))]
      · rw [if_neg h7, if_neg (fun hh => h7 (e.mp hh))]
  · simp only [if_neg hN]
theorem rel_holds (R : REL so tk pk vd ns mo mn mt mv mp) (node num : Int32) : x_holds node num ns = md_holds node num mo mn := by
  have h60 := R.1.2.1
  unfold x_holds md_holds
  simp only [yb]
  rw [isNode_eq]
  by_cases hN : md_isNode node = true
  · obtain ⟨k, hc, hk, _⟩ := md_isNode_nat rfl hN
    obtain ⟨N, U⟩ := R.2.1 k hk
    simp only [if_pos hN, yn, hc]
    by_cases hd : mn.2.2.1 k = true
    · rw [dark_up N hd, if_pos hd, if_neg (show ¬ false = true by decide)]
    · rw [lit_up N hd, if_neg hd, if_pos rfl, isIn_has (k := k) (mn := mn) (x := nd_heldSet (ns k)) h60 N.2.2.2.2.1 (by rw [show nd_heldSet (ns k) = mn.1 k from N.2.2.2.2.1]; exact N.2.2.2.2.2)]
  · simp only [if_neg hN]
theorem cnt_key {nd : NS} {k n : Nat} (hn : n ≤ 60) (N : NOD nd mn k n) : jl_bitCount (nd_heldSet nd) = md_many (mn.1 k) := by
  obtain ⟨n1, n2, n3, n4, n5, n6⟩ := N
  have e9 : nd_heldSet nd = mn.1 k := n5
  have e8 : jl_bitCount (mn.1 k) = md_many (mn.1 k) := jl_md (yin_mono n6 hn)
  exact (congrArg jl_bitCount e9).trans e8
theorem cnt_walk (J M : Int64 → Int32) (hJ : ∀ k, k < 3 → J (nd_heldSet (ns k)) = M (mn.1 k)) (R : REL so tk pk vd ns mo mn mt mv mp) (node : Int32) : (yb (px_isNode node) fun r1 => (if r1 = true then (yn node fun nk => (yb (nd_isUp (ns nk)) fun r3 => (if r3 = true then (yb (nd_heldSet (ns nk)) fun r5 => (yb (J r5) fun r6 => r6)) else (-2)))) else (-1))) = (yb (md_isNode node) fun r1 => (if r1 = true then (yn node fun nk => (if mn.2.2.1 nk = true then (-2) else (yb (M (mn.1 nk)) fun r4 => r4))) else (-1))) := by
  simp only [yb]
  rw [isNode_eq]
  by_cases hN : md_isNode node = true
  · obtain ⟨k, hc, hk, _⟩ := md_isNode_nat rfl hN
    obtain ⟨N, U⟩ := R.2.1 k hk
    simp only [if_pos hN, yn, hc]
    by_cases hd : mn.2.2.1 k = true
    · rw [dark_up N hd, if_pos hd, if_neg (show ¬ false = true by decide)]
    · rw [lit_up N hd, if_neg hd, if_pos rfl]
      exact hJ k hk
  · simp only [if_neg hN]
theorem rel_count (R : REL so tk pk vd ns mo mn mt mv mp) (node : Int32) : x_count node ns = md_count node mn := by
  rw [x_count, md_count]
  exact cnt_walk jl_bitCount md_many (fun k hk => cnt_key R.1.2.1 (R.2.1 k hk).1) R node
theorem rel_talk (R : REL so tk pk vd ns mo mn mt mv mp) (w : Int32) : x_talk w tk = md_talk w mt := by
  have e : tk = mt := R.2.2.1
  subst e
  unfold x_talk md_talk tk_havesSent tk_havesAcknowledged tk_roundsHeld
  simp only [yb]
  by_cases h0 : w = 0
  · subst h0
    rw [if_pos rfl, if_neg (by decide), if_pos (by decide), if_pos rfl]
  · by_cases h1 : w = 1
    · subst h1
      rw [if_neg (by decide), if_pos rfl, if_neg (by decide), if_pos (by decide), if_neg (by decide), if_pos rfl]
    · by_cases h2 : w = 2
      · subst h2
        rw [if_neg (by decide), if_neg (by decide), if_pos rfl, if_neg (by decide), if_pos (by decide), if_neg (by decide), if_neg (by decide)]
      · rw [if_neg h0, if_neg h1, if_neg h2]
        by_cases hn : w < 0
        · rw [if_pos hn]
        · rw [if_neg hn, if_neg]
          intro h3
          obtain ⟨j, hj, rfl⟩ := nI_of2 (M := 2) (n := 2) rfl hn h3
          rcases (show j = 0 ∨ j = 1 ∨ j = 2 by omega) with rfl | rfl | rfl
          · exact h0 rfl
          · exact h1 rfl
          · exact h2 rfl
theorem rel_packed (R : REL so tk pk vd ns mo mn mt mv mp) : x_packed pk = md_packed mp := R.2.2.2.1.2.2.2.1
theorem place_eq {α : Type} {pl : Int32} {n : Nat} (a b : α) : (if (if pl < 0 then false else (if nI n ≤ pl then false else true)) = true then a else b) = if pl < 0 then b else if pl < nI n then a else b := by
  by_cases h0 : pl < 0
  · rw [if_pos h0, if_pos h0, if_neg (by decide)]
  · rw [if_neg h0, if_neg h0]
    by_cases h1 : nI n ≤ pl
    · rw [if_pos h1, if_neg (by decide), if_neg (show ¬ pl < nI n by rw [yy_lti]; rw [yy_lei] at h1; omega)]
    · rw [if_neg h1, if_pos rfl, if_pos (show pl < nI n by rw [yy_lti]; rw [yy_lei] at h1; omega)]
theorem rel_packAt (R : REL so tk pk vd ns mo mn mt mv mp) (pl : Int32) : x_packAt pl pk = md_packAt pl mp := by
  obtain ⟨p1, p2, p3, p4, p5, p6⟩ := R.2.2.2.1
  unfold x_packAt md_packAt pk_objectAt pk_isPlace
  simp only [yb]
  rw [place_eq, p1, p4]
theorem rel_base (R : REL so tk pk vd ns mo mn mt mv mp) (pl : Int32) : x_base pl pk = md_base pl mp := by
  obtain ⟨p1, p2, p3, p4, p5, p6⟩ := R.2.2.2.1
  unfold x_base md_base pk_baseAt pk_isPlace
  simp only [yb]
  rw [place_eq, p2, p4]
theorem rel_weight (R : REL so tk pk vd ns mo mn mt mv mp) : x_weight pk = md_weight mp := by
  rw [weight_eq]
  exact R.2.2.2.1.2.2.2.2.2
theorem rel_verdict (R : REL so tk pk vd ns mo mn mt mv mp) (r : Int32) : x_verdict r vd = md_verdict r mv := by
  have e : vd = mv := R.2.2.2.2
  subst e
  unfold x_verdict md_verdict
  simp only [yb]
  rw [isOwn_eq]
end RO
