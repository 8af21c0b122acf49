/-! fetch and push -/
theorem chb1 : ∀ s, s < 16 → ∀ i, i < 8 → ((yishr (nI s) (nI i) &&& 1) = 1 ↔ px_isChosen (nI s) (nI i) = true) := by decide +kernel
theorem chb0 : ∀ s, s < 16 → ∀ i, i < 8 → ((yishr (nI s) (nI i) &&& 1) = 0 ↔ ¬ px_isChosen (nI s) (nI i) = true) := by decide +kernel
theorem ch4 : ∀ s, s < 16 → ∀ i, i < 8 → 4 ≤ i → ¬ px_isChosen (nI s) (nI i) = true := by decide +kernel
theorem isClient_of {x : Int32} {r : Bool} (e : px_isNode x = r) : px_isClient x = (if r = true then (if x = 0 then false else true) else false) := by
  subst e
  rfl
theorem isNode_val (x : Int32) : px_isNode x = (if x < 0 then false else (if 2 < x then false else true)) := isNode_eq x
theorem isClient_eq (x : Int32) {α : Type} (a b : α) : (if px_isClient x = true then a else b) = if x < 1 then b else if 2 < x then b else a := by
  have a0 : (0 : Int32).toInt = 0 := rfl
  have a1 : (1 : Int32).toInt = 1 := rfl
  by_cases h1 : x < 1
  · have c : px_isClient x = false := by
      by_cases h0 : x < 0
      · have e : px_isNode x = false := by rw [isNode_val, if_pos h0]
        rw [isClient_of e, if_neg (by decide)]
      · have e : x = 0 := by
          apply Int32.toInt_inj.mp
          rw [yy_lti] at h0 h1
          omega
        subst e
        decide
    rw [if_pos h1, if_neg (show ¬ px_isClient x = true by rw [c]; decide)]
  · have h0 : ¬ x < 0 := by
      rw [yy_lti] at h1 ⊢
      omega
    have hz : ¬ x = 0 := fun e => h1 (by rw [e]; decide)
    rw [if_neg h1]
    by_cases h2 : 2 < x
    · have e : px_isNode x = false := by rw [isNode_val, if_neg h0, if_pos h2]
      have c : px_isClient x = false := by rw [isClient_of e, if_neg (by decide)]
      rw [if_pos h2, if_neg (show ¬ px_isClient x = true by rw [c]; decide)]
    · have e : px_isNode x = true := by rw [isNode_val, if_neg h0, if_neg h2]
      have c : px_isClient x = true := by rw [isClient_of e, if_pos rfl, if_neg hz]
      rw [if_neg h2, if_pos c]
theorem isSet_eq (x : Int32) {α : Type} (a b : α) : (if px_isSet x = true then a else b) = if x < 1 then b else if x ≤ 15 then a else b := by
  unfold px_isSet
  have e : (15 : Int32) < x ↔ ¬ x ≤ 15 := by
    rw [yy_lei, yy_lti]
    omega
  by_cases h0 : x < 1
  · rw [if_pos h0, if_pos h0, if_neg (by decide)]
  · rw [if_neg h0, if_neg h0]
    by_cases h3 : x ≤ 15
    · rw [if_pos h3, if_neg (fun hh => (e.mp hh) h3), if_pos rfl]
    · rw [if_neg h3, if_pos (e.mpr h3), if_neg (by decide)]
theorem set_nat {x : Int32} (h0 : ¬ x < 1) (h : x ≤ 15) : ∃ s, s < 16 ∧ x = nI s := by
  have hn : ¬ x < 0 := by
    rw [yy_lti] at h0 ⊢
    have a0 : (0 : Int32).toInt = 0 := rfl
    have a1 : (1 : Int32).toInt = 1 := rfl
    omega
  obtain ⟨j, hj, e⟩ := nI_of2 (M := 15) (n := 15) rfl hn h
  exact ⟨j, by omega, e⟩
section FE
variable {so : SS} {tk : TS} {pk : PS} {vd tg : Nat → Int32} {ns : Nat → NS} {mo : MO} {mn : MN} {mw : MW} {mt : MT} {mv : Nat → Int32} {mp : MP} {s : Nat}
theorem commits_tail {nd : NS} (hs : s < 16) : ∀ (f i : Nat) (acc : Int64), 4 ≤ i → i + f = 8 → nd_commitsOf_L5 (nI s) nd f i acc = acc
  | 0, i, acc, _, _ => rfl
  | f + 1, i, acc, h4, h => by
    rw [nd_commitsOf_L5]
    simp only [yb]
    rw [if_neg (ch4 s hs i (by omega) h4)]
    exact commits_tail hs f (i + 1) acc (by omega) (by omega)
theorem commits_in {nd : NS} {set : Int32} {rf : Nat → Int32} {k n : Nat} (hn : n ≤ 60) (hV : RV nd.1 rf k n) : ∀ (f i : Nat) (acc : Int64), i + f = 8 → yin acc n → yin (nd_commitsOf_L5 set nd f i acc) n
  | 0, i, acc, _, ha => ha
  | f + 1, i, acc, h, ha => by
    rw [nd_commitsOf_L5]
    simp only [yb]
    obtain ⟨v, hv, v1, v2⟩ := hV i (by omega)
    rw [v2]
    split
    · split
      · exact commits_in hn hV f (i + 1) acc (by omega) ha
      · rename_i hne
        have : v ≠ 0 := fun h0 => hne ((pv_m1 v (by omega)).mpr h0)
        obtain ⟨w, rfl⟩ : ∃ w, v = w + 1 := ⟨v - 1, by omega⟩
        rw [nI_pred]
        exact commits_in hn hV f (i + 1) _ (by omega) (yin_or ha (yin_1 (by omega) (by omega)))
    · exact commits_in hn hV f (i + 1) acc (by omega) ha
theorem ylP_wish {tg : Nat → Int32} {n i : Nat} {v : Nat} (h8 : i < 8) (hv : v ≤ n) (h : ylP tg mw.2.1 mw.2.2 0 n i mw.1) : ylP (upd tg i (nI v - 1)) (md_wish i (nI v) mw).2.1 (md_wish i (nI v) mw).2.2 0 n (i + 1) (md_wish i (nI v) mw).1 := by
  rw [ylP]
  refine Or.inr ⟨mw.1, v, rfl, hv, ?_, ?_, upd_at _ _ _, ?_⟩
  · show yupN mw.2.1 mw.1 i (0 + mw.1) % 8 = i
    rw [Nat.zero_add, yupN_at]
    omega
  · show upd mw.2.2 mw.1 (nI v) (0 + mw.1) = nI v
    rw [Nat.zero_add, upd_at]
  · refine ylP_congr i mw.1 (fun j hj => upd_ne _ _ (by omega)) (fun j hj => ⟨?_, ?_⟩) h
    · show yupN mw.2.1 mw.1 i (0 + j) % 8 = _
      rw [yupN_ne _ _ (by omega)]
    · show upd mw.2.2 mw.1 (nI v) (0 + j) = _
      rw [upd_ne _ _ (by omega)]
theorem ylP_none {tg : Nat → Int32} {wr : Nat → Nat} {wv : Nat → Int32} {n i m : Nat} (h2 : tg i = -2) (h : ylP tg wr wv 0 n i m) : ylP tg wr wv 0 n (i + 1) m := by
  rw [ylP]
  exact Or.inl ⟨h2, h⟩
theorem not_and {w : Nat} (hw : w < 64) (a H : Int64) : (a ||| ylshl 1 (nI w)) &&& (H ^^^ (-1)) = if yx H w = true then a &&& (H ^^^ (-1)) else (a &&& (H ^^^ (-1))) ||| ylshl 1 (nI w) := by
  rw [and_orR, yx_1and hw, yx_not _ hw]
  by_cases h : yx H w = true
  · rw [if_pos h, h, if_neg (by decide), yx_or0]
  · rw [if_neg h, (Bool.not_eq_true _).mp h, if_pos (by decide)]
theorem fetch_L {ne : NS} {k : Nat} (hs : s < 16) (ho : mo.1 ≤ 60) (hV : RV ne.1 mn.2.1 0 mo.1) : ∀ (f i : Nat) (acc : Int64) (mw : MW) (tg : Nat → Int32), i + f = 4 → mw.1 ≤ i → ylP tg mw.2.1 mw.2.2 0 mo.1 (4 + i) mw.1 → (∀ j, 4 + i ≤ j → j < 8 → tg j = -2) →
    ∃ mw' : MW, md_fetch_L54 (nI s) mo mn mp f i k (acc &&& (mn.1 k ^^^ (-1))) mw = md_fetch_L54 (nI s) mo mn mp 0 4 k (nd_commitsOf_L5 (nI s) ne (f + 4) i acc &&& (mn.1 k ^^^ (-1))) mw' ∧ mw'.1 ≤ 4 ∧ ylP (px_aimAtValues_L7 (nI s) 4 ne f i tg) mw'.2.1 mw'.2.2 0 mo.1 8 mw'.1
  | 0, i, acc, mw, tg, h, hm, hL, _ => by
    have e : i = 4 := by omega
    subst e
    refine ⟨mw, ?_, hm, hL⟩
    rw [commits_tail hs 4 4 acc (by omega) (by omega)]
  | f + 1, i, acc, mw, tg, h, hm, hL, h2 => by
    have hL1 := ylP_none (h2 (4 + i) (by omega) (by omega)) hL
    have h2' : ∀ j, 4 + (i + 1) ≤ j → j < 8 → tg j = -2 := fun j h1 h3 => h2 j (by omega) h3
    have skip := fetch_L (k := k) hs ho hV f (i + 1) acc mw tg (by omega) (by omega) hL1 h2'
    rw [md_fetch_L54, show f + 1 + 4 = (f + 4) + 1 by omega, nd_commitsOf_L5, px_aimAtValues_L7]
    simp only [yb]
    by_cases hc : px_isChosen (nI s) (nI i) = true
    · rw [if_pos hc, if_pos hc, if_pos ((chb1 s hs i (by omega)).mpr hc)]
      obtain ⟨v, hv, v1, v2⟩ := hV i (by omega)
      rw [Nat.mul_zero, Nat.zero_add] at v1
      rw [valueOf_nI (by omega), v1, v2]
      by_cases h0 : v = 0
      · rw [if_pos ((pv_m1 v (by omega)).mpr h0), if_pos ((pw_le v (by omega)).mpr h0), if_pos ((pv_m1 v (by omega)).mpr h0)]
        exact skip
      · rw [if_neg (fun hh => h0 ((pv_m1 v (by omega)).mp hh)), if_neg (fun hh => h0 ((pw_le v (by omega)).mp hh)), if_neg (fun hh => h0 ((pv_m1 v (by omega)).mp hh))]
        obtain ⟨w, rfl⟩ : ∃ w, v = w + 1 := ⟨v - 1, by omega⟩
        have hLw := ylP_wish (mw := mw) (v := w + 1) (show 4 + i < 8 by omega) hv hL
        rw [nI_pred, show i + 4 = 4 + i by omega]
        rw [nI_pred] at hLw
        have go := fetch_L (k := k) hs ho hV f (i + 1) (acc ||| ylshl 1 (nI w)) (md_wish (4 + i) (nI (w + 1)) mw) (upd tg (4 + i) (nI w)) (by omega) (by show mw.1 + 1 ≤ i + 1; omega) hLw (fun j h1 h3 => by rw [upd_ne _ _ (by omega)]; exact h2' j h1 h3)
        rw [md_has_nI (by omega) ho]
        rw [not_and (by omega)] at go
        by_cases hh : yx (mn.1 k) w = true
        · rw [if_pos hh] at go ⊢
          exact go
        · rw [if_neg hh] at go ⊢
          exact go
    · rw [if_neg hc, if_neg hc, if_neg (fun hh => hc ((chb1 s hs i (by omega)).mp hh))]
      exact skip
theorem talk_in {wants hbs : Int64} {ackd : Int32} (HO : OBJ so mo) : ∀ (k i : Nat) (known left : Int64) (sent : Int32), yin known mo.1 → yin left mo.1 → yin (tk_run_L17 wants hbs so k i known left sent ackd).1 mo.1
  | 0, i, known, left, sent, hk, _ => hk
  | k + 1, i, known, left, sent, hk, hl => by
    rw [tk_run_L17]
    simp only [yb]
    split
    · exact hk
    · split
      · exact hk
      · refine talk_in HO k (i + 1) _ _ _ (yin_or hk ?_) (yin_and hl)
        rw [highest_eq HO.2.1 hl]
        exact yin_and (yhi_in left mo.1 0 (by have := HO.2.1; omega))
theorem ycnt_0 : ycnt 0 60 = 0 := ycnt_none 60 (fun i _ => yx_0 i)
theorem talk_eq {k : Nat} {wants tips : Int64} (HO : OBJ so mo) (hw : yin wants mo.1) (ht : yin tips mo.1) (et : md_tips k 0 7 mn = tips) : tk_run wants (yR mo mo.1 tips &&& st_allOfKind 2 so) (mn.1 0) tk so = if wants = 0 then (0, (0, 0, 0)) else md_converse k wants mo mn (0, 0, 0) := by
  have h60 := HO.2.1
  unfold tk_run
  by_cases h0 : wants = 0
  · subst h0
    rw [if_pos rfl, talk_stop (so := so) (by
      unfold st_eachReachesOne
      rw [HO.1]
      exact eachR_empty HO mo.1 0 (by omega)), jl_many yin_0, ycnt_0]
    rfl
  · rw [if_neg h0, talk_L (mn := mn) HO 60 0 0 _ 0 yin_0 (yin_and (HO.reachIn ht)) (fun q hq => by rw [yx_0] at hq; cases hq) (eachR_0 HO hw h0), md_converse]
    simp only [yb]
    rw [et, md_reach_eq h60, ycnt_0]
    have z : yR mo mo.1 tips &&& (0 : Int64) = 0 := by
      apply yx_ext
      intro i _
      rw [yx_and, yx_0, Bool.and_false]
    have t := conv_L23 (wants := wants) (mn := mn) (mt := (0, 0, 0)) (known := 0) (set := yR mo mo.1 tips) HO mo.1 0 0 (by omega)
    rw [z] at t
    rw [t]
    unfold st_allOfKind
    rw [HO.1]
    rfl
theorem fetch_tail (R : REL so tk pk vd ns mo mn mt mv mp) {k : Nat} (hk : k < 3) (hu : nd_isUp (ns k) = true) {P : Int64} {mt' : MT} {mw' : MW} {tg' : Nat → Int32} (hP : yin P mo.1) (hm : mw'.1 ≤ 4) (hT : ylP tg' mw'.2.1 mw'.2.2 0 mo.1 8 mw'.1) :
    ∃ (z : Int32) (tg'' : Nat → Int32) (ns' : Nat → NS) (mn' : MN), (if (nd_writeMissing P (ns k)).1 = true then (if (nd_transact (nd_writeMissing P (ns k)).2 tg').1 = true then ((nI (pk_length (pk_fill P pk so))), mt', pk_fill P pk so, tg', (yupF ns k (nd_transact (nd_writeMissing P (ns k)).2 tg').2)) else ((-2), mt', pk_fill P pk so, tg', (yupF ns k (nd_transact (nd_writeMissing P (ns k)).2 tg').2))) else ((-2), mt', pk_fill P pk so, tg, (yupF ns k (nd_writeMissing P (ns k)).2))) = (z, mt', pk_fill P pk so, tg'', ns') ∧
      (if (md_store k P mo mn).1 = true then (if (md_transact k (md_store k P mo mn).2 mw').1 = true then ((nI (md_pack P mo mp).1), (md_transact k (md_store k P mo mn).2 mw').2, mw', mt', md_pack P mo mp) else ((-2), (md_transact k (md_store k P mo mn).2 mw').2, mw', mt', md_pack P mo mp)) else ((-2), (md_store k P mo mn).2, mw', mt', md_pack P mo mp)) = (z, mn', mw', mt', md_pack P mo mp) ∧ REL so mt' (pk_fill P pk so) vd ns' mo mn' mt' mv (md_pack P mo mp) := by
  have h60 := R.1.2.1
  obtain ⟨N, U⟩ := R.2.1 k hk
  obtain ⟨⟨s1, s2, s3, s4, s5⟩, _⟩ := n_store h60 hP N U hu
  obtain ⟨f1, f2⟩ := fill_pack R.1 (set := P) R.2.2.2.1
  have R' : REL so mt' (pk_fill P pk so) vd ns mo mn mt' mv (md_pack P mo mp) := ⟨R.1, R.2.1, rfl, f1, R.2.2.2.2⟩
  have el : pk_length (pk_fill P pk so) = (md_pack P mo mp).1 := f1.2.2.2.1
  rw [el]
  by_cases hb : (md_store k P mo mn).1 = true
  · have hb' := s1.trans hb
    rw [if_pos hb, if_pos hb']
    obtain ⟨t1, t2, t3, t4, t5⟩ := n_transact (tg := tg') (mw := mw') h60 s2 s3 (s5 hb') hm hT
    have A : ∀ q, q ≠ k → AGR mn (md_transact k (md_store k P mo mn).2 mw').2 q := fun q hq => AGR_trans (s4 q hq) (t4 q hq)
    rw [t1]
    by_cases hc : (md_transact k (md_store k P mo mn).2 mw').1 = true
    · rw [if_pos hc, if_pos hc]
      exact ⟨_, _, _, _, rfl, rfl, REL_node R' R.1 (Nat.le_refl _) t2 t3 A⟩
    · rw [if_neg hc, if_neg hc]
      exact ⟨_, _, _, _, rfl, rfl, REL_node R' R.1 (Nat.le_refl _) t2 t3 A⟩
  · have hb' : ¬ (nd_writeMissing P (ns k)).1 = true := fun hh => hb (s1.symm.trans hh)
    rw [if_neg hb, if_neg hb']
    exact ⟨_, _, _, _, rfl, rfl, REL_node R' R.1 (Nat.le_refl _) s2 s3 s4⟩
theorem rel_fetch (R : REL so tk pk vd ns mo mn mt mv mp) (node set : Int32) : (x_fetch node set so tk pk tg ns).1 = (md_fetch node set mo mn mw mt mp).1 ∧ REL so (x_fetch node set so tk pk tg ns).2.1 (x_fetch node set so tk pk tg ns).2.2.1 vd (x_fetch node set so tk pk tg ns).2.2.2.2 mo (md_fetch node set mo mn mw mt mp).2.1 (md_fetch node set mo mn mw mt mp).2.2.2.1 mv (md_fetch node set mo mn mw mt mp).2.2.2.2 := by
  have h60 := R.1.2.1
  unfold x_fetch md_fetch
  simp only [yb, yn, isClient_eq, isSet_eq]
  by_cases h1 : node < 1
  · simp only [if_pos h1]
    exact ⟨(by first | rfl | trivial), R⟩
  · by_cases h2 : 2 < node
    · simp only [if_neg h1, if_pos h2]
      exact ⟨(by first | rfl | trivial), R⟩
    · by_cases h3 : set < 1
      · simp only [if_neg h1, if_neg h2, if_pos h3]
        exact ⟨(by first | rfl | trivial), R⟩
      · by_cases h4 : set ≤ 15
        · simp only [if_neg h1, if_neg h2, if_neg h3, if_pos h4]
          obtain ⟨k, hc, hk, en⟩ := yy_natC h1 h2
          obtain ⟨s, hs, rfl⟩ := set_nat h3 h4
          simp only [hc]
          obtain ⟨N, U⟩ := R.2.1 k hk
          obtain ⟨N0, U0⟩ := R.2.1 0 (by decide)
          by_cases hd : mn.2.2.1 k = true
          · rw [dark_up N hd, if_pos hd, if_neg (show ¬ false = true by decide)]
            exact ⟨(by first | rfl | trivial), R⟩
          · have hu := lit_up N hd
            rw [hu, if_neg hd, if_pos rfl]
            by_cases hd0 : mn.2.2.1 0 = true
            · rw [dark_up N0 hd0, if_pos hd0, if_neg (show ¬ false = true by decide)]
              exact ⟨(by first | rfl | trivial), R⟩
            · rw [lit_up N0 hd0, if_neg hd0, if_pos rfl]
              obtain ⟨mw', g1, g2, g3⟩ := fetch_L (mn := mn) (mp := mp) (ne := ns 0) (k := k) hs h60 N0.1 4 0 0 (0, mw.2.1, mw.2.2) (px_clearTargets tg) (by omega) (by show 0 ≤ 0; omega) (ylP_nil 4 (fun i hi => clr_8 tg i (by omega))) (fun j _ h8 => clr_8 tg j h8)
              have z : (0 : Int64) &&& (mn.1 k ^^^ (-1)) = 0 := by
                apply yx_ext
                intro i _
                rw [yx_and, yx_0]
                rfl
              rw [z] at g1
              rw [g1]
              have hcin : yin (nd_commitsOf (nI s) (ns 0)) mo.1 := commits_in h60 N0.1 8 0 0 (by omega) yin_0
              have htin : yin (md_tips k 0 7 mn) mo.1 := tips_in (RV_ref N.1) h60 8 0 0 (by omega) yin_0
              have e9 : nd_heldSet (ns k) = mn.1 k := N.2.2.2.2.1
              have e14 : nd_heldSet (ns 0) = mn.1 0 := N0.2.2.2.2.1
              have hWin : yin (nd_commitsOf (nI s) (ns 0) &&& (mn.1 k ^^^ (-1))) mo.1 := yin_and hcin
              have ec : nd_commitsOf_L5 (nI s) (ns 0) (4 + 4) 0 0 = nd_commitsOf (nI s) (ns 0) := rfl
              have ea : px_aimAtValues (nI s) 4 tg (ns 0) = px_aimAtValues_L7 (nI s) 4 (ns 0) 4 0 (px_clearTargets tg) := rfl
              rw [ec, e9, e14, tips_eq N.1 h60, st_reachOfAll_eq R.1 htin, st_reachOfAll_eq R.1 hWin, ea]
              have et := talk_eq (tk := tk) (k := k) (mn := mn) R.1 hWin htin rfl
              have hKin : yin (tk_run (nd_commitsOf (nI s) (ns 0) &&& (mn.1 k ^^^ (-1))) (yR mo mo.1 (md_tips k 0 7 mn) &&& st_allOfKind 2 so) (mn.1 0) tk so).1 mo.1 := by
                unfold tk_run
                exact talk_in R.1 60 0 0 _ 0 yin_0 (yin_and (R.1.reachIn htin))
              generalize hrun : tk_run (nd_commitsOf (nI s) (ns 0) &&& (mn.1 k ^^^ (-1))) (yR mo mo.1 (md_tips k 0 7 mn) &&& st_allOfKind 2 so) (mn.1 0) tk so = run at et hKin ⊢
              generalize nd_commitsOf (nI s) (ns 0) &&& (mn.1 k ^^^ (-1)) = W at et hWin ⊢
              generalize px_aimAtValues_L7 (nI s) 4 (ns 0) 4 0 (px_clearTargets tg) = tg' at g3 ⊢
              rw [st_reachOfAll_eq R.1 hKin]
              have hPin : yin (yR mo mo.1 W &&& (yR mo mo.1 run.1 ^^^ (-1))) mo.1 := yin_and (R.1.reachIn hWin)
              obtain ⟨q1, q2⟩ := fill_pack R.1 (set := yR mo mo.1 W &&& (yR mo mo.1 run.1 ^^^ (-1))) R.2.2.2.1
              rw [show pk_memberSet (pk_fill (yR mo mo.1 W &&& (yR mo mo.1 run.1 ^^^ (-1))) pk so) = yR mo mo.1 W &&& (yR mo mo.1 run.1 ^^^ (-1)) from q2]
              obtain ⟨zz, tg'', ns', mn', c1, c2, c3⟩ := fetch_tail (tg := tg) (mt' := run.2) R hk hu hPin g2 g3
              have eM : md_fetch_L54 (nI s) mo mn mp 0 4 k W mw' = (zz, mn', mw', run.2, md_pack (yR mo mo.1 W &&& (yR mo mo.1 run.1 ^^^ (-1))) mo mp) := by
                rw [← c2, md_fetch_L54]
                simp only [yb]
                by_cases hW0 : W = 0
                · rw [if_pos hW0] at et
                  subst et
                  rw [if_pos hW0, md_reach_eq h60, md_reach_eq h60]
                · rw [if_neg hW0] at et
                  subst et
                  rw [if_neg hW0, md_reach_eq h60, md_reach_eq h60]
              rw [eM]
              have c1' := c1
              rw [c1']
              exact ⟨rfl, c3⟩
        · simp only [if_neg h1, if_neg h2, if_neg h3, if_neg h4]
          exact ⟨(by first | rfl | trivial), R⟩
end FE
