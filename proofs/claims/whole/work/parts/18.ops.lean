/-! the calls, one by one: the same answers, and the states stay alike -/
def REL (so : SS) (tk : TS) (pk : PS) (vd : Nat → Int32) (ns : Nat → NS) (mo : MO) (mn : MN) (mt : MT) (mv : Nat → Int32) (mp : MP) : Prop := OBJ so mo ∧ (∀ k, k < 3 → NOD (ns k) mn k mo.1 ∧ UPK (ns k)) ∧ tk = mt ∧ PCK pk mp ∧ vd = mv
theorem yupF_at {α : Type} (f : Nat → α) (k : Nat) (v : α) : yupF f k v k = v := by simp [yupF]
theorem yupF_o {α : Type} (f : Nat → α) {k j : Nat} (v : α) (h : j ≠ k) : yupF f k v j = f j := by simp [yupF, h]
theorem isNode_eq (x : Int32) : px_isNode x = md_isNode x := by
  unfold px_isNode md_isNode
  have e : (3 : Int32) ≤ x ↔ 2 < x := by
    rw [yy_lei, yy_lti]
    have e3 : (3 : Int32).toInt = 3 := rfl
    have e2 : (2 : Int32).toInt = 2 := rfl
    omega
  by_cases h0 : x < 0
  · rw [if_pos h0, if_pos h0]
  · rw [if_neg h0, if_neg h0]
    by_cases h3 : (3 : Int32) ≤ x
    · rw [if_pos h3, if_pos (e.mp h3)]
    · rw [if_neg h3, if_neg (fun hh => h3 (e.mpr hh))]
theorem isOwn_eq (x : Int32) {α : Type} (a b : α) : (if px_isOwnReference x = true then a else b) = if x < 0 then b else if x ≤ 3 then a else b := by
  unfold px_isOwnReference
  have e : (4 : Int32) ≤ x ↔ ¬ x ≤ 3 := by
    rw [yy_lei, yy_lei]
    have e3 : (3 : Int32).toInt = 3 := rfl
    have e2 : (4 : Int32).toInt = 4 := rfl
    omega
  by_cases h0 : x < 0
  · rw [if_pos h0, if_pos h0, if_neg (by decide)]
  · rw [if_neg h0, if_neg h0]
    by_cases h3 : x ≤ 3
    · rw [if_pos h3, if_neg (fun hh => (e.mp hh) h3), if_pos rfl]
    · rw [if_neg h3, if_pos (e.mpr h3), if_neg (by decide)]
theorem valueOf_nI {nd : NS} {r : Nat} (h : r < 8) : nd_valueOf (nI r) nd = nd.1 r := by
  unfold nd_valueOf
  rw [if_neg (nI_pos (by omega)), if_neg (show ¬ (8 : Int32) ≤ nI r from nI_ge (b := 8) h (by decide)), nI_clamp (by omega)]
theorem isIn_has {x : Int64} {mo : MO} {mn : MN} {k : Nat} (ho : mo.1 ≤ 60) (e : x = mn.1 k) (hi : yin x mo.1) (num : Int32) : px_isIn x num = md_has k num mo mn := by
  by_cases h0 : num < 0
  · unfold px_isIn md_has
    rw [if_pos h0, if_pos h0]
  · obtain ⟨j, hj, rfl⟩ := nI_of h0
    by_cases h1 : j < mo.1
    · rw [px_isIn_nI (by omega), md_has_nI h1 ho, e]
    · have m : md_has k (nI j) mo mn = false := by
        unfold md_has
        rw [if_neg h0, if_pos (nI_le (by omega) hj)]
      rw [m]
      by_cases h2 : j < 60
      · rw [px_isIn_nI h2]
        exact hi j (by omega)
      · unfold px_isIn
        rw [if_neg h0, if_pos (show (60 : Int32) ≤ nI j from nI_le (a := 60) (by omega) hj)]
theorem has_lt {mo : MO} {mn : MN} {k : Nat} {num : Int32} (ho : mo.1 ≤ 60) (h : md_has k num mo mn = true) : ∃ j, j < mo.1 ∧ num = nI j := by
  unfold md_has at h
  split at h
  · cases h
  · rename_i h0
    obtain ⟨j, hj, rfl⟩ := nI_of h0
    split at h
    · cases h
    · rename_i h1
      refine ⟨j, ?_, rfl⟩
      by_cases h2 : j < mo.1
      · exact h2
      · exact absurd (nI_le (by omega) hj) h1
section RO
variable {so : SS} {tk : TS} {pk : PS} {vd tg : Nat → Int32} {ns : Nat → NS} {mo : MO} {mn : MN} {mw : MW} {mt : MT} {mv : Nat → Int32} {mp : MP}
theorem holdsKind_eq (HO : OBJ so mo) {nd : NS} {k : Nat} (H : NOD nd mn k mo.1) (num kd : Int32) : px_holdsKind num kd so nd = if md_has k num mo mn = true then (if mo.2.1 num.toNatClampNeg = kd then true else false) else false := by
  have h60 := HO.2.1
  have hI : px_isIn (nd_heldSet nd) num = md_has k num mo mn := isIn_has (k := k) (mn := mn) h60 H.2.2.2.2.1 (by rw [H.2.2.2.2.1]; exact H.2.2.2.2.2) num
  unfold px_holdsKind
  simp only [yb]
  rw [hI]
  by_cases hh : md_has k num mo mn = true
  · obtain ⟨j, hj, rfl⟩ := has_lt h60 hh
    rw [if_pos hh, if_pos hh, isOfKind_nI HO hj, nI_clamp (by omega)]
    by_cases hk : mo.2.1 j = kd
    · rw [if_pos hk, if_pos rfl]
    · rw [if_neg hk, if_neg (by decide)]
  · rw [if_neg hh, if_neg hh]
theorem isEntry_eq (HO : OBJ so mo) {nd : NS} {k : Nat} (H : NOD nd mn k mo.1) (num : Int32) : px_isEntry num so nd = md_entry k num mo mn := by
  have h60 := HO.2.1
  unfold px_isEntry md_entry
  simp only [yb]
  rw [holdsKind_eq HO H, holdsKind_eq HO H]
  by_cases hh : md_has k num mo mn = true
  · obtain ⟨j, hj, rfl⟩ := has_lt h60 hh
    rw [if_pos hh, if_pos hh, if_pos hh, nI_clamp (by omega)]
    rcases HO.2.2.2.2.2.2.1 j hj with hv | ⟨hv | hv, _⟩
    · rw [hv]
      decide
    · rw [hv]
      decide
    · rw [hv]
      decide
  · rw [if_neg hh, if_neg hh, if_neg hh]
    rfl
theorem REL_node (R : REL so tk pk vd ns mo mn mt mv mp) {k : Nat} {so' : SS} {mo' : MO} {mn' : MN} {nd' : NS} (HO : OBJ so' mo') (hle : mo.1 ≤ mo'.1) (N : NOD nd' mn' k mo'.1) (U : UPK nd') (A : ∀ q, q ≠ k → AGR mn mn' q) : REL so' tk pk vd (yupF ns k nd') mo' mn' mt mv mp := by
  obtain ⟨_, RN, r1, r2, r3⟩ := R
  refine ⟨HO, fun q hq => ?_, r1, r2, r3⟩
  by_cases hk : q = k
  · subst hk
    rw [yupF_at]
    exact ⟨N, U⟩
  · rw [yupF_o _ _ hk]
    exact ⟨NOD_mono hle (NOD_agr (A q hk) (RN q hq).1), (RN q hq).2⟩
theorem dark_up {nd : NS} {k n : Nat} (H : NOD nd mn k n) (h : mn.2.2.1 k = true) : nd_isUp nd = false := by
  show nd.2.2.2.2.2.1 = false
  rw [H.2.1.1, h]
  rfl
theorem lit_up {nd : NS} {k n : Nat} (H : NOD nd mn k n) (h : ¬ mn.2.2.1 k = true) : nd_isUp nd = true := by
  show nd.2.2.2.2.2.1 = true
  rw [H.2.1.1, (Bool.not_eq_true _).mp h]
  rfl
theorem rel_blob (R : REL so tk pk vd ns mo mn mt mv mp) (node content : Int32) : (x_blob node content so ns).1 = (md_blob node content mo mn).1 ∧ REL (x_blob node content so ns).2.1 tk pk vd (x_blob node content so ns).2.2 (md_blob node content mo mn).2.1 (md_blob node content mo mn).2.2 mt mv mp := by
  unfold x_blob md_blob
  simp only [yb]
  rw [isNode_eq]
  by_cases hN : md_isNode node = true
  · obtain ⟨k, hc, hk, _⟩ := md_isNode_nat rfl hN
    obtain ⟨N, U⟩ := R.2.1 k hk
    simp only [if_pos hN, yn, hc]
    by_cases hd : mn.2.2.1 k = true
    · rw [dark_up N hd, if_pos hd, if_neg (show ¬ false = true by decide)]
      exact ⟨(by first | rfl | trivial), R⟩
    · have hu := lit_up N hd
      rw [hu, if_pos rfl, if_neg hd]
      obtain ⟨x, so', nd', mo', mn', e1, e2, a1, a2, a3, a4, a5, _⟩ := n_make R.1 N U hu (kd := 0) (f1 := content) (f2 := -1) (f3 := -1) (Or.inl rfl)
      rw [e1, e2]
      exact ⟨rfl, REL_node R a1 a5 a2 a3 a4⟩
  · simp only [if_neg hN]
    exact ⟨(by first | rfl | trivial), R⟩
theorem entry_lt (HO : OBJ so mo) {k : Nat} {num : Int32} (h : md_entry k num mo mn = true) : ∃ j, j < mo.1 ∧ num = nI j := by
  unfold md_entry at h
  simp only [yb] at h
  split at h
  · exact has_lt HO.2.1 ‹_›
  · cases h
theorem rel_tree (R : REL so tk pk vd ns mo mn mt mv mp) (node f1 f2 : Int32) : (x_tree node f1 f2 so ns).1 = (md_tree node f1 f2 mo mn).1 ∧ REL (x_tree node f1 f2 so ns).2.1 tk pk vd (x_tree node f1 f2 so ns).2.2 (md_tree node f1 f2 mo mn).2.1 (md_tree node f1 f2 mo mn).2.2 mt mv mp := by
  unfold x_tree md_tree
  simp only [yb]
  rw [isNode_eq]
  by_cases hN : md_isNode node = true
  · obtain ⟨k, hc, hk, _⟩ := md_isNode_nat rfl hN
    obtain ⟨N, U⟩ := R.2.1 k hk
    simp only [if_pos hN, yn, hc]
    by_cases hd : mn.2.2.1 k = true
    · rw [dark_up N hd, if_pos hd, if_neg (show ¬ false = true by decide)]
      exact ⟨(by first | rfl | trivial), R⟩
    · have hu := lit_up N hd
      rw [hu, if_pos rfl, if_neg hd, isEntry_eq R.1 N, isEntry_eq R.1 N]
      by_cases h1 : md_entry k f1 mo mn = true
      · rw [if_pos h1, if_pos h1]
        obtain ⟨a, ha, ea⟩ := entry_lt R.1 h1
        by_cases h2 : f2 = -1
        · rw [if_pos h2, if_pos h2]
          obtain ⟨x, so', nd', mo', mn', e1, e2, a1, a2, a3, a4, a5, _⟩ := n_make R.1 N U hu (kd := 1) (f1 := f1) (f2 := f2) (f3 := -1) (Or.inr ⟨Or.inl rfl, ⟨a, ha, ea⟩, Or.inl h2, Or.inl rfl⟩)
          rw [e1, e2]
          exact ⟨rfl, REL_node R a1 a5 a2 a3 a4⟩
        · rw [if_neg h2, if_neg h2]
          by_cases h3 : md_entry k f2 mo mn = true
          · rw [if_pos h3, if_pos h3]
            obtain ⟨x, so', nd', mo', mn', e1, e2, a1, a2, a3, a4, a5, _⟩ := n_make R.1 N U hu (kd := 1) (f1 := f1) (f2 := f2) (f3 := -1) (Or.inr ⟨Or.inl rfl, ⟨a, ha, ea⟩, Or.inr (entry_lt R.1 h3), Or.inl rfl⟩)
            rw [e1, e2]
            exact ⟨rfl, REL_node R a1 a5 a2 a3 a4⟩
          · rw [if_neg h3, if_neg h3]
            exact ⟨(by first | rfl | trivial), R⟩
      · rw [if_neg h1, if_neg h1]
        exact ⟨(by first | rfl | trivial), R⟩
  · simp only [if_neg hN]
    exact ⟨(by first | rfl | trivial), R⟩
theorem aim_one {rn v n : Nat} (hr : rn < 8) (hv : v ≤ n) : ylP (px_aimAtOne rn (nI v - 1) tg) (md_wish rn (nI v) (0, mw.2.1, mw.2.2)).2.1 (md_wish rn (nI v) (0, mw.2.1, mw.2.2)).2.2 0 n 8 1 := by
  have e : px_aimAtOne rn (nI v - 1) tg = upd (px_clearTargets tg) rn (nI v - 1) := rfl
  rw [e]
  have h1 : ylP (upd (px_clearTargets tg) rn (nI v - 1)) (md_wish rn (nI v) (0, mw.2.1, mw.2.2)).2.1 (md_wish rn (nI v) (0, mw.2.1, mw.2.2)).2.2 0 n (rn + 1) 1 := by
    rw [ylP]
    refine Or.inr ⟨0, v, rfl, hv, ?_, ?_, upd_at _ _ _, ylP_nil rn (fun i hi => ?_)⟩
    · show yupN mw.2.1 0 rn (0 + 0) % 8 = rn
      rw [Nat.add_zero, yupN_at]
      omega
    · show upd mw.2.2 0 (nI v) (0 + 0) = nI v
      rw [Nat.add_zero, upd_at]
    · rw [upd_ne _ _ (by omega)]
      exact clr_8 tg i (by omega)
  have h2 := ylP_pad h1 (8 - (rn + 1)) (fun i h3 h4 => by rw [upd_ne _ _ (by omega)]; exact clr_8 tg i (by omega))
  rw [show rn + 1 + (8 - (rn + 1)) = 8 by omega] at h2
  exact h2
theorem commit_tail (R : REL so tk pk vd ns mo mn mt mv mp) {k rn : Nat} (hk : k < 3) (hr : rn < 4) (hu : nd_isUp (ns k) = true) {a b c : Int32} (hV : VN 2 a b c mo.1) :
    ∃ (z : Int32) (so' : SS) (tg' : Nat → Int32) (ns' : Nat → NS) (mo' : MO) (mn' : MN) (mw' : MW), (if 0 ≤ (px_writeObject 2 a b c so (ns k)).1 then (if (nd_transact (px_writeObject 2 a b c so (ns k)).2.2 (px_aimAtOne rn (px_writeObject 2 a b c so (ns k)).1 tg)).1 = true then ((px_writeObject 2 a b c so (ns k)).1, (px_writeObject 2 a b c so (ns k)).2.1, (px_aimAtOne rn (px_writeObject 2 a b c so (ns k)).1 tg), (yupF ns k (nd_transact (px_writeObject 2 a b c so (ns k)).2.2 (px_aimAtOne rn (px_writeObject 2 a b c so (ns k)).1 tg)).2)) else ((-2), (px_writeObject 2 a b c so (ns k)).2.1, (px_aimAtOne rn (px_writeObject 2 a b c so (ns k)).1 tg), (yupF ns k (nd_transact (px_writeObject 2 a b c so (ns k)).2.2 (px_aimAtOne rn (px_writeObject 2 a b c so (ns k)).1 tg)).2))) else ((px_writeObject 2 a b c so (ns k)).1, (px_writeObject 2 a b c so (ns k)).2.1, tg, (yupF ns k (px_writeObject 2 a b c so (ns k)).2.2))) = (z, so', tg', ns') ∧
      (if 0 ≤ (md_make k 2 a b c mo mn).1 then (if (md_transact k (md_make k 2 a b c mo mn).2.2 (md_wish rn ((md_make k 2 a b c mo mn).1 + 1) (0, mw.2.1, mw.2.2))).1 = true then ((md_make k 2 a b c mo mn).1, (md_make k 2 a b c mo mn).2.1, (md_transact k (md_make k 2 a b c mo mn).2.2 (md_wish rn ((md_make k 2 a b c mo mn).1 + 1) (0, mw.2.1, mw.2.2))).2, (md_wish rn ((md_make k 2 a b c mo mn).1 + 1) (0, mw.2.1, mw.2.2))) else ((-2), (md_make k 2 a b c mo mn).2.1, (md_transact k (md_make k 2 a b c mo mn).2.2 (md_wish rn ((md_make k 2 a b c mo mn).1 + 1) (0, mw.2.1, mw.2.2))).2, (md_wish rn ((md_make k 2 a b c mo mn).1 + 1) (0, mw.2.1, mw.2.2)))) else ((md_make k 2 a b c mo mn).1, (md_make k 2 a b c mo mn).2.1, (md_make k 2 a b c mo mn).2.2, mw)) = (z, mo', mn', mw') ∧ REL so' tk pk vd ns' mo' mn' mt mv mp := by
  obtain ⟨N, U⟩ := R.2.1 k hk
  obtain ⟨x, so', nd', mo', mn', e1, e2, a1, a2, a3, a4, a5, a6⟩ := n_make R.1 N U hu hV
  rw [e1, e2]
  dsimp only
  rcases a6 with a6 | ⟨hu', j, hj, ex⟩
  · have hn : ¬ 0 ≤ x := by
      rw [yy_lei]
      rw [yy_lti] at a6
      omega
    rw [if_neg hn, if_neg hn]
    exact ⟨x, _, _, _, _, _, _, rfl, rfl, REL_node R a1 a5 a2 a3 a4⟩
  · have h60 := a1.2.1
    subst ex
    have hp : 0 ≤ nI j := nI_pos' (by omega)
    rw [if_pos hp, if_pos hp]
    have eJ : nI j = nI (j + 1) - 1 := (nI_pred j).symm
    have hT := aim_one (tg := tg) (mw := mw) (rn := rn) (v := j + 1) (n := mo'.1) (by omega) (by omega)
    rw [← eJ, ← nI_1] at hT
    obtain ⟨t1, t2, t3, t4, _⟩ := n_transact (tg := px_aimAtOne rn (nI j) tg) (mw := md_wish rn (nI j + 1) (0, mw.2.1, mw.2.2)) a1.2.1 a2 a3 hu' (by show 0 + 1 ≤ 4; omega) hT
    have A : ∀ q, q ≠ k → AGR mn (md_transact k mn' (md_wish rn (nI j + 1) (0, mw.2.1, mw.2.2))).2 q := fun q hq => AGR_trans (a4 q hq) (t4 q hq)
    rw [t1]
    by_cases hb : (md_transact k mn' (md_wish rn (nI j + 1) (0, mw.2.1, mw.2.2))).1 = true
    · rw [if_pos hb, if_pos hb]
      exact ⟨_, _, _, _, _, _, _, rfl, rfl, REL_node R a1 a5 t2 t3 A⟩
    · rw [if_neg hb, if_neg hb]
      exact ⟨_, _, _, _, _, _, _, rfl, rfl, REL_node R a1 a5 t2 t3 A⟩
theorem rel_commit (R : REL so tk pk vd ns mo mn mt mv mp) (node rf tree other : Int32) : (x_commit node rf tree other so tg ns).1 = (md_commit node rf tree other mo mn mw).1 ∧ REL (x_commit node rf tree other so tg ns).2.1 tk pk vd (x_commit node rf tree other so tg ns).2.2.2 (md_commit node rf tree other mo mn mw).2.1 (md_commit node rf tree other mo mn mw).2.2.1 mt mv mp := by
  have h60 := R.1.2.1
  unfold x_commit md_commit
  simp only [yb]
  rw [isNode_eq]
  by_cases hN : md_isNode node = true
  · obtain ⟨k, hc, hk, _⟩ := md_isNode_nat rfl hN
    obtain ⟨N, U⟩ := R.2.1 k hk
    simp only [if_pos hN, yn, hc, isOwn_eq]
    by_cases h0 : rf < 0
    · simp only [if_pos h0]
      exact ⟨(by first | rfl | trivial), R⟩
    · by_cases h3 : rf ≤ 3
      · simp only [if_neg h0, if_pos h3]
        obtain ⟨rn, hrc, hr, _⟩ := yy_nat4 h0 h3
        simp only [hrc]
        by_cases hd : mn.2.2.1 k = true
        · rw [dark_up N hd, if_pos hd, if_neg (show ¬ false = true by decide)]
          exact ⟨(by first | rfl | trivial), R⟩
        · have hu := lit_up N hd
          obtain ⟨v, hv, v1, v2⟩ := N.1 rn (by omega)
          rw [hu, if_pos rfl, if_neg hd, holdsKind_eq R.1 N, valueOf_nI (by omega), v1, v2]
          by_cases ht : md_has k tree mo mn = true
          · obtain ⟨a, ha, ea⟩ := has_lt h60 ht
            rw [if_pos ht, if_pos ht]
            by_cases hkt : mo.2.1 tree.toNatClampNeg = 1
            · rw [if_pos hkt, if_pos hkt, if_pos rfl]
              have hm1 : (nI v - 1 = -1) ↔ (nI v - 1 < 0) := by rw [pv_m1 v (by omega), pv_lt v (by omega)]
              have par : ¬ nI v - 1 = -1 → ∃ b, b < mo.1 ∧ nI v - 1 = nI b := by
                intro hh
                have : v ≠ 0 := fun h => hh ((pv_m1 v (by omega)).mpr h)
                obtain ⟨w, rfl⟩ : ∃ w, v = w + 1 := ⟨v - 1, by omega⟩
                exact ⟨w, by omega, nI_pred w⟩
              by_cases ho : other = -1
              · have hca : px_isCommitOrAbsent other so (ns k) = true := by
                  unfold px_isCommitOrAbsent
                  rw [if_pos ho]
                rw [hca, if_pos rfl, if_pos ho, if_pos ho]
                by_cases hv1 : nI v - 1 = -1
                · rw [if_pos hv1, if_pos (hm1.mp hv1)]
                  obtain ⟨z, so', tg', ns', mo', mn', mw', c1, c2, c3⟩ := commit_tail (tg := tg) (mw := mw) R hk hr hu (a := tree) (b := other) (c := -1) (Or.inr ⟨Or.inr rfl, ⟨a, ha, ea⟩, Or.inl ho, Or.inl rfl⟩)
                  rw [c1, c2]
                  exact ⟨rfl, c3⟩
                · rw [if_neg hv1, if_neg (fun hh => hv1 (hm1.mpr hh))]
                  obtain ⟨z, so', tg', ns', mo', mn', mw', c1, c2, c3⟩ := commit_tail (tg := tg) (mw := mw) R hk hr hu (a := tree) (b := nI v - 1) (c := other) (Or.inr ⟨Or.inr rfl, ⟨a, ha, ea⟩, Or.inr (par hv1), Or.inl ho⟩)
                  rw [c1, c2]
                  exact ⟨rfl, c3⟩
              · have hca : px_isCommitOrAbsent other so (ns k) = if md_has k other mo mn = true then (if mo.2.1 other.toNatClampNeg = 2 then true else false) else false := by
                  unfold px_isCommitOrAbsent
                  simp only [yb]
                  rw [if_neg ho, holdsKind_eq R.1 N]
                  split
                  · split
                    · rfl
                    · rfl
                  · rfl
                rw [hca, if_neg ho, if_neg ho]
                by_cases hoh : md_has k other mo mn = true
                · obtain ⟨b, hb, eb⟩ := has_lt h60 hoh
                  rw [if_pos hoh, if_pos hoh]
                  by_cases hok : mo.2.1 other.toNatClampNeg = 2
                  · rw [if_pos hok, if_pos hok, if_pos rfl]
                    by_cases hov : other = nI v - 1
                    · rw [if_pos hov, if_pos hov]
                      exact ⟨(by first | rfl | trivial), R⟩
                    · rw [if_neg hov, if_neg hov]
                      by_cases hv1 : nI v - 1 = -1
                      · rw [if_pos hv1, if_pos (hm1.mp hv1)]
                        obtain ⟨z, so', tg', ns', mo', mn', mw', c1, c2, c3⟩ := commit_tail (tg := tg) (mw := mw) R hk hr hu (a := tree) (b := other) (c := -1) (Or.inr ⟨Or.inr rfl, ⟨a, ha, ea⟩, Or.inr ⟨b, hb, eb⟩, Or.inl rfl⟩)
                        rw [c1, c2]
                        exact ⟨rfl, c3⟩
                      · rw [if_neg hv1, if_neg (fun hh => hv1 (hm1.mpr hh))]
                        obtain ⟨z, so', tg', ns', mo', mn', mw', c1, c2, c3⟩ := commit_tail (tg := tg) (mw := mw) R hk hr hu (a := tree) (b := nI v - 1) (c := other) (Or.inr ⟨Or.inr rfl, ⟨a, ha, ea⟩, Or.inr (par hv1), Or.inr ⟨b, hb, eb⟩⟩)
                        rw [c1, c2]
                        exact ⟨rfl, c3⟩
                  · rw [if_neg hok, if_neg hok, if_neg (show ¬ false = true by decide)]
                    exact ⟨(by first | rfl | trivial), R⟩
                · rw [if_neg hoh, if_neg hoh, if_neg (show ¬ false = true by decide)]
                  exact ⟨(by first | rfl | trivial), R⟩
            · rw [if_neg hkt, if_neg hkt, if_neg (show ¬ false = true by decide)]
              exact ⟨(by first | rfl | trivial), R⟩
          · rw [if_neg ht, if_neg ht, if_neg (show ¬ false = true by decide)]
            exact ⟨(by first | rfl | trivial), R⟩
      · simp only [if_neg h0, if_neg h3]
        exact ⟨(by first | rfl | trivial), R⟩
  · simp only [if_neg hN]
    exact ⟨(by first | rfl | trivial), R⟩
end RO
