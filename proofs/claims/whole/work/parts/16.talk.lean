/-! the talk -/
def yhi (o : Int64) : Nat → Nat → Int64
  | 0, _ => 0
  | x + 1, f => if 3 ≤ f then 0 else if yx o x = true then ylshl 1 (nI x) ||| yhi o x (f + 1) else yhi o x f
def yhc (o : Int64) : Nat → Nat → Nat
  | 0, _ => 0
  | x + 1, f => if 3 ≤ f then 0 else if yx o x = true then yhc o x (f + 1) + 1 else yhc o x f
theorem yhi_3 {o : Int64} {f : Nat} (h : 3 ≤ f) : ∀ x : Nat, yhi o x f = 0
  | 0 => rfl
  | x + 1 => by rw [yhi, if_pos h]
theorem yhc_3 {o : Int64} {f : Nat} (h : 3 ≤ f) : ∀ x : Nat, yhc o x f = 0
  | 0 => rfl
  | x + 1 => by rw [yhc, if_pos h]
theorem yhi_in (o : Int64) : ∀ (x f : Nat), x ≤ 64 → yin (yhi o x f) x
  | 0, f, _ => yin_0
  | x + 1, f, h => by
    rw [yhi]
    split
    · exact yin_0
    · split
      · exact yin_or (yin_1 (by omega) h) (yin_mono (yhi_in o x (f + 1) (by omega)) (by omega))
      · exact yin_mono (yhi_in o x f (by omega)) (by omega)
theorem yhi_sub (o : Int64) : ∀ (x f i : Nat), x ≤ 64 → yx (yhi o x f) i = true → yx o i = true
  | 0, f, i, _, h => by
    rw [yhi, yx_0] at h
    cases h
  | x + 1, f, i, hx, h => by
    rw [yhi] at h
    split at h
    · rw [yx_0] at h
      cases h
    · split at h
      · rename_i h2
        rw [yx_or, yx_1 (by omega)] at h
        by_cases he : x = i
        · rw [← he]
          exact h2
        · rw [decide_eq_false he, Bool.false_or] at h
          exact yhi_sub o x (f + 1) i (by omega) h
      · exact yhi_sub o x f i (by omega) h
theorem yhi_cnt (o : Int64) : ∀ (x f : Nat), x ≤ 60 → ycnt (yhi o x f) 60 = yhc o x f
  | 0, f, _ => ycnt_none 60 (fun i _ => yx_0 i)
  | x + 1, f, h => by
    rw [yhi, yhc]
    split
    · exact ycnt_none 60 (fun i _ => yx_0 i)
    · split
      · rw [ycnt_or 60 (fun i _ h1 => ?_), ycnt_1 60 (by decide) (by omega), yhi_cnt o x (f + 1) (by omega), Nat.add_comm]
        rw [yx_1 (by omega)] at h1
        have : x = i := of_decide_eq_true h1
        exact yhi_in o x (f + 1) (by omega) i (by omega)
      · exact yhi_cnt o x f (by omega)
theorem yhi_skip {o : Int64} {n : Nat} (h : yin o n) (f : Nat) : ∀ d : Nat, yhi o (n + d) f = yhi o n f
  | 0 => rfl
  | d + 1 => by
    show yhi o ((n + d) + 1) f = _
    rw [yhi]
    split
    · rename_i h3
      rw [yhi_3 h3]
    · rw [h (n + d) (by omega), if_neg (by decide)]
      exact yhi_skip h f d
theorem i3_le {f : Nat} (h : f < 100) : (3 : Int32) ≤ nI f ↔ 3 ≤ f := nI_leI (a := 3) (by decide) (by omega)
theorem highest_L (o : Int64) : ∀ (x f : Nat) (ch : Int64), x ≤ 60 → f ≤ 3 → tk_highest_L9 o x ch (nI f) = ch ||| yhi o x f
  | 0, f, ch, _, _ => (yx_or0 ch).symm
  | x + 1, f, ch, h, hf => by
    rw [tk_highest_L9, yhi]
    by_cases h3 : 3 ≤ f
    · rw [if_pos ((i3_le (by omega)).mpr h3), if_pos h3, yx_or0]
    · rw [if_neg (fun hh => h3 ((i3_le (by omega)).mp hh)), if_neg h3]
      simp only [yb]
      rw [px_isIn_nI (by omega)]
      by_cases hx : yx o x = true
      · rw [if_pos hx, if_pos hx, nI_1, highest_L o x (f + 1) _ (by omega) (by omega), yx_orA]
      · rw [if_neg hx, if_neg hx, highest_L o x f _ (by omega) hf]
theorem highest_eq {o : Int64} {n : Nat} (hn : n ≤ 60) (h : yin o n) : tk_highest o = yhi o n 0 := by
  unfold tk_highest
  have t := highest_L o 60 0 0 (by decide) (by decide)
  have e := yhi_skip h 0 (60 - n)
  rw [show n + (60 - n) = 60 by omega] at e
  rw [e] at t
  have z : (0 : Int64) ||| yhi o n 0 = yhi o n 0 := by rw [yx_orC, yx_or0]
  rw [z] at t
  exact t
theorem yx_1and {x : Nat} (hx : x < 64) (H : Int64) : ylshl 1 (nI x) &&& H = if yx H x = true then ylshl 1 (nI x) else 0 := by
  apply yx_ext
  intro i _
  by_cases h : yx H x = true
  · rw [if_pos h, yx_and, yx_1 hx]
    by_cases he : x = i
    · rw [← he, h, Bool.and_true]
    · rw [decide_eq_false he]
      rfl
  · rw [if_neg h, yx_and, yx_1 hx, yx_0]
    by_cases he : x = i
    · rw [← he, (Bool.not_eq_true _).mp h, Bool.and_false]
    · rw [decide_eq_false he]
      rfl
theorem and_orR (a b H : Int64) : (a ||| b) &&& H = (a &&& H) ||| (b &&& H) := by
  apply yx_ext
  intro i _
  simp only [yx_and, yx_or]
  cases yx a i <;> cases yx b i <;> cases yx H i <;> rfl
theorem and_not2 (o a b : Int64) : (o &&& (a ^^^ (-1))) &&& (b ^^^ (-1)) = o &&& ((a ||| b) ^^^ (-1)) := by
  apply yx_ext
  intro i hi
  rw [yx_and, yx_and, yx_and, yx_not _ hi, yx_not _ hi, yx_not _ hi, yx_or]
  cases yx o i <;> cases yx a i <;> cases yx b i <;> rfl
theorem conv_97 {mo : MO} {mn : MN} {K : Int64 → Int32 → Int64 → Int64 × MT} (ho : mo.1 ≤ 60) (o : Int64) : ∀ (x f : Nat) (opn now : Int64), x ≤ mo.1 → f ≤ 3 → (∀ i, i < x → yx opn i = yx o i) → md_converse_L97 mo mn K x opn (nI f) now = K (opn &&& (yhi o x f ^^^ (-1))) (nI (f + yhc o x f)) (now ||| (yhi o x f &&& mn.1 0))
  | 0, f, opn, now, _, _, _ => by
    rw [md_converse_L97, yhi, yhc]
    have e1 : opn &&& ((0 : Int64) ^^^ (-1)) = opn := by
      apply yx_ext
      intro i hi
      rw [yx_and, yx_not _ hi, yx_0]
      cases yx opn i <;> rfl
    have e2 : (0 : Int64) &&& mn.1 0 = 0 := by
      apply yx_ext
      intro i _
      rw [yx_and, yx_0]
      rfl
    rw [e1, e2, yx_or0, Nat.add_zero]
  | x + 1, f, opn, now, hx, hf, ha => by
    rw [md_converse_L97]
    by_cases h3 : 3 ≤ f
    · rw [if_pos ((i3_le (by omega)).mpr h3), conv_97 ho o x f opn now (by omega) hf (fun i hi => ha i (by omega)), yhi_3 h3, yhi_3 h3, yhc_3 h3, yhc_3 h3]
    · rw [if_neg (fun hh => h3 ((i3_le (by omega)).mp hh)), yhi, yhc, if_neg h3, if_neg h3]
      by_cases hb : yx o x = true
      · have hb' : yx opn x = true := (ha x (by omega)).trans hb
        rw [if_pos ((yx_shr_1 opn (by omega)).mpr hb'), if_pos hb, if_pos hb]
        simp only [yb]
        rw [md_has_nI (by omega) ho, nI_1]
        have hop : ∀ i, i < x → yx (opn &&& (ylshl 1 (nI x) ^^^ (-1))) i = yx o i := by
          intro i hi
          rw [yx_and, yx_not _ (by omega), yx_1 (by omega), decide_eq_false (show ¬ x = i by omega), ha i (by omega)]
          exact Bool.and_true _
        rw [conv_97 ho o x (f + 1) _ _ (by omega) (by omega) hop, conv_97 ho o x (f + 1) _ _ (by omega) (by omega) hop, and_not2, show f + 1 + yhc o x (f + 1) = f + (yhc o x (f + 1) + 1) by omega, and_orR, yx_1and (by omega)]
        by_cases hh : yx (mn.1 0) x = true
        · rw [if_pos hh, if_pos hh, yx_orA]
        · rw [if_neg hh, if_neg hh, yx_orC 0, yx_or0]
      · have hb' : ¬ yx opn x = true := fun hh => hb ((ha x (by omega)).symm.trans hh)
        rw [if_neg (fun hh => hb' ((yx_shr_1 opn (by omega)).mp hh)), if_neg hb, if_neg hb]
        exact conv_97 ho o x f opn now (by omega) hf (fun i hi => ha i (by omega))
section TK
variable {so : SS} {mo : MO} {mn : MN} {wants hbs : Int64} {ackd : Int32}
theorem talk_stop {known left : Int64} {sent : Int32} (h : st_eachReachesOne wants known so = true) : ∀ (k i : Nat), tk_run_L17 wants hbs so k i known left sent ackd = (known, (sent, jl_bitCount known, nI i))
  | 0, i => by
    rw [tk_run_L17]
    simp only [yb]
  | k + 1, i => by
    rw [tk_run_L17]
    simp only [yb]
    by_cases h0 : left = 0
    · rw [if_pos h0]
    · rw [if_neg h0, h, if_pos rfl]
theorem talk_L (HO : OBJ so mo) : ∀ (k i : Nat) (known left : Int64) (sent : Int32), yin known mo.1 → yin left mo.1 → (∀ q, yx known q = true → yx left q = false) → st_eachReachesOne wants known so = false → tk_run_L17 wants (mn.1 0) so k i known left sent ackd = md_converse_L69 wants mo mn k i known left (sent, nI (ycnt known 60), nI i)
  | 0, i, known, left, sent, hk, _, _, _ => by
    have h60 := HO.2.1
    rw [tk_run_L17, md_converse_L69]
    simp only [yb]
    rw [jl_many (yin_mono hk h60)]
  | k + 1, i, known, left, sent, hk, hl, hd, he => by
    have h60 := HO.2.1
    rw [tk_run_L17, md_converse_L69]
    simp only [yb]
    by_cases h0 : left = 0
    · rw [if_pos h0, if_pos h0, jl_many (yin_mono hk h60)]
    · rw [if_neg h0, if_neg h0, he, if_neg (show ¬ false = true by decide)]
      have t := conv_97 (mn := mn) (K := fun opn sent_1 now => if md_allReach wants (known ||| now) mo = true then (known ||| now, (sent + sent_1, nI (ycnt known 60) + md_many now, nI i + 1)) else md_converse_L69 wants mo mn k (i + 1) (known ||| now) (opn &&& (md_reach (known ||| now) mo ^^^ (-1))) (sent + sent_1, nI (ycnt known 60) + md_many now, nI i + 1)) h60 left mo.1 0 left 0 (Nat.le_refl _) (by decide) (fun _ _ => rfl)
      rw [show (nI 0) = 0 from rfl] at t
      rw [t]
      have z : (0 : Int64) ||| (yhi left mo.1 0 &&& mn.1 0) = yhi left mo.1 0 &&& mn.1 0 := by rw [yx_orC, yx_or0]
      rw [z, highest_eq h60 hl, Nat.zero_add]
      have hY := yhi_in left mo.1 0 (by omega)
      rw [jl_many (yin_mono hY h60), yhi_cnt left mo.1 0 h60, md_many_eq]
      have hN : yin (yhi left mo.1 0 &&& mn.1 0) mo.1 := yin_and hY
      have hk' : yin (known ||| (yhi left mo.1 0 &&& mn.1 0)) mo.1 := yin_or hk hN
      have hcnt : nI (ycnt known 60) + nI (ycnt (yhi left mo.1 0 &&& mn.1 0) 60) = nI (ycnt (known ||| (yhi left mo.1 0 &&& mn.1 0)) 60) := by
        rw [nI_add, ycnt_or 60 (fun q _ h1 => ?_)]
        have h2 := hd q h1
        rw [yx_and]
        cases h3 : yx (yhi left mo.1 0) q with
        | false => rfl
        | true =>
          rw [yhi_sub left mo.1 0 q (by omega) h3] at h2
          cases h2
      rw [hcnt, nI_1, ← eachR_eq HO]
      cases hE : st_eachReachesOne wants (known ||| (yhi left mo.1 0 &&& mn.1 0)) so with
      | true =>
        rw [if_pos rfl, talk_stop hE, jl_many (yin_mono hk' h60)]
      | false =>
        rw [if_neg (show ¬ false = true by decide), md_reach_eq h60, st_reachOfAll_eq HO hk', and_not2]
        refine talk_L HO k (i + 1) _ _ _ hk' (yin_and hl) (fun q hq => ?_) hE
        rw [yx_and]
        by_cases hq6 : q < 64
        · rw [yx_not _ hq6, yx_or]
          rw [yx_or, yx_and] at hq
          cases h3 : yx left q with
          | false => rfl
          | true =>
            cases h4 : yx known q with
            | true =>
              rw [hd q h4] at h3
              cases h3
            | false =>
              rw [h4, Bool.false_or] at hq
              cases h5 : yx (yhi left mo.1 0) q with
              | true => rfl
              | false =>
                rw [h5] at hq
                cases hq
        · rw [hl q (by omega)]
          rfl
end TK
