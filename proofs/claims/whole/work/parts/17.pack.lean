/-! the pack -/
def dgc (a b : Int32) : Nat → Nat → Nat
  | 0, _ => 0
  | k + 1, i => (if (yishr a (nI (4 * i)) &&& 15) = (yishr b (nI (4 * i)) &&& 15) then 0 else 1) + dgc a b k (i + 1)
theorem ib_ext {x y : Int32} (h : ∀ i, i < 32 → x.toBitVec.getLsbD i = y.toBitVec.getLsbD i) : x = y := Int32.toBitVec_inj.1 (BitVec.eq_of_getLsbD_eq h)
theorem ib_sh : ∀ i, i < 8 → (((nI (4 * i)) &&& 31).toBitVec.smod 32).toNat = 4 * i := by decide +kernel
theorem ib_su : ∀ i, i < 8 → (((nI (4 * i)).toUInt32 &&& Int32.toUInt32 31).toBitVec % 32).toNat = 4 * i := by decide +kernel
theorem ib_15 (i : Nat) : (15 : Int32).toBitVec.getLsbD i = decide (i < 4) := by
  show (15#32).getLsbD i = _
  by_cases h : i < 4
  · rcases (show i = 0 ∨ i = 1 ∨ i = 2 ∨ i = 3 by omega) with rfl | rfl | rfl | rfl <;> decide
  · rw [decide_eq_false h]
    by_cases h2 : i < 32
    · have : ∀ j, j < 32 → ¬ j < 4 → (15#32).getLsbD j = false := by decide +kernel
      exact this i h2 h
    · exact BitVec.getLsbD_of_ge _ _ (by omega)
theorem ib_sr (a : Int32) {i : Nat} (h : i < 8) {j : Nat} (hj : j < 4) : (yishr a (nI (4 * i))).toBitVec.getLsbD j = a.toBitVec.getLsbD (4 * i + j) := by
  show (a.toBitVec.sshiftRight (((nI (4 * i)) &&& 31).toBitVec.smod 32).toNat).getLsbD j = _
  rw [ib_sh i h, BitVec.getLsbD_sshiftRight, decide_eq_false (show ¬ 32 ≤ j by omega), if_pos (show 4 * i + j < 32 by omega)]
  rfl
theorem ib_sl (a : Int32) {i : Nat} (h : i < 8) {j : Nat} : (yiushr a (nI (4 * i))).toBitVec.getLsbD j = a.toBitVec.getLsbD (4 * i + j) := by
  show (a.toBitVec >>> (((nI (4 * i)).toUInt32 &&& Int32.toUInt32 31).toBitVec % 32)).getLsbD j = _
  rw [BitVec.ushiftRight_eq', ib_su i h, BitVec.getLsbD_ushiftRight]
theorem ib_and (a b : Int32) (i : Nat) : (a &&& b).toBitVec.getLsbD i = (a.toBitVec.getLsbD i && b.toBitVec.getLsbD i) := BitVec.getLsbD_and
theorem ib_xor (a b : Int32) (i : Nat) : (a ^^^ b).toBitVec.getLsbD i = (a.toBitVec.getLsbD i ^^ b.toBitVec.getLsbD i) := BitVec.getLsbD_xor
theorem ib_0 (i : Nat) : (0 : Int32).toBitVec.getLsbD i = false := by
  show (0#32).getLsbD i = false
  exact BitVec.getLsbD_zero
theorem dig (a b : Int32) {i : Nat} (h : i < 8) : (yiushr (a ^^^ b) (nI (4 * i)) &&& 15) = 0 ↔ (yishr a (nI (4 * i)) &&& 15) = (yishr b (nI (4 * i)) &&& 15) := by
  constructor
  · intro h0
    apply ib_ext
    intro j _
    rw [ib_and, ib_and, ib_15]
    by_cases hj : j < 4
    · have t := congrArg (fun x : Int32 => x.toBitVec.getLsbD j) h0
      rw [ib_and, ib_15, ib_sl _ h, ib_xor, ib_0, decide_eq_true hj, Bool.and_true] at t
      rw [ib_sr a h hj, ib_sr b h hj]
      cases ha : a.toBitVec.getLsbD (4 * i + j) <;> cases hb : b.toBitVec.getLsbD (4 * i + j) <;> rw [ha, hb] at t <;> first | rfl | cases t
    · rw [decide_eq_false hj, Bool.and_false, Bool.and_false]
  · intro h0
    apply ib_ext
    intro j _
    rw [ib_and, ib_15, ib_0]
    by_cases hj : j < 4
    · have t := congrArg (fun x : Int32 => x.toBitVec.getLsbD j) h0
      rw [ib_and, ib_and, ib_15, decide_eq_true hj, Bool.and_true, Bool.and_true, ib_sr a h hj, ib_sr b h hj] at t
      rw [ib_sl _ h, ib_xor, t, decide_eq_true hj, Bool.and_true]
      cases b.toBitVec.getLsbD (4 * i + j) <;> rfl
    · rw [decide_eq_false hj, Bool.and_false]
theorem i_add0 (w : Int32) : w + 0 = w := Int32.add_zero w
theorem digits_L (a b : Int32) : ∀ (k i : Nat) (dg : Int32), i + k = 8 → pk_differingDigits_L9 k i (a ^^^ b) dg = dg + nI (dgc a b k i)
  | 0, i, dg, _ => by
    rw [pk_differingDigits_L9, dgc]
    exact (i_add0 dg).symm
  | k + 1, i, dg, h => by
    rw [pk_differingDigits_L9, dgc]
    by_cases hd : (yishr a (nI (4 * i)) &&& 15) = (yishr b (nI (4 * i)) &&& 15)
    · rw [if_pos ((dig a b (by omega)).mpr hd), if_pos hd, digits_L a b k (i + 1) dg (by omega), Nat.zero_add]
    · rw [if_neg (fun hh => hd ((dig a b (by omega)).mp hh)), if_neg hd, digits_L a b k (i + 1) (dg + 1) (by omega), ← nI_add, Int32.add_assoc]
      rfl
theorem digits_eq (a b : Int32) : pk_differingDigits a b = nI (dgc a b 8 0) := by
  unfold pk_differingDigits
  rw [digits_L a b 8 0 0 (by decide)]
  exact Int32.zero_add _
theorem place_142 {x q : Nat} {mo : MO} {mp : MP} {K : Int32 → MP} : ∀ (k i : Nat) (w : Int32), md_place_L142 x q mo mp K k i w = K (w + nI (dgc (mo.2.2.1 x) (mo.2.2.1 (mp.2.1 q % 60)) k i))
  | 0, i, w => by
    rw [md_place_L142, dgc, show nI 0 = 0 from rfl, i_add0]
  | k + 1, i, w => by
    rw [md_place_L142, dgc]
    by_cases hd : (yishr (mo.2.2.1 x) (nI (4 * i)) &&& 15) = (yishr (mo.2.2.1 (mp.2.1 q % 60)) (nI (4 * i)) &&& 15)
    · rw [if_pos hd, if_pos hd, place_142 k (i + 1), Nat.zero_add, i_add0]
    · rw [if_neg hd, if_neg hd, place_142 k (i + 1), ← nI_add, Int32.add_assoc]
      rfl
def wsum (w : Nat → Int32) : Nat → Int32
  | 0 => 0
  | i + 1 => wsum w i + w i
theorem wsum_congr {w w' : Nat → Int32} : ∀ n : Nat, (∀ i, i < n → w' i = w i) → wsum w' n = wsum w n
  | 0, _ => rfl
  | i + 1, h => by
    rw [wsum, wsum, wsum_congr i (fun j hj => h j (by omega)), h i (by omega)]
theorem weight_L (mp : MP) : ∀ (k i : Nat), md_weight_L4 mp k i (wsum mp.2.2.2.2 i) = wsum mp.2.2.2.2 (i + k)
  | 0, i => rfl
  | k + 1, i => by
    rw [md_weight_L4, show wsum mp.2.2.2.2 i + mp.2.2.2.2 i = wsum mp.2.2.2.2 (i + 1) from rfl, weight_L mp k (i + 1), show i + 1 + k = i + (k + 1) by omega]
theorem weight_eq (mp : MP) : md_weight mp = wsum mp.2.2.2.2 mp.1 := by
  unfold md_weight
  have t := weight_L mp mp.1 0
  rw [Nat.zero_add] at t
  exact t
/-- the two packs -/
def PCK (pk : PS) (mp : MP) : Prop := pk.1 = (fun j => nI (mp.2.1 j % 60)) ∧ pk.2.1 = mp.2.2.1 ∧ pk.2.2.1 = mp.2.2.2.1 ∧ pk.2.2.2.2.1 = mp.1 ∧ mp.1 ≤ 60 ∧ pk.2.2.2.2.2 = wsum mp.2.2.2.2 mp.1
section PK
variable {so : SS} {mo : MO}
theorem isOfKind_nI (HO : OBJ so mo) {a : Nat} (ha : a < mo.1) (kd : Int32) : st_isOfKind (nI a) kd so = if mo.2.1 a = kd then true else false := by
  have h60 := HO.2.1
  unfold st_isOfKind st_isNumber
  simp only [yb]
  rw [HO.1, if_neg (nI_pos (by omega)), if_neg (nI_ge ha (by omega)), if_pos rfl, nI_clamp (by omega), HO.2.2.1]
theorem isOfKind_big (HO : OBJ so mo) {a : Nat} (ha : mo.1 ≤ a) (h : a < 100) (kd : Int32) : st_isOfKind (nI a) kd so = false := by
  unfold st_isOfKind st_isNumber
  simp only [yb]
  rw [HO.1, if_neg (nI_pos (by omega)), if_pos (nI_le ha (by omega)), if_neg (by decide)]
theorem contentOf_nI (HO : OBJ so mo) {a : Nat} (ha : a < mo.1) : st_contentOf (nI a) so = mo.2.2.1 a := by
  have h60 := HO.2.1
  unfold st_contentOf st_isNumber
  simp only [yb]
  rw [HO.1, if_neg (nI_pos (by omega)), if_neg (nI_ge ha (by omega)), if_pos rfl, nI_clamp (by omega), HO.2.2.2.1]
theorem choose_L (HO : OBJ so mo) {x pl : Nat} {at_ : Nat → Nat} {me : Int64} {sz ms : Nat} {to : Int32} (hk : mo.2.1 x = 0) (hat : ∀ j, j < pl → at_ j % 60 < mo.1) : ∀ (q : Nat) (ba ch we : Nat → Int32), q ≤ pl → ∃ ba' ch' we', pk_chooseBase_L20 pl so q (we pl) (mo.2.2.1 x) ((fun j => nI (at_ j % 60)), ba, ch, me, sz, to) = (we' pl, (fun j => nI (at_ j % 60)), ba', ch', me, sz, to) ∧ md_place_L92 x mo q pl (ms, at_, ba, ch, we) = (ms, at_, ba', ch', we') ∧ (∀ j, j ≠ pl → we' j = we j)
  | 0, ba, ch, we, _ => ⟨ba, ch, we, rfl, rfl, fun _ _ => rfl⟩
  | q + 1, ba, ch, we, hq => by
    rw [pk_chooseBase_L20, md_place_L92]
    dsimp only
    by_cases h3 : nI q < nI pl - 3
    · rw [if_pos h3, if_pos h3]
      exact ⟨ba, ch, we, rfl, rfl, fun _ _ => rfl⟩
    · have ha := hat q (by omega)
      simp only [yb]
      rw [if_neg h3, if_neg h3, if_pos hk, isOfKind_nI HO ha, contentOf_nI HO ha]
      by_cases hk2 : mo.2.1 (at_ q % 60) = 0
      · rw [if_pos hk2, if_pos hk2, if_pos rfl]
        by_cases hc : 2 ≤ ch q
        · rw [if_pos hc, if_pos hc]
          exact choose_L HO hk hat q ba ch we (by omega)
        · rw [if_neg hc, if_neg hc, place_142, digits_eq]
          dsimp only
          by_cases hw : we pl ≤ 2 + nI (dgc (mo.2.2.1 x) (mo.2.2.1 (at_ q % 60)) 8 0)
          · rw [if_pos hw, if_pos hw]
            exact choose_L HO hk hat q ba ch we (by omega)
          · rw [if_neg hw, if_neg hw]
            obtain ⟨ba', ch', we', a1, a2, a3⟩ := choose_L HO (me := me) (sz := sz) (ms := ms) (to := to) hk hat q (upd ba pl (nI q)) (upd ch pl (ch q + 1)) (upd we pl (2 + nI (dgc (mo.2.2.1 x) (mo.2.2.1 (at_ q % 60)) 8 0))) (by omega)
            rw [upd_at] at a1
            exact ⟨ba', ch', we', a1, a2, fun j hj => (a3 j hj).trans (upd_ne _ _ hj)⟩
      · rw [if_neg hk2, if_neg hk2, if_neg (show ¬ false = true by decide)]
        exact choose_L HO hk hat q ba ch we (by omega)
theorem place_other {x pl : Nat} (hk : ¬ mo.2.1 x = 0) : ∀ (q : Nat) (mp : MP), md_place_L92 x mo q pl mp = mp
  | 0, mp => rfl
  | q + 1, mp => by
    rw [md_place_L92]
    split
    · rfl
    · exact place_other hk q mp
theorem ob_upd {at_ : Nat → Nat} {sz x : Nat} (hx : x < 60) : upd (fun j => nI (at_ j % 60)) sz (nI x) = fun j => nI (yupN at_ sz x j % 60) := by
  funext j
  by_cases hj : j = sz
  · rw [hj, upd_at, yupN_at, Nat.mod_eq_of_lt hx]
  · rw [upd_ne _ _ hj, yupN_ne _ _ hj]
/-- one object placed -/
theorem pl_one (HO : OBJ so mo) {x kk : Nat} {pk : PS} {mp : MP} (hx : x < mo.1) (P : PCK pk mp) (hs : mp.1 < 60) (hat : ∀ j, j < mp.1 → mp.2.1 j % 60 < mo.1) (hkx : mo.2.1 x = nI kk) (hkk : kk < 3) :
    ∃ pk', (if nI kk = 0 then (yb (pk_chooseBase pk.2.2.2.2.1 (upd pk.1 pk.2.2.2.2.1 (nI x), upd pk.2.1 pk.2.2.2.2.1 (-4), upd pk.2.2.1 pk.2.2.2.2.1 0, pk.2.2.2.1, pk.2.2.2.2.1, pk.2.2.2.2.2) so) fun r8 => ((r8.2.1, r8.2.2.1, r8.2.2.2.1, r8.2.2.2.2.1, pk.2.2.2.2.1 + 1, (pk.2.2.2.2.2 + r8.1)) : PS)) else (yb (st_partsOf (nI x) so) fun r7 => ((upd pk.1 pk.2.2.2.2.1 (nI x), upd pk.2.1 pk.2.2.2.2.1 (-4), upd pk.2.2.1 pk.2.2.2.2.1 0, pk.2.2.2.1, pk.2.2.2.2.1 + 1, (pk.2.2.2.2.2 + (1 + r7))) : PS))) = pk' ∧ PCK pk' (md_place x mo mp) ∧ pk'.2.2.2.1 = pk.2.2.2.1 ∧ (∀ j, j < mp.1 + 1 → (md_place x mo mp).2.1 j % 60 < mo.1) := by
  have h60 := HO.2.1
  obtain ⟨ob, ba, ch, me, sz, to⟩ := pk
  obtain ⟨ms, at_, bs, cn, we⟩ := mp
  unfold PCK at P
  dsimp only at P hs hat
  obtain ⟨p1, p2, p3, p4, p5, p6⟩ := P
  subst p1
  subst p2
  subst p3
  subst p4
  subst p6
  dsimp only
  have hat2 : ∀ j, j < sz + 1 → yupN at_ sz x j % 60 < mo.1 := by
    intro j hj
    by_cases hjs : j = sz
    · rw [hjs, yupN_at, Nat.mod_eq_of_lt (by omega)]
      exact hx
    · rw [yupN_ne _ _ hjs]
      exact hat j (by omega)
  by_cases hk0 : kk = 0
  · subst hk0
    have hkz : mo.2.1 x = 0 := hkx
    rw [if_pos (show nI 0 = 0 from rfl), pk_chooseBase]
    simp only [yb]
    rw [upd_at, contentOf_nI HO hx, ob_upd (by omega)]
    obtain ⟨ba', ch', we', a1, a2, a3⟩ := choose_L HO (x := x) (pl := sz) (at_ := yupN at_ sz x) (me := me) (sz := sz) (ms := sz + 1) (to := wsum we sz) hkz (fun j hj => hat2 j (by omega)) sz (upd ba sz (-4)) (upd ch sz 0) (upd we sz 8) (Nat.le_refl _)
    rw [upd_at] at a1
    rw [a1, md_place]
    dsimp only
    rw [if_pos hkz, a2]
    refine ⟨_, rfl, ⟨rfl, rfl, rfl, rfl, by show sz + 1 ≤ 60; omega, ?_⟩, rfl, hat2⟩
    show wsum we sz + we' sz = wsum we' (sz + 1)
    rw [wsum, wsum_congr (w := we) (w' := we') sz (fun i hi => (a3 i (by omega)).trans (upd_ne _ _ (by omega)))]
  · have hkn : ¬ nI kk = 0 := fun hh => hk0 ((pw_0 kk (by omega)).mp hh)
    have hkz : ¬ mo.2.1 x = 0 := by rw [hkx]; exact hkn
    have hv := HO.2.2.2.2.2.2.1 x hx
    rcases hv with hv | ⟨_, _, v2, v3⟩
    · exact absurd hv hkz
    · rw [if_neg hkn]
      simp only [yb]
      have hpart : st_partsOf (nI x) so = (if mo.2.2.2.1 x = -1 then (if mo.2.2.2.2 x = -1 then ((1 + 0) + 0 : Int32) else ((1 + 0) + 1)) else (if mo.2.2.2.2 x = -1 then ((1 + 1) + 0) else ((1 + 1) + 1))) := by
        unfold st_partsOf st_isNumber
        simp only [yb]
        rw [HO.1, if_neg (nI_pos (by omega)), if_neg (nI_ge hx (by omega)), if_pos rfl, nI_clamp (by omega), HO.2.2.1, HO.2.2.2.2.1, HO.2.2.2.2.2.1, if_neg hkz]
      rw [hpart, ob_upd (by omega), md_place]
      dsimp only
      rw [if_neg hkz]
      have wend : ∀ w : Int32, PCK ((fun j => nI (yupN at_ sz x j % 60)), upd ba sz (-4), upd ch sz 0, me, sz + 1, wsum we sz + w) (sz + 1, yupN at_ sz x, upd ba sz (-4), upd ch sz 0, upd we sz w) := by
        intro w
        refine ⟨rfl, rfl, rfl, rfl, by show sz + 1 ≤ 60; omega, ?_⟩
        show wsum we sz + w = wsum (upd we sz w) (sz + 1)
        rw [wsum, upd_at, wsum_congr (w := we) (w' := upd we sz w) sz (fun i hi => upd_ne _ _ (by omega))]
      have neg : ∀ f : Int32, (f = -1 ∨ ∃ b, b < x ∧ f = nI b) → (f < 0 ↔ f = -1) := by
        intro f hf
        rcases hf with hf | ⟨b, hb, hf⟩
        · rw [hf]
          exact ⟨fun _ => rfl, fun _ => by decide⟩
        · constructor
          · intro h1
            rw [hf] at h1
            exact absurd h1 (nI_pos (by omega))
          · intro h1
            rw [h1]
            decide
      by_cases t2 : mo.2.2.2.1 x = -1
      · rw [if_pos t2, if_pos ((neg _ v2).mpr t2)]
        by_cases t3 : mo.2.2.2.2 x = -1
        · rw [if_pos t3, if_pos ((neg _ v3).mpr t3), place_other hkz]
          exact ⟨_, rfl, wend _, rfl, hat2⟩
        · rw [if_neg t3, if_neg (fun hh => t3 ((neg _ v3).mp hh)), place_other hkz]
          exact ⟨_, rfl, wend _, rfl, hat2⟩
      · rw [if_neg t2, if_neg (fun hh => t2 ((neg _ v2).mp hh))]
        by_cases t3 : mo.2.2.2.2 x = -1
        · rw [if_pos t3, if_pos ((neg _ v3).mpr t3), place_other hkz]
          exact ⟨_, rfl, wend _, rfl, hat2⟩
        · rw [if_neg t3, if_neg (fun hh => t3 ((neg _ v3).mp hh)), place_other hkz]
          exact ⟨_, rfl, wend _, rfl, hat2⟩
theorem pack_none {set : Int64} {kk : Nat} {K : MP → MP} {mp : MP} : ∀ x : Nat, kcnt mo.2.1 kk x = 0 → md_pack_L19 set kk mo K x mp = K mp
  | 0, _ => rfl
  | x + 1, h => by
    rw [kcnt] at h
    have hn : ¬ mo.2.1 x = nI kk := fun hh => by
      rw [if_pos hh] at h
      omega
    rw [md_pack_L19, if_neg hn]
    split
    · exact pack_none x (by omega)
    · exact pack_none x (by omega)
theorem kind_skip (HO : OBJ so mo) {kd : Int32} {pk : PS} : ∀ d : Nat, mo.1 + d ≤ 60 → pk_placeKind_L3 kd so (mo.1 + d) pk = pk_placeKind_L3 kd so mo.1 pk
  | 0, _ => rfl
  | d + 1, h => by
    rw [show mo.1 + (d + 1) = (mo.1 + d) + 1 by omega, pk_placeKind_L3]
    simp only [yb]
    by_cases h60 : 60 ≤ nI pk.2.2.2.2.1
    · rw [if_pos h60]
      cases hm : mo.1 with
      | zero => rfl
      | succ m => rw [pk_placeKind_L3, if_pos h60]
    · rw [if_neg h60, isOfKind_big HO (by omega) (by omega), if_neg (show ¬ false = true by decide), kind_skip HO d (by omega), ite_self]
theorem kind_L (HO : OBJ so mo) {set : Int64} {kk : Nat} {K : MP → MP} (hkk : kk < 3) : ∀ (x : Nat) (pk : PS) (mp : MP), x ≤ mo.1 → PCK pk mp → pk.2.2.2.1 = set → (∀ j, j < mp.1 → mp.2.1 j % 60 < mo.1) → yc19 mo kk x mp.1 → ∃ mp', md_pack_L19 set kk mo K x mp = K mp' ∧ PCK (pk_placeKind_L3 (nI kk) so x pk) mp' ∧ (pk_placeKind_L3 (nI kk) so x pk).2.2.2.1 = set ∧ (∀ j, j < mp'.1 → mp'.2.1 j % 60 < mo.1) ∧ yc7 mo kk mp'.1
  | 0, pk, mp, _, P, e, ha, hc => ⟨mp, rfl, P, e, ha, yc19_7 hc⟩
  | x + 1, pk, mp, hx, P, e, ha, hc => by
    have h60 := HO.2.1
    have e4 : pk.2.2.2.2.1 = mp.1 := P.2.2.2.1
    by_cases hf : 60 ≤ nI pk.2.2.2.2.1
    · have hs : mp.1 = 60 := by
        have hle := P.2.2.2.2.1
        rw [e4] at hf
        have := (nI_leI (a := 60) (by decide) (by omega)).mp hf
        omega
      have hz : kcnt mo.2.1 kk (x + 1) = 0 := by
        unfold yc19 at hc
        omega
      have hcz : yc7 mo kk mp.1 := by
        unfold yc19 at hc
        unfold yc7
        omega
      rw [pk_placeKind_L3, if_pos hf]
      exact ⟨mp, pack_none (x + 1) hz, P, e, ha, hcz⟩
    · rw [pk_placeKind_L3, if_neg hf, md_pack_L19]
      rw [e]
      have skip := kind_L HO (set := set) (K := K) hkk x pk mp (by omega) P e ha (yc19_s hc)
      rw [px_isIn_nI (by omega), isOfKind_nI HO (by omega)]
      by_cases hb : yx set x = true
      · rw [if_pos ((yx_shr_1 set (by omega)).mpr hb), hb]
        by_cases hk : mo.2.1 x = nI kk
        · rw [if_pos hk, if_pos hk]
          obtain ⟨pk', a1, a2, a3, a4⟩ := pl_one HO (by omega) P (yc19_p hc hk).1 ha hk hkk
          have go := kind_L HO (set := set) (K := K) hkk x pk' (md_place x mo mp) (by omega) a2 (a3.trans e) (by rw [md_place_size]; exact a4) (by rw [md_place_size]; exact (yc19_p hc hk).2)
          simp only [yb] at a1 ⊢
          rw [if_pos trivial, if_pos trivial]
          by_cases hk0 : nI kk = 0
          · rw [if_pos hk0] at a1 ⊢
            rw [← a1, e] at go
            exact go
          · rw [if_neg hk0] at a1 ⊢
            rw [← a1, e] at go
            exact go
        · simp only [yb]
          rw [if_neg hk, if_neg hk, if_pos trivial, if_neg (show ¬ false = true by decide)]
          exact skip
      · simp only [yb]
        rw [if_neg (fun hh => hb ((yx_shr_1 set (by omega)).mp hh)), if_neg hb]
        exact skip
theorem fill_pack (HO : OBJ so mo) {set : Int64} {pk : PS} {mp : MP} (P : PCK pk mp) : PCK (pk_fill set pk so) (md_pack set mo mp) ∧ (pk_fill set pk so).2.2.2.1 = set := by
  have h60 := HO.2.1
  obtain ⟨p1, p2, p3, p4, p5, p6⟩ := P
  have kp : ∀ (kd : Int32) (pk : PS), pk_placeKind kd pk so = pk_placeKind_L3 kd so mo.1 pk := by
    intro kd pk
    have t := kind_skip HO (kd := kd) (pk := pk) (60 - mo.1) (by omega)
    rw [show mo.1 + (60 - mo.1) = 60 by omega] at t
    exact t
  unfold pk_fill md_pack
  simp only [yb]
  rw [kp, kp, kp]
  obtain ⟨m2, b1, b2, b3, b4, b5⟩ := kind_L HO (set := set) (kk := 2) (K := fun mp => md_pack_L7 set mo 2 mp) (by decide) mo.1 (pk.1, pk.2.1, pk.2.2.1, set, 0, 0) (0, mp.2.1, mp.2.2.1, mp.2.2.2.1, mp.2.2.2.2) (Nat.le_refl _) ⟨p1, p2, p3, rfl, by show 0 ≤ 60; omega, rfl⟩ rfl (fun j hj => absurd hj (by show ¬ j < 0; omega)) (yc7_19 (yc7_0 h60))
  obtain ⟨m1, c1, c2, c3, c4, c5⟩ := kind_L HO (set := set) (kk := 1) (K := fun mp => md_pack_L7 set mo 1 mp) (by decide) mo.1 _ m2 (Nat.le_refl _) b2 b3 b4 (yc7_19 b5)
  obtain ⟨m0, d1, d2, d3, d4, d5⟩ := kind_L HO (set := set) (kk := 0) (K := fun mp => md_pack_L7 set mo 0 mp) (by decide) mo.1 _ m1 (Nat.le_refl _) c2 c3 c4 (yc7_19 c5)
  have e : md_pack_L7 set mo 3 (0, mp.2.1, mp.2.2.1, mp.2.2.2.1, mp.2.2.2.2) = m0 := by
    rw [md_pack_L7, b1, md_pack_L7, c1, md_pack_L7, d1]
    rfl
  rw [e]
  exact ⟨d2, d3⟩
end PK
