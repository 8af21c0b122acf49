set_option maxHeartbeats 4000000 in
set_option maxRecDepth 100000 in
theorem c_md_has (l : Launch) (D : va_G) (cI cJ cZ cN : ClassId) (ma : Nat → Nat) (nk : Nat) (x : Int32) (mo : MO) (mn : MN) (mw : MW) (mt : MT) (mv : (Nat → Int32)) (mp : MP) (hk3 : nk < 3) (res : Bool) (hf : res = md_has nk x mo mn) : yy_Met l yX5_has wsX5_has { frames := 0, cells := 0, slots := 0, locals := 0 } D vwCl (yT cI cJ cZ cN) [.ref (ma 0), .int (nI nk), .int x] (mW cI cJ cZ ma mo mn mw mt mv mp) (some (.int (yB res))) (mW cI cJ cZ ma mo mn mw mt mv mp) := by
  intro sz
  refine Met.ofW (cc := cX5_has) (maxL := 3) (ret := (some .boolean)) (by decide) rfl ?_
  intro p e s m args below meth c s₁ B hml hv
  obtain ⟨rfl, hsz, hP, hK, hD0, hN⟩ := hv
  have hx := B.exec
  have hb := B.bytes
  have hr := B.returns
  have hts := atoms_spec (ws := wsX5_has) B.pre
  have hw : ∀ w ∈ yW, w.before _ s = true := fun w h => hts w (List.mem_cons_of_mem _ h)
  have hown : s.vm.findClass RX5 = some m.cls := findClass_of_methodNamed B.named
  have hlocks := B.notSynchronized
  subst hsz
  have hD := hD0.self (sz := s.heap.size)
  generalize hAe : va_A (mW cI cJ cZ ma mo mn mw mt mv mp) s.heap.size = A at hD ⊢
  have hA : ∀ q : Nat, s.heap.size ≤ q → A q := fun q h => by rw [← hAe]; exact Or.inr h
  have hS : va_S A s.heap s.heap [] := va_S.rf
  have hl := lv_entry ([.ref (ma 0), .int (nI nk), .int x]) (n := 3) (Nat.le_of_ble_eq_true rfl)
  rw [lg_entry_eq]
  generalize (lg_sl ([.ref (ma 0), .int (nI nk), .int x]) ++ List.replicate (3 - (lg_sl ([.ref (ma 0), .int (nI nk), .int x])).length) Slot.unset).toArray = ls at hl ⊢
  have hl : lv_has ls 3 [(0, .ref (ma 0)), (1, .int (nI nk)), (2, .int x)] := hl
  rw [md_has] at hf
  refine lv_iload_n hx hb dX5_has_0 rfl (lv_at hl 2 rfl) ?_
  refine lv_if_lt (tgt := 31) hx hb dX5_has_1 (by decide) (fun h1 => ?_) (fun h1 => ?_)
  · have hf := yt h1 hf
    refine lv_iconst (v := 0) hx hb dX5_has_31 (by decide) ?_
    subst hf
    exact yy_zret (v := yB false) hx hb hr (yB_n _) hP hK hS hlocks dX5_has_32
  · have hf := yf h1 hf
    refine lv_iload_n hx hb dX5_has_4 rfl (lv_at hl 2 rfl) ?_
    refine lv_aload_n hx hb dX5_has_5 rfl (lv_at hl 0 rfl) ?_
    refine va_get (D := D) (ci := 5) (v := .int (nI mo.1)) (C := RX5) (T := TX5) (N := 25) hx hb hts (yy_tl inX5) hown hK hP 0 rfl rfl 0 (by decide) (hw _ wq_485) (fun _ h9 => h9) rfl dX5_has_6 ?_
    refine lv_icmp_ge (tgt := 31) hx hb dX5_has_9 (by decide) (fun h2 => ?_) (fun h2 => ?_)
    · have hf := yt h2 hf
      refine lv_iconst (v := 0) hx hb dX5_has_31 (by decide) ?_
      subst hf
      exact yy_zret (v := yB false) hx hb hr (yB_n _) hP hK hS hlocks dX5_has_32
    · have hf := yf h2 hf
      refine lv_aload_n hx hb dX5_has_12 rfl (lv_at hl 0 rfl) ?_
      refine va_get (D := D) (ci := 5) (v := .ref (ma 5)) (C := RX5) (T := TX5) (N := 25) hx hb hts (yy_tl inX5) hown hK hP 0 rfl rfl 5 (by decide) (hw _ wq_490) (fun _ h9 => h9) rfl dX5_has_13 ?_
      refine lv_iload_n hx hb dX5_has_16 rfl (lv_at hl 1 rfl) ?_
      refine yr_lald hx hb hK hP 5 1 (f := mn.1) (j := nk) rfl rfl rfl (by omega) (by decide) dX5_has_17 ?_
      refine lv_iload_n hx hb dX5_has_18 rfl (lv_at hl 2 rfl) ?_
      refine lv_lshr (v := ylshr (mn.1 nk) x) hx hb dX5_has_19 rfl ?_
      refine lv_lconst (v := 1) hx hb dX5_has_20 (by decide) ?_
      refine lv_land hx hb dX5_has_21 ?_
      refine lv_lconst (v := 1) hx hb dX5_has_22 (by decide) ?_
      refine W.lcmp hx hb dX5_has_23 ?_
      refine lv_if_ne (tgt := 31) hx hb dX5_has_24 (by decide) (fun h3 => ?_) (fun h3 => ?_)
      · have h3 := yy_cmp1 h3
        have hf := yf h3 hf
        refine lv_iconst (v := 0) hx hb dX5_has_31 (by decide) ?_
        subst hf
        exact yy_zret (v := yB false) hx hb hr (yB_n _) hP hK hS hlocks dX5_has_32
      · have h3 := yy_cmp0 h3
        have hf := yt h3 hf
        refine lv_iconst (v := 1) hx hb dX5_has_27 (by decide) ?_
        refine lv_goto (tgt := 32) hx hb dX5_has_28 (by decide) ?_
        subst hf
        exact yy_zret (v := yB true) hx hb hr (yB_n _) hP hK hS hlocks dX5_has_32

set_option maxHeartbeats 4000000 in
set_option maxRecDepth 100000 in
theorem c_md_reach (l : Launch) (D : va_G) (cI cJ cZ cN : ClassId) (ma : Nat → Nat) (set : Int64) (mo : MO) (mn : MN) (mw : MW) (mt : MT) (mv : (Nat → Int32)) (mp : MP) (ho : mo.1 ≤ 60) (res : Int64) (hf : res = md_reach set mo) : yy_Met l yX5_reach wsX5_reach { frames := 0, cells := 0, slots := 0, locals := 0 } D vwCl (yT cI cJ cZ cN) [.ref (ma 0), .long set] (mW cI cJ cZ ma mo mn mw mt mv mp) (some (.long res)) (mW cI cJ cZ ma mo mn mw mt mv mp) := by
  intro sz
  refine Met.ofW (cc := cX5_reach) (maxL := 6) (ret := (some .long)) (by decide) rfl ?_
  intro p e s m args below meth c s₁ B hml hv
  obtain ⟨rfl, hsz, hP, hK, hD0, hN⟩ := hv
  have hx := B.exec
  have hb := B.bytes
  have hr := B.returns
  have hts := atoms_spec (ws := wsX5_reach) B.pre
  have hw : ∀ w ∈ yW, w.before _ s = true := fun w h => hts w (List.mem_cons_of_mem _ h)
  have hown : s.vm.findClass RX5 = some m.cls := findClass_of_methodNamed B.named
  have hlocks := B.notSynchronized
  subst hsz
  have hD := hD0.self (sz := s.heap.size)
  generalize hAe : va_A (mW cI cJ cZ ma mo mn mw mt mv mp) s.heap.size = A at hD ⊢
  have hA : ∀ q : Nat, s.heap.size ≤ q → A q := fun q h => by rw [← hAe]; exact Or.inr h
  have hS : va_S A s.heap s.heap [] := va_S.rf
  have hl := lv_entry ([.ref (ma 0), .long set]) (n := 6) (Nat.le_of_ble_eq_true rfl)
  rw [lg_entry_eq]
  generalize (lg_sl ([.ref (ma 0), .long set]) ++ List.replicate (6 - (lg_sl ([.ref (ma 0), .long set])).length) Slot.unset).toArray = ls at hl ⊢
  have hl : lv_has ls 6 [(0, .ref (ma 0)), (1, .long set)] := hl
  have hL10 : ∀ (k : Nat) (all : Int64) (ls : Array Slot) (H : Heap) (locs : List Loc), k ≤ mo.1 → res = md_reach_L10 mo k all → lv_has ls 6 [(0, .ref (ma 0)), (1, .long set), (3, .long all), (5, .int (nI k - 1))] → va_P D vwCl (mW cI cJ cZ ma mo mn mw mt mv mp) H → va_D A (mW cI cJ cZ ma mo mn mw mt mv mp) → va_S A s.heap H locs → W p l e (headSpec wsX5_reach { frames := 0, cells := 0, slots := 0, locals := 0 }).room s m ([.ref (ma 0), .long set] : List Value).toArray below meth c H locs 0 0 (MQ below (yy_Q A D vwCl (yT cI cJ cZ cN) (mW cI cJ cZ ma mo mn mw mt mv mp) (some (.long res))) ([.ref (ma 0), .long set] : List Value).toArray s 0 0 A) (F0 m 10 ls []) := by
    intro k
    induction k with
    | zero =>
      intro all ls H locs hi hf hl hP hD hS
      rw [md_reach_L10] at hf
      refine lv_iload hx hb dX5_reach_10 (lv_at hl 3 rfl) ?_
      refine lv_if_lt (tgt := 106) hx hb dX5_reach_12 (by decide) (fun _ => ?_) (fun h => absurd (by decide) h)
      refine lv_lload_n hx hb dX5_reach_106 rfl (lv_at hl 2 rfl) ?_
      subst hf
      exact yy_lret hx hb hr hP hK hS hlocks dX5_reach_107
    | succ x ih =>
      intro all ls H locs hi hf hl hP hD hS
      rw [md_reach_L10] at hf
      rw [nI_pred] at hl
      refine lv_iload hx hb dX5_reach_10 (lv_at hl 3 rfl) ?_
      refine lv_if_lt (tgt := 106) hx hb dX5_reach_12 (by decide) (fun h => absurd h (nI_pos (by omega))) (fun _ => ?_)
      refine lv_lload_n hx hb dX5_reach_15 rfl (lv_at hl 2 rfl) ?_
      refine lv_iload hx hb dX5_reach_16 (lv_at hl 3 rfl) ?_
      refine lv_lshr (v := ylshr all (nI x)) hx hb dX5_reach_18 rfl ?_
      refine lv_lconst (v := 1) hx hb dX5_reach_19 (by decide) ?_
      refine lv_land hx hb dX5_reach_20 ?_
      refine lv_lconst (v := 1) hx hb dX5_reach_21 (by decide) ?_
      refine W.lcmp hx hb dX5_reach_22 ?_
      refine lv_if_ne (tgt := 100) hx hb dX5_reach_23 (by decide) (fun h1 => ?_) (fun h1 => ?_)
      · have h1 := yy_cmp1 h1
        have hf := yf h1 hf
        refine lv_iinc (k := 3) (v := (nI x - 1)) (lv' := [(5, .int (nI x - 1)), (0, .ref (ma 0)), (1, .long set), (3, .long all)]) hx hb dX5_reach_100 hl rfl (yy_dec _) (by decide) rfl (fun ls hl => ?_)
        refine lv_goto (tgt := 10) hx hb dX5_reach_103 (by decide) ?_
        exact ih all _ _ _ (by omega) hf (lv_sub hl [1, 2, 3, 0] rfl) hP hD hS
      · have h1 := yy_cmp0 h1
        have hf := yt h1 hf
        refine lv_aload_n hx hb dX5_reach_26 rfl (lv_at hl 0 rfl) ?_
        refine va_get (D := D) (ci := 5) (v := .ref (ma 1)) (C := RX5) (T := TX5) (N := 25) hx hb hts (yy_tl inX5) hown hK hP 0 rfl rfl 1 (by decide) (hw _ wq_486) (fun _ h9 => h9) rfl dX5_reach_27 ?_
        refine lv_iload hx hb dX5_reach_30 (lv_at hl 3 rfl) ?_
        refine yr_iald hx hb hK hP 1 0 (f := mo.2.1) (j := x) rfl rfl rfl (by omega) (by decide) dX5_reach_32 ?_
        refine lv_if_le (tgt := 100) hx hb dX5_reach_33 (by decide) (fun h2 => ?_) (fun h2 => ?_)
        · have hf := yt h2 hf
          refine lv_iinc (k := 3) (v := (nI x - 1)) (lv' := [(5, .int (nI x - 1)), (0, .ref (ma 0)), (1, .long set), (3, .long all)]) hx hb dX5_reach_100 hl rfl (yy_dec _) (by decide) rfl (fun ls hl => ?_)
          refine lv_goto (tgt := 10) hx hb dX5_reach_103 (by decide) ?_
          exact ih all _ _ _ (by omega) hf (lv_sub hl [1, 2, 3, 0] rfl) hP hD hS
        · have hf := yf h2 hf
          refine lv_lload_n hx hb dX5_reach_36 rfl (lv_at hl 2 rfl) ?_
          refine lv_lconst (v := 1) hx hb dX5_reach_37 (by decide) ?_
          refine lv_aload_n hx hb dX5_reach_38 rfl (lv_at hl 0 rfl) ?_
          refine va_get (D := D) (ci := 5) (v := .ref (ma 2)) (C := RX5) (T := TX5) (N := 25) hx hb hts (yy_tl inX5) hown hK hP 0 rfl rfl 2 (by decide) (hw _ wq_487) (fun _ h9 => h9) rfl dX5_reach_39 ?_
          refine lv_iload hx hb dX5_reach_42 (lv_at hl 3 rfl) ?_
          refine yr_iald hx hb hK hP 2 0 (f := mo.2.2.1) (j := x) rfl rfl rfl (by omega) (by decide) dX5_reach_44 ?_
          refine lv_lshl (v := ylshl 1 (mo.2.2.1 x)) hx hb dX5_reach_45 rfl ?_
          refine lv_lor hx hb dX5_reach_46 ?_
          refine lv_lstore_n (lv' := [(3, .long (all ||| (ylshl 1 (mo.2.2.1 x)))), (0, .ref (ma 0)), (1, .long set), (5, .int (nI x))]) hx hb dX5_reach_47 rfl hl (by decide) rfl (fun ls hl => ?_)
          refine lv_aload_n hx hb dX5_reach_48 rfl (lv_at hl 1 rfl) ?_
          refine va_get (D := D) (ci := 5) (v := .ref (ma 3)) (C := RX5) (T := TX5) (N := 25) hx hb hts (yy_tl inX5) hown hK hP 0 rfl rfl 3 (by decide) (hw _ wq_488) (fun _ h9 => h9) rfl dX5_reach_49 ?_
          refine lv_iload hx hb dX5_reach_52 (lv_at hl 3 rfl) ?_
          refine yr_iald hx hb hK hP 3 0 (f := mo.2.2.2.1) (j := x) rfl rfl rfl (by omega) (by decide) dX5_reach_54 ?_
          refine lv_if_lt (tgt := 72) hx hb dX5_reach_55 (by decide) (fun h3 => ?_) (fun h3 => ?_)
          · have hf := yt h3 hf
            refine lv_lload_n hx hb dX5_reach_72 rfl (lv_at hl 0 rfl) ?_
            refine lv_lstore_n (lv' := [(3, .long (all ||| (ylshl 1 (mo.2.2.1 x)))), (0, .ref (ma 0)), (1, .long set), (5, .int (nI x))]) hx hb dX5_reach_73 rfl hl (by decide) rfl (fun ls hl => ?_)
            refine lv_aload_n hx hb dX5_reach_74 rfl (lv_at hl 1 rfl) ?_
            refine va_get (D := D) (ci := 5) (v := .ref (ma 4)) (C := RX5) (T := TX5) (N := 25) hx hb hts (yy_tl inX5) hown hK hP 0 rfl rfl 4 (by decide) (hw _ wq_489) (fun _ h9 => h9) rfl dX5_reach_75 ?_
            refine lv_iload hx hb dX5_reach_78 (lv_at hl 3 rfl) ?_
            refine yr_iald hx hb hK hP 4 0 (f := mo.2.2.2.2) (j := x) rfl rfl rfl (by omega) (by decide) dX5_reach_80 ?_
            refine lv_if_lt (tgt := 98) hx hb dX5_reach_81 (by decide) (fun h4 => ?_) (fun h4 => ?_)
            · have hf := yt h4 hf
              refine lv_lload_n hx hb dX5_reach_98 rfl (lv_at hl 0 rfl) ?_
              refine lv_lstore_n (lv' := [(3, .long (all ||| (ylshl 1 (mo.2.2.1 x)))), (0, .ref (ma 0)), (1, .long set), (5, .int (nI x))]) hx hb dX5_reach_99 rfl hl (by decide) rfl (fun ls hl => ?_)
              refine lv_iinc (k := 3) (v := (nI x - 1)) (lv' := [(5, .int (nI x - 1)), (3, .long (all ||| (ylshl 1 (mo.2.2.1 x)))), (0, .ref (ma 0)), (1, .long set)]) hx hb dX5_reach_100 hl rfl (yy_dec _) (by decide) rfl (fun ls hl => ?_)
              refine lv_goto (tgt := 10) hx hb dX5_reach_103 (by decide) ?_
              exact ih (all ||| (ylshl 1 (mo.2.2.1 x))) _ _ _ (by omega) hf (lv_sub hl [2, 3, 1, 0] rfl) hP hD hS
            · have hf := yf h4 hf
              refine lv_lload_n hx hb dX5_reach_84 rfl (lv_at hl 0 rfl) ?_
              refine lv_lconst (v := 1) hx hb dX5_reach_85 (by decide) ?_
              refine lv_aload_n hx hb dX5_reach_86 rfl (lv_at hl 1 rfl) ?_
              refine va_get (D := D) (ci := 5) (v := .ref (ma 4)) (C := RX5) (T := TX5) (N := 25) hx hb hts (yy_tl inX5) hown hK hP 0 rfl rfl 4 (by decide) (hw _ wq_489) (fun _ h9 => h9) rfl dX5_reach_87 ?_
              refine lv_iload hx hb dX5_reach_90 (lv_at hl 3 rfl) ?_
              refine yr_iald hx hb hK hP 4 0 (f := mo.2.2.2.2) (j := x) rfl rfl rfl (by omega) (by decide) dX5_reach_92 ?_
              refine lv_lshl (v := ylshl 1 (mo.2.2.2.2 x)) hx hb dX5_reach_93 rfl ?_
              refine lv_lor hx hb dX5_reach_94 ?_
              refine lv_goto (tgt := 99) hx hb dX5_reach_95 (by decide) ?_
              refine lv_lstore_n (lv' := [(3, .long ((all ||| (ylshl 1 (mo.2.2.1 x))) ||| (ylshl 1 (mo.2.2.2.2 x)))), (0, .ref (ma 0)), (1, .long set), (5, .int (nI x))]) hx hb dX5_reach_99 rfl hl (by decide) rfl (fun ls hl => ?_)
              refine lv_iinc (k := 3) (v := (nI x - 1)) (lv' := [(5, .int (nI x - 1)), (3, .long ((all ||| (ylshl 1 (mo.2.2.1 x))) ||| (ylshl 1 (mo.2.2.2.2 x)))), (0, .ref (ma 0)), (1, .long set)]) hx hb dX5_reach_100 hl rfl (yy_dec _) (by decide) rfl (fun ls hl => ?_)
              refine lv_goto (tgt := 10) hx hb dX5_reach_103 (by decide) ?_
              exact ih ((all ||| (ylshl 1 (mo.2.2.1 x))) ||| (ylshl 1 (mo.2.2.2.2 x))) _ _ _ (by omega) hf (lv_sub hl [2, 3, 1, 0] rfl) hP hD hS
          · have hf := yf h3 hf
            refine lv_lload_n hx hb dX5_reach_58 rfl (lv_at hl 0 rfl) ?_
            refine lv_lconst (v := 1) hx hb dX5_reach_59 (by decide) ?_
            refine lv_aload_n hx hb dX5_reach_60 rfl (lv_at hl 1 rfl) ?_
            refine va_get (D := D) (ci := 5) (v := .ref (ma 3)) (C := RX5) (T := TX5) (N := 25) hx hb hts (yy_tl inX5) hown hK hP 0 rfl rfl 3 (by decide) (hw _ wq_488) (fun _ h9 => h9) rfl dX5_reach_61 ?_
            refine lv_iload hx hb dX5_reach_64 (lv_at hl 3 rfl) ?_
            refine yr_iald hx hb hK hP 3 0 (f := mo.2.2.2.1) (j := x) rfl rfl rfl (by omega) (by decide) dX5_reach_66 ?_
            refine lv_lshl (v := ylshl 1 (mo.2.2.2.1 x)) hx hb dX5_reach_67 rfl ?_
            refine lv_lor hx hb dX5_reach_68 ?_
            refine lv_goto (tgt := 73) hx hb dX5_reach_69 (by decide) ?_
            refine lv_lstore_n (lv' := [(3, .long ((all ||| (ylshl 1 (mo.2.2.1 x))) ||| (ylshl 1 (mo.2.2.2.1 x)))), (0, .ref (ma 0)), (1, .long set), (5, .int (nI x))]) hx hb dX5_reach_73 rfl hl (by decide) rfl (fun ls hl => ?_)
            refine lv_aload_n hx hb dX5_reach_74 rfl (lv_at hl 1 rfl) ?_
            refine va_get (D := D) (ci := 5) (v := .ref (ma 4)) (C := RX5) (T := TX5) (N := 25) hx hb hts (yy_tl inX5) hown hK hP 0 rfl rfl 4 (by decide) (hw _ wq_489) (fun _ h9 => h9) rfl dX5_reach_75 ?_
            refine lv_iload hx hb dX5_reach_78 (lv_at hl 3 rfl) ?_
            refine yr_iald hx hb hK hP 4 0 (f := mo.2.2.2.2) (j := x) rfl rfl rfl (by omega) (by decide) dX5_reach_80 ?_
            refine lv_if_lt (tgt := 98) hx hb dX5_reach_81 (by decide) (fun h5 => ?_) (fun h5 => ?_)
            · have hf := yt h5 hf
              refine lv_lload_n hx hb dX5_reach_98 rfl (lv_at hl 0 rfl) ?_
              refine lv_lstore_n (lv' := [(3, .long ((all ||| (ylshl 1 (mo.2.2.1 x))) ||| (ylshl 1 (mo.2.2.2.1 x)))), (0, .ref (ma 0)), (1, .long set), (5, .int (nI x))]) hx hb dX5_reach_99 rfl hl (by decide) rfl (fun ls hl => ?_)
              refine lv_iinc (k := 3) (v := (nI x - 1)) (lv' := [(5, .int (nI x - 1)), (3, .long ((all ||| (ylshl 1 (mo.2.2.1 x))) ||| (ylshl 1 (mo.2.2.2.1 x)))), (0, .ref (ma 0)), (1, .long set)]) hx hb dX5_reach_100 hl rfl (yy_dec _) (by decide) rfl (fun ls hl => ?_)
              refine lv_goto (tgt := 10) hx hb dX5_reach_103 (by decide) ?_
              exact ih ((all ||| (ylshl 1 (mo.2.2.1 x))) ||| (ylshl 1 (mo.2.2.2.1 x))) _ _ _ (by omega) hf (lv_sub hl [2, 3, 1, 0] rfl) hP hD hS
            · have hf := yf h5 hf
              refine lv_lload_n hx hb dX5_reach_84 rfl (lv_at hl 0 rfl) ?_
              refine lv_lconst (v := 1) hx hb dX5_reach_85 (by decide) ?_
              refine lv_aload_n hx hb dX5_reach_86 rfl (lv_at hl 1 rfl) ?_
              refine va_get (D := D) (ci := 5) (v := .ref (ma 4)) (C := RX5) (T := TX5) (N := 25) hx hb hts (yy_tl inX5) hown hK hP 0 rfl rfl 4 (by decide) (hw _ wq_489) (fun _ h9 => h9) rfl dX5_reach_87 ?_
              refine lv_iload hx hb dX5_reach_90 (lv_at hl 3 rfl) ?_
              refine yr_iald hx hb hK hP 4 0 (f := mo.2.2.2.2) (j := x) rfl rfl rfl (by omega) (by decide) dX5_reach_92 ?_
              refine lv_lshl (v := ylshl 1 (mo.2.2.2.2 x)) hx hb dX5_reach_93 rfl ?_
              refine lv_lor hx hb dX5_reach_94 ?_
              refine lv_goto (tgt := 99) hx hb dX5_reach_95 (by decide) ?_
              refine lv_topl (fun v6 ev6 => ?_)
              have hf := yb_e ev6 hf
              refine lv_lstore_n (lv' := [(3, .long v6), (0, .ref (ma 0)), (1, .long set), (5, .int (nI x))]) hx hb dX5_reach_99 rfl hl (by decide) rfl (fun ls hl => ?_)
              refine lv_iinc (k := 3) (v := (nI x - 1)) (lv' := [(5, .int (nI x - 1)), (3, .long v6), (0, .ref (ma 0)), (1, .long set)]) hx hb dX5_reach_100 hl rfl (yy_dec _) (by decide) rfl (fun ls hl => ?_)
              refine lv_goto (tgt := 10) hx hb dX5_reach_103 (by decide) ?_
              exact ih v6 _ _ _ (by omega) hf (lv_sub hl [2, 3, 1, 0] rfl) hP hD hS
  rw [md_reach] at hf
  refine lv_lload_n hx hb dX5_reach_0 rfl (lv_at hl 1 rfl) ?_
  refine lv_lstore_n (lv' := [(3, .long set), (0, .ref (ma 0)), (1, .long set)]) hx hb dX5_reach_1 rfl hl (by decide) rfl (fun ls hl => ?_)
  refine lv_aload_n hx hb dX5_reach_2 rfl (lv_at hl 1 rfl) ?_
  refine va_get (D := D) (ci := 5) (v := .int (nI mo.1)) (C := RX5) (T := TX5) (N := 25) hx hb hts (yy_tl inX5) hown hK hP 0 rfl rfl 0 (by decide) (hw _ wq_485) (fun _ h9 => h9) rfl dX5_reach_3 ?_
  refine lv_iconst (v := 1) hx hb dX5_reach_6 (by decide) ?_
  refine lv_isub hx hb dX5_reach_7 ?_
  refine lv_istore (lv' := [(5, .int (nI mo.1 - 1)), (3, .long set), (0, .ref (ma 0)), (1, .long set)]) hx hb dX5_reach_8 hl (by decide) rfl (fun ls hl => ?_)
  exact hL10 mo.1 set _ _ _ (by omega) hf (lv_sub hl [2, 3, 1, 0] rfl) hP hD hS

set_option maxHeartbeats 4000000 in
set_option maxRecDepth 100000 in
theorem c_md_tips (l : Launch) (D : va_G) (cI cJ cZ cN : ClassId) (ma : Nat → Nat) (nk : Nat) (fr : Nat) (tt : Nat) (mo : MO) (mn : MN) (mw : MW) (mt : MT) (mv : (Nat → Int32)) (mp : MP) (hk3 : nk < 3) (hft : fr ≤ tt) (ht7 : tt ≤ 7) (res : Int64) (hf : res = md_tips nk fr tt mn) : yy_Met l yX5_tips wsX5_tips { frames := 0, cells := 0, slots := 0, locals := 0 } D vwCl (yT cI cJ cZ cN) [.ref (ma 0), .int (nI nk), .int (nI fr), .int (nI tt)] (mW cI cJ cZ ma mo mn mw mt mv mp) (some (.long res)) (mW cI cJ cZ ma mo mn mw mt mv mp) := by
  intro sz
  refine Met.ofW (cc := cX5_tips) (maxL := 7) (ret := (some .long)) (by decide) rfl ?_
  intro p e s m args below meth c s₁ B hml hv
  obtain ⟨rfl, hsz, hP, hK, hD0, hN⟩ := hv
  have hx := B.exec
  have hb := B.bytes
  have hr := B.returns
  have hts := atoms_spec (ws := wsX5_tips) B.pre
  have hw : ∀ w ∈ yW, w.before _ s = true := fun w h => hts w (List.mem_cons_of_mem _ h)
  have hown : s.vm.findClass RX5 = some m.cls := findClass_of_methodNamed B.named
  have hlocks := B.notSynchronized
  subst hsz
  have hD := hD0.self (sz := s.heap.size)
  generalize hAe : va_A (mW cI cJ cZ ma mo mn mw mt mv mp) s.heap.size = A at hD ⊢
  have hA : ∀ q : Nat, s.heap.size ≤ q → A q := fun q h => by rw [← hAe]; exact Or.inr h
  have hS : va_S A s.heap s.heap [] := va_S.rf
  have hl := lv_entry ([.ref (ma 0), .int (nI nk), .int (nI fr), .int (nI tt)]) (n := 7) (Nat.le_of_ble_eq_true rfl)
  rw [lg_entry_eq]
  generalize (lg_sl ([.ref (ma 0), .int (nI nk), .int (nI fr), .int (nI tt)]) ++ List.replicate (7 - (lg_sl ([.ref (ma 0), .int (nI nk), .int (nI fr), .int (nI tt)])).length) Slot.unset).toArray = ls at hl ⊢
  have hl : lv_has ls 7 [(0, .ref (ma 0)), (1, .int (nI nk)), (2, .int (nI fr)), (3, .int (nI tt))] := hl
  have hL6 : ∀ (k : Nat) (i : Nat) (acc : Int64) (ls : Array Slot) (H : Heap) (locs : List Loc), i + k = tt + 1 → res = md_tips_L6 nk mn k i acc → lv_has ls 7 [(0, .ref (ma 0)), (1, .int (nI nk)), (2, .int (nI fr)), (3, .int (nI tt)), (4, .long acc), (6, .int (nI i))] → va_P D vwCl (mW cI cJ cZ ma mo mn mw mt mv mp) H → va_D A (mW cI cJ cZ ma mo mn mw mt mv mp) → va_S A s.heap H locs → W p l e (headSpec wsX5_tips { frames := 0, cells := 0, slots := 0, locals := 0 }).room s m ([.ref (ma 0), .int (nI nk), .int (nI fr), .int (nI tt)] : List Value).toArray below meth c H locs 0 0 (MQ below (yy_Q A D vwCl (yT cI cJ cZ cN) (mW cI cJ cZ ma mo mn mw mt mv mp) (some (.long res))) ([.ref (ma 0), .int (nI nk), .int (nI fr), .int (nI tt)] : List Value).toArray s 0 0 A) (F0 m 6 ls []) := by
    intro k
    induction k with
    | zero =>
      intro i acc ls H locs hi hf hl hP hD hS
      rw [md_tips_L6] at hf
      refine lv_iload hx hb dX5_tips_6 (lv_at hl 5 rfl) ?_
      refine lv_iload_n hx hb dX5_tips_8 rfl (lv_at hl 3 rfl) ?_
      refine lv_icmp_gt (tgt := 54) hx hb dX5_tips_9 (by decide) (fun _ => ?_) (fun h => absurd (nI_lt (by omega) (by omega)) h)
      refine lv_lload hx hb dX5_tips_54 (lv_at hl 4 rfl) ?_
      subst hf
      exact yy_lret hx hb hr hP hK hS hlocks dX5_tips_56
    | succ k ih =>
      intro i acc ls H locs hi hf hl hP hD hS
      rw [md_tips_L6] at hf
      refine lv_iload hx hb dX5_tips_6 (lv_at hl 5 rfl) ?_
      refine lv_iload_n hx hb dX5_tips_8 rfl (lv_at hl 3 rfl) ?_
      refine lv_icmp_gt (tgt := 54) hx hb dX5_tips_9 (by decide) (fun h => absurd h (nI_nlt (by omega) (by omega))) (fun _ => ?_)
      refine lv_aload_n hx hb dX5_tips_12 rfl (lv_at hl 0 rfl) ?_
      refine va_get (D := D) (ci := 5) (v := .ref (ma 6)) (C := RX5) (T := TX5) (N := 25) hx hb hts (yy_tl inX5) hown hK hP 0 rfl rfl 6 (by decide) (hw _ wq_491) (fun _ h9 => h9) rfl dX5_tips_13 ?_
      refine lv_bipush (v := (nI 8)) hx hb dX5_tips_16 (by decide) ?_
      refine lv_iload_n hx hb dX5_tips_18 rfl (lv_at hl 1 rfl) ?_
      refine yr_imulN hx hb dX5_tips_19 ?_
      refine lv_iload hx hb dX5_tips_20 (lv_at hl 5 rfl) ?_
      refine yr_iaddN hx hb dX5_tips_22 ?_
      refine yr_iald hx hb hK hP 6 0 (f := mn.2.1) (j := (8 * nk) + i) rfl rfl rfl (by omega) (by decide) dX5_tips_23 ?_
      refine lv_if_le (tgt := 48) hx hb dX5_tips_24 (by decide) (fun h1 => ?_) (fun h1 => ?_)
      · have hf := yt h1 hf
        refine lv_iinc (k := 5) (v := (nI (i + 1))) (lv' := [(6, .int (nI (i + 1))), (0, .ref (ma 0)), (1, .int (nI nk)), (2, .int (nI fr)), (3, .int (nI tt)), (4, .long acc)]) hx hb dX5_tips_48 hl rfl (yy_inc _) (by decide) rfl (fun ls hl => ?_)
        refine lv_goto (tgt := 6) hx hb dX5_tips_51 (by decide) ?_
        exact ih (i + 1) acc _ _ _ (by omega) hf (lv_sub hl [1, 2, 3, 4, 5, 0] rfl) hP hD hS
      · have hf := yf h1 hf
        refine lv_lload hx hb dX5_tips_27 (lv_at hl 4 rfl) ?_
        refine lv_lconst (v := 1) hx hb dX5_tips_29 (by decide) ?_
        refine lv_aload_n hx hb dX5_tips_30 rfl (lv_at hl 0 rfl) ?_
        refine va_get (D := D) (ci := 5) (v := .ref (ma 6)) (C := RX5) (T := TX5) (N := 25) hx hb hts (yy_tl inX5) hown hK hP 0 rfl rfl 6 (by decide) (hw _ wq_491) (fun _ h9 => h9) rfl dX5_tips_31 ?_
        refine lv_bipush (v := (nI 8)) hx hb dX5_tips_34 (by decide) ?_
        refine lv_iload_n hx hb dX5_tips_36 rfl (lv_at hl 1 rfl) ?_
        refine yr_imulN hx hb dX5_tips_37 ?_
        refine lv_iload hx hb dX5_tips_38 (lv_at hl 5 rfl) ?_
        refine yr_iaddN hx hb dX5_tips_40 ?_
        refine yr_iald hx hb hK hP 6 0 (f := mn.2.1) (j := (8 * nk) + i) rfl rfl rfl (by omega) (by decide) dX5_tips_41 ?_
        refine lv_iconst (v := 1) hx hb dX5_tips_42 (by decide) ?_
        refine lv_isub hx hb dX5_tips_43 ?_
        refine lv_lshl (v := ylshl 1 ((mn.2.1 ((8 * nk) + i)) - 1)) hx hb dX5_tips_44 rfl ?_
        refine lv_lor hx hb dX5_tips_45 ?_
        refine lv_lstore (lv' := [(4, .long (acc ||| (ylshl 1 ((mn.2.1 ((8 * nk) + i)) - 1)))), (0, .ref (ma 0)), (1, .int (nI nk)), (2, .int (nI fr)), (3, .int (nI tt)), (6, .int (nI i))]) hx hb dX5_tips_46 hl (by decide) rfl (fun ls hl => ?_)
        refine lv_iinc (k := 5) (v := (nI (i + 1))) (lv' := [(6, .int (nI (i + 1))), (4, .long (acc ||| (ylshl 1 ((mn.2.1 ((8 * nk) + i)) - 1)))), (0, .ref (ma 0)), (1, .int (nI nk)), (2, .int (nI fr)), (3, .int (nI tt))]) hx hb dX5_tips_48 hl rfl (yy_inc _) (by decide) rfl (fun ls hl => ?_)
        refine lv_goto (tgt := 6) hx hb dX5_tips_51 (by decide) ?_
        exact ih (i + 1) (acc ||| (ylshl 1 ((mn.2.1 ((8 * nk) + i)) - 1))) _ _ _ (by omega) hf (lv_sub hl [2, 3, 4, 5, 1, 0] rfl) hP hD hS
  rw [md_tips] at hf
  refine lv_lconst (v := 0) hx hb dX5_tips_0 (by decide) ?_
  refine lv_lstore (lv' := [(4, .long 0), (0, .ref (ma 0)), (1, .int (nI nk)), (2, .int (nI fr)), (3, .int (nI tt))]) hx hb dX5_tips_1 hl (by decide) rfl (fun ls hl => ?_)
  refine lv_iload_n hx hb dX5_tips_3 rfl (lv_at hl 3 rfl) ?_
  refine lv_istore (lv' := [(6, .int (nI fr)), (4, .long 0), (0, .ref (ma 0)), (1, .int (nI nk)), (2, .int (nI fr)), (3, .int (nI tt))]) hx hb dX5_tips_4 hl (by decide) rfl (fun ls hl => ?_)
  exact hL6 ((tt + 1) - fr) fr 0 _ _ _ (by omega) hf (lv_sub hl [2, 3, 4, 5, 1, 0] rfl) hP hD hS

set_option maxHeartbeats 4000000 in
set_option maxRecDepth 100000 in
theorem c_md_write (l : Launch) (D : va_G) (cI cJ cZ cN : ClassId) (ma : Nat → Nat) (nk : Nat) (mo : MO) (mn : MN) (mw : MW) (mt : MT) (mv : (Nat → Int32)) (mp : MP) (hk3 : nk < 3) (res : Bool × MN) (hf : res = md_write nk mn) : yy_Met l yX5_write wsX5_write { frames := 0, cells := 0, slots := 0, locals := 0 } D vwCl (yT cI cJ cZ cN) [.ref (ma 0), .int (nI nk)] (mW cI cJ cZ ma mo mn mw mt mv mp) (some (.int (yB res.1))) (mW cI cJ cZ ma mo res.2 mw mt mv mp) := by
  intro sz
  refine Met.ofW (cc := cX5_write) (maxL := 2) (ret := (some .boolean)) (by decide) rfl ?_
  intro p e s m args below meth c s₁ B hml hv
  obtain ⟨rfl, hsz, hP, hK, hD0, hN⟩ := hv
  have hx := B.exec
  have hb := B.bytes
  have hr := B.returns
  have hts := atoms_spec (ws := wsX5_write) B.pre
  have hw : ∀ w ∈ yW, w.before _ s = true := fun w h => hts w (List.mem_cons_of_mem _ h)
  have hown : s.vm.findClass RX5 = some m.cls := findClass_of_methodNamed B.named
  have hlocks := B.notSynchronized
  subst hsz
  have hD := hD0.self (sz := s.heap.size)
  generalize hAe : va_A (mW cI cJ cZ ma mo mn mw mt mv mp) s.heap.size = A at hD ⊢
  have hA : ∀ q : Nat, s.heap.size ≤ q → A q := fun q h => by rw [← hAe]; exact Or.inr h
  have hS : va_S A s.heap s.heap [] := va_S.rf
  have hl := lv_entry ([.ref (ma 0), .int (nI nk)]) (n := 2) (Nat.le_of_ble_eq_true rfl)
  rw [lg_entry_eq]
  generalize (lg_sl ([.ref (ma 0), .int (nI nk)]) ++ List.replicate (2 - (lg_sl ([.ref (ma 0), .int (nI nk)])).length) Slot.unset).toArray = ls at hl ⊢
  have hl : lv_has ls 2 [(0, .ref (ma 0)), (1, .int (nI nk))] := hl
  rw [md_write] at hf
  refine lv_aload_n hx hb dX5_write_0 rfl (lv_at hl 0 rfl) ?_
  refine va_get (D := D) (ci := 5) (v := .ref (ma 8)) (C := RX5) (T := TX5) (N := 25) hx hb hts (yy_tl inX5) hown hK hP 0 rfl rfl 8 (by decide) (hw _ wq_493) (fun _ h9 => h9) rfl dX5_write_1 ?_
  refine lv_iload_n hx hb dX5_write_4 rfl (lv_at hl 1 rfl) ?_
  refine yr_iald hx hb hK hP 8 0 (f := mn.2.2.2.1) (j := nk) rfl rfl rfl (by omega) (by decide) dX5_write_5 ?_
  refine lv_iconst (v := 1) hx hb dX5_write_6 (by decide) ?_
  refine lv_icmp_ne (tgt := 26) hx hb dX5_write_7 (by decide) (fun h1 => ?_) (fun h1 => ?_)
  · have hf := yf h1 hf
    refine lv_aload_n hx hb dX5_write_26 rfl (lv_at hl 0 rfl) ?_
    refine va_get (D := D) (ci := 5) (v := .ref (ma 8)) (C := RX5) (T := TX5) (N := 25) hx hb hts (yy_tl inX5) hown hK hP 0 rfl rfl 8 (by decide) (hw _ wq_493) (fun _ h9 => h9) rfl dX5_write_27 ?_
    refine lv_iload_n hx hb dX5_write_30 rfl (lv_at hl 1 rfl) ?_
    refine lv_aload_n hx hb dX5_write_31 rfl (lv_at hl 0 rfl) ?_
    refine va_get (D := D) (ci := 5) (v := .ref (ma 8)) (C := RX5) (T := TX5) (N := 25) hx hb hts (yy_tl inX5) hown hK hP 0 rfl rfl 8 (by decide) (hw _ wq_493) (fun _ h9 => h9) rfl dX5_write_32 ?_
    refine lv_iload_n hx hb dX5_write_35 rfl (lv_at hl 1 rfl) ?_
    refine yr_iald hx hb hK hP 8 0 (f := mn.2.2.2.1) (j := nk) rfl rfl rfl (by omega) (by decide) dX5_write_36 ?_
    refine lv_if_le (tgt := 51) hx hb dX5_write_37 (by decide) (fun h2 => ?_) (fun h2 => ?_)
    · have hf := yt h2 hf
      refine lv_iconst (v := 0) hx hb dX5_write_51 (by decide) ?_
      refine yr_iast hx hb hK hP hD hS 8 0 (f := mn.2.2.2.1) (j := nk) rfl rfl rfl (by omega) (by decide) dX5_write_52 (fun H locs hP hD hS => ?_)
      have hP : va_P D vwCl (mW cI cJ cZ ma mo (mn.1, mn.2.1, mn.2.2.1, upd mn.2.2.2.1 nk 0, mn.2.2.2.2.1, mn.2.2.2.2.2.1, mn.2.2.2.2.2.2.1, mn.2.2.2.2.2.2.2) mw mt mv mp) H := hP
      have hD : va_D A (mW cI cJ cZ ma mo (mn.1, mn.2.1, mn.2.2.1, upd mn.2.2.2.1 nk 0, mn.2.2.2.2.1, mn.2.2.2.2.2.1, mn.2.2.2.2.2.2.1, mn.2.2.2.2.2.2.2) mw mt mv mp) := hD
      refine lv_iconst (v := 1) hx hb dX5_write_53 (by decide) ?_
      subst hf
      exact yy_zret (v := yB true) hx hb hr (yB_n _) hP hK hS hlocks dX5_write_54
    · have hf := yf h2 hf
      refine lv_aload_n hx hb dX5_write_40 rfl (lv_at hl 0 rfl) ?_
      refine va_get (D := D) (ci := 5) (v := .ref (ma 8)) (C := RX5) (T := TX5) (N := 25) hx hb hts (yy_tl inX5) hown hK hP 0 rfl rfl 8 (by decide) (hw _ wq_493) (fun _ h9 => h9) rfl dX5_write_41 ?_
      refine lv_iload_n hx hb dX5_write_44 rfl (lv_at hl 1 rfl) ?_
      refine yr_iald hx hb hK hP 8 0 (f := mn.2.2.2.1) (j := nk) rfl rfl rfl (by omega) (by decide) dX5_write_45 ?_
      refine lv_iconst (v := 1) hx hb dX5_write_46 (by decide) ?_
      refine lv_isub hx hb dX5_write_47 ?_
      refine lv_goto (tgt := 52) hx hb dX5_write_48 (by decide) ?_
      refine yr_iast hx hb hK hP hD hS 8 0 (f := mn.2.2.2.1) (j := nk) rfl rfl rfl (by omega) (by decide) dX5_write_52 (fun H locs hP hD hS => ?_)
      have hP : va_P D vwCl (mW cI cJ cZ ma mo (mn.1, mn.2.1, mn.2.2.1, upd mn.2.2.2.1 nk ((mn.2.2.2.1 nk) - 1), mn.2.2.2.2.1, mn.2.2.2.2.2.1, mn.2.2.2.2.2.2.1, mn.2.2.2.2.2.2.2) mw mt mv mp) H := hP
      have hD : va_D A (mW cI cJ cZ ma mo (mn.1, mn.2.1, mn.2.2.1, upd mn.2.2.2.1 nk ((mn.2.2.2.1 nk) - 1), mn.2.2.2.2.1, mn.2.2.2.2.2.1, mn.2.2.2.2.2.2.1, mn.2.2.2.2.2.2.2) mw mt mv mp) := hD
      refine lv_iconst (v := 1) hx hb dX5_write_53 (by decide) ?_
      subst hf
      exact yy_zret (v := yB true) hx hb hr (yB_n _) hP hK hS hlocks dX5_write_54
  · have hf := yt h1 hf
    refine lv_aload_n hx hb dX5_write_10 rfl (lv_at hl 0 rfl) ?_
    refine va_get (D := D) (ci := 5) (v := .ref (ma 8)) (C := RX5) (T := TX5) (N := 25) hx hb hts (yy_tl inX5) hown hK hP 0 rfl rfl 8 (by decide) (hw _ wq_493) (fun _ h9 => h9) rfl dX5_write_11 ?_
    refine lv_iload_n hx hb dX5_write_14 rfl (lv_at hl 1 rfl) ?_
    refine lv_iconst (v := 0) hx hb dX5_write_15 (by decide) ?_
    refine yr_iast hx hb hK hP hD hS 8 0 (f := mn.2.2.2.1) (j := nk) rfl rfl rfl (by omega) (by decide) dX5_write_16 (fun H locs hP hD hS => ?_)
    have hP : va_P D vwCl (mW cI cJ cZ ma mo (mn.1, mn.2.1, mn.2.2.1, upd mn.2.2.2.1 nk 0, mn.2.2.2.2.1, mn.2.2.2.2.2.1, mn.2.2.2.2.2.2.1, mn.2.2.2.2.2.2.2) mw mt mv mp) H := hP
    have hD : va_D A (mW cI cJ cZ ma mo (mn.1, mn.2.1, mn.2.2.1, upd mn.2.2.2.1 nk 0, mn.2.2.2.2.1, mn.2.2.2.2.2.1, mn.2.2.2.2.2.2.1, mn.2.2.2.2.2.2.2) mw mt mv mp) := hD
    refine lv_aload_n hx hb dX5_write_17 rfl (lv_at hl 0 rfl) ?_
    refine va_get (D := D) (ci := 5) (v := .ref (ma 7)) (C := RX5) (T := TX5) (N := 25) hx hb hts (yy_tl inX5) hown hK hP 0 rfl rfl 7 (by decide) (hw _ wq_492) (fun _ h9 => h9) rfl dX5_write_18 ?_
    refine lv_iload_n hx hb dX5_write_21 rfl (lv_at hl 1 rfl) ?_
    refine lv_iconst (v := 1) hx hb dX5_write_22 (by decide) ?_
    refine yr_zastB (g := mn.2.2.1) (b := true) hx hb hK hP hD hS 7 2 (j := nk) rfl rfl rfl (by omega) (by decide) dX5_write_23 (fun H locs hP hD hS => ?_)
    have hP : va_P D vwCl (mW cI cJ cZ ma mo (mn.1, mn.2.1, yupB mn.2.2.1 nk true, upd mn.2.2.2.1 nk 0, mn.2.2.2.2.1, mn.2.2.2.2.2.1, mn.2.2.2.2.2.2.1, mn.2.2.2.2.2.2.2) mw mt mv mp) H := hP
    have hD : va_D A (mW cI cJ cZ ma mo (mn.1, mn.2.1, yupB mn.2.2.1 nk true, upd mn.2.2.2.1 nk 0, mn.2.2.2.2.1, mn.2.2.2.2.2.1, mn.2.2.2.2.2.2.1, mn.2.2.2.2.2.2.2) mw mt mv mp) := hD
    refine lv_iconst (v := 0) hx hb dX5_write_24 (by decide) ?_
    subst hf
    exact yy_zret (v := yB false) hx hb hr (yB_n _) hP hK hS hlocks dX5_write_25

set_option maxHeartbeats 4000000 in
set_option maxRecDepth 100000 in
theorem c_md_store (l : Launch) (D : va_G) (cI cJ cZ cN : ClassId) (ma : Nat → Nat) (nk : Nat) (set : Int64) (mo : MO) (mn : MN) (mw : MW) (mt : MT) (mv : (Nat → Int32)) (mp : MP) (hk3 : nk < 3) (ho : mo.1 ≤ 60) (res : Bool × MN) (hf : res = md_store nk set mo mn) : yy_Met l yX5_store wsX5_store { frames := 1, cells := 0, slots := 0, locals := 22 } D vwCl (yT cI cJ cZ cN) [.ref (ma 0), .int (nI nk), .long set] (mW cI cJ cZ ma mo mn mw mt mv mp) (some (.int (yB res.1))) (mW cI cJ cZ ma mo res.2 mw mt mv mp) := by
  intro sz
  refine Met.ofW (cc := cX5_store) (maxL := 5) (ret := (some .boolean)) (by decide) rfl ?_
  intro p e s m args below meth c s₁ B hml hv
  obtain ⟨rfl, hsz, hP, hK, hD0, hN⟩ := hv
  have hx := B.exec
  have hb := B.bytes
  have hr := B.returns
  have hts := atoms_spec (ws := wsX5_store) B.pre
  have hw : ∀ w ∈ yW, w.before _ s = true := fun w h => hts w (List.mem_cons_of_mem _ h)
  have hown : s.vm.findClass RX5 = some m.cls := findClass_of_methodNamed B.named
  have hlocks := B.notSynchronized
  subst hsz
  have hD := hD0.self (sz := s.heap.size)
  generalize hAe : va_A (mW cI cJ cZ ma mo mn mw mt mv mp) s.heap.size = A at hD ⊢
  have hA : ∀ q : Nat, s.heap.size ≤ q → A q := fun q h => by rw [← hAe]; exact Or.inr h
  have hS : va_S A s.heap s.heap [] := va_S.rf
  have hl := lv_entry ([.ref (ma 0), .int (nI nk), .long set]) (n := 5) (Nat.le_of_ble_eq_true rfl)
  rw [lg_entry_eq]
  generalize (lg_sl ([.ref (ma 0), .int (nI nk), .long set]) ++ List.replicate (5 - (lg_sl ([.ref (ma 0), .int (nI nk), .long set])).length) Slot.unset).toArray = ls at hl ⊢
  have hl : lv_has ls 5 [(0, .ref (ma 0)), (1, .int (nI nk)), (2, .long set)] := hl
  have hL3 : ∀ (k : Nat) (i : Nat) (mn : MN) (ls : Array Slot) (H : Heap) (locs : List Loc), i + k = mo.1 → res = md_store_L3 nk set mo k i mn → lv_has ls 5 [(0, .ref (ma 0)), (1, .int (nI nk)), (2, .long set), (4, .int (nI i))] → va_P D vwCl (mW cI cJ cZ ma mo mn mw mt mv mp) H → va_D A (mW cI cJ cZ ma mo mn mw mt mv mp) → va_S A s.heap H locs → W p l e (headSpec wsX5_store { frames := 1, cells := 0, slots := 0, locals := 22 }).room s m ([.ref (ma 0), .int (nI nk), .long set] : List Value).toArray below meth c H locs 0 0 (MQ below (yy_Q A D vwCl (yT cI cJ cZ cN) (mW cI cJ cZ ma mo res.2 mw mt mv mp) (some (.int (yB res.1)))) ([.ref (ma 0), .int (nI nk), .long set] : List Value).toArray s 0 0 A) (F0 m 3 ls []) := by
    intro k
    induction k with
    | zero =>
      intro i mn ls H locs hi hf hl hP hD hS
      rw [md_store_L3] at hf
      refine lv_iload hx hb dX5_store_3 (lv_at hl 3 rfl) ?_
      refine lv_aload_n hx hb dX5_store_5 rfl (lv_at hl 0 rfl) ?_
      refine va_get (D := D) (ci := 5) (v := .int (nI mo.1)) (C := RX5) (T := TX5) (N := 25) hx hb hts (yy_tl inX5) hown hK hP 0 rfl rfl 0 (by decide) (hw _ wq_485) (fun _ h9 => h9) rfl dX5_store_6 ?_
      refine lv_icmp_ge (tgt := 66) hx hb dX5_store_9 (by decide) (fun _ => ?_) (fun h => absurd (nI_le (by omega) (by omega)) h)
      refine lv_iconst (v := 1) hx hb dX5_store_66 (by decide) ?_
      subst hf
      exact yy_zret (v := yB true) hx hb hr (yB_n _) hP hK hS hlocks dX5_store_67
    | succ k ih =>
      intro i mn ls H locs hi hf hl hP hD hS
      rw [md_store_L3] at hf
      refine lv_iload hx hb dX5_store_3 (lv_at hl 3 rfl) ?_
      refine lv_aload_n hx hb dX5_store_5 rfl (lv_at hl 0 rfl) ?_
      refine va_get (D := D) (ci := 5) (v := .int (nI mo.1)) (C := RX5) (T := TX5) (N := 25) hx hb hts (yy_tl inX5) hown hK hP 0 rfl rfl 0 (by decide) (hw _ wq_485) (fun _ h9 => h9) rfl dX5_store_6 ?_
      refine lv_icmp_ge (tgt := 66) hx hb dX5_store_9 (by decide) (fun h => absurd h (nI_ge (by omega) (by omega))) (fun _ => ?_)
      refine lv_lload_n hx hb dX5_store_12 rfl (lv_at hl 2 rfl) ?_
      refine lv_iload hx hb dX5_store_13 (lv_at hl 3 rfl) ?_
      refine lv_lshr (v := ylshr set (nI i)) hx hb dX5_store_15 rfl ?_
      refine lv_lconst (v := 1) hx hb dX5_store_16 (by decide) ?_
      refine lv_land hx hb dX5_store_17 ?_
      refine lv_lconst (v := 1) hx hb dX5_store_18 (by decide) ?_
      refine W.lcmp hx hb dX5_store_19 ?_
      refine lv_if_ne (tgt := 60) hx hb dX5_store_20 (by decide) (fun h1 => ?_) (fun h1 => ?_)
      · have h1 := yy_cmp1 h1
        have hf := yf h1 hf
        refine lv_iinc (k := 3) (v := (nI (i + 1))) (lv' := [(4, .int (nI (i + 1))), (0, .ref (ma 0)), (1, .int (nI nk)), (2, .long set)]) hx hb dX5_store_60 hl rfl (yy_inc _) (by decide) rfl (fun ls hl => ?_)
        refine lv_goto (tgt := 3) hx hb dX5_store_63 (by decide) ?_
        exact ih (i + 1) mn _ _ _ (by omega) hf (lv_sub hl [1, 2, 3, 0] rfl) hP hD hS
      · have h1 := yy_cmp0 h1
        have hf := yt h1 hf
        refine lv_aload_n hx hb dX5_store_23 rfl (lv_at hl 0 rfl) ?_
        refine lv_iload_n hx hb dX5_store_24 rfl (lv_at hl 1 rfl) ?_
        refine lv_iload hx hb dX5_store_25 (lv_at hl 3 rfl) ?_
        obtain ⟨r2, er2⟩ : ∃ r, r = md_has nk (nI i) mo mn := ⟨_, rfl⟩
        have hf := yb_e er2 hf
        refine yz_callV (As := [.int (nI nk), .int (nI i)]) (rest := []) ⟨hx, hb, hml, hown, hts⟩ (c_md_has l D cI cJ cZ cN ma nk (nI i) mo mn mw mt mv mp (by (try dsimp only) <;> omega) r2 er2) ⟨callB_of 2 hts (yy_good wq_576) rfl rfl rfl (hw _ wq_39) (hw _ wq_573) (by decide +kernel) ⟨Nat.le_of_ble_eq_true rfl, Nat.le_of_ble_eq_true rfl⟩, hw _ wq_575, hw _ wq_17⟩ hK hN hP hD hS hA [0, 1, 2, 3, 4, 5, 6, 7, 8, 9, 10, 11, 12, 13, 14, 15, 16, 17, 18, 19] rfl (by decide) rfl 20 rfl (w2 := (mW cI cJ cZ ma mo mn mw mt mv mp)) rfl 0 rfl rfl rfl hl.1 rfl (Nat.le_of_ble_eq_true rfl) dX5_store_27 ⟨Nat.zero_le _, Nat.zero_le _⟩ (fun H locs hP hD hS => ?_)
        refine W.eq (g2 := F0 m 30 ls [.int (yB r2)]) rfl ?_
        refine lv_if_ne (tgt := 60) hx hb dX5_store_30 (by decide) (fun h3 => ?_) (fun h3 => ?_)
        · have h3 := yB_1 h3
          have hf := yBt h3 hf
          refine lv_iinc (k := 3) (v := (nI (i + 1))) (lv' := [(4, .int (nI (i + 1))), (0, .ref (ma 0)), (1, .int (nI nk)), (2, .long set)]) hx hb dX5_store_60 hl rfl (yy_inc _) (by decide) rfl (fun ls hl => ?_)
          refine lv_goto (tgt := 3) hx hb dX5_store_63 (by decide) ?_
          exact ih (i + 1) mn _ _ _ (by omega) hf (lv_sub hl [1, 2, 3, 0] rfl) hP hD hS
        · have h3 := yB_0.mp h3
          have hf := yBf h3 hf
          refine lv_aload_n hx hb dX5_store_33 rfl (lv_at hl 0 rfl) ?_
          refine lv_iload_n hx hb dX5_store_34 rfl (lv_at hl 1 rfl) ?_
          obtain ⟨r4, er4⟩ : ∃ r, r = md_write nk mn := ⟨_, rfl⟩
          have hf := yb_e er4 hf
          refine yz_callV (As := [.int (nI nk)]) (rest := []) ⟨hx, hb, hml, hown, hts⟩ (c_md_write l D cI cJ cZ cN ma nk mo mn mw mt mv mp (by (try dsimp only) <;> omega) r4 er4) ⟨callB_of 1 hts (yy_good wq_580) rfl rfl rfl (hw _ wq_39) (hw _ wq_577) (by decide +kernel) ⟨Nat.le_of_ble_eq_true rfl, Nat.le_of_ble_eq_true rfl⟩, hw _ wq_579, hw _ wq_18⟩ hK hN hP hD hS hA [0, 1, 2, 3, 4, 5, 6, 7, 8, 9, 10, 11, 12, 13, 14, 15, 16, 17, 18, 19] rfl (by decide) rfl 20 rfl (w2 := (mW cI cJ cZ ma mo r4.2 mw mt mv mp)) rfl 0 rfl rfl rfl hl.1 rfl (Nat.le_of_ble_eq_true rfl) dX5_store_35 ⟨Nat.zero_le _, Nat.zero_le _⟩ (fun H locs hP hD hS => ?_)
          refine W.eq (g2 := F0 m 38 ls [.int (yB r4.1)]) rfl ?_
          refine lv_if_ne (tgt := 43) hx hb dX5_store_38 (by decide) (fun h5 => ?_) (fun h5 => ?_)
          · have h5 := yB_1 h5
            have hf := yBt h5 hf
            refine lv_aload_n hx hb dX5_store_43 rfl (lv_at hl 0 rfl) ?_
            refine va_get (D := D) (ci := 5) (v := .ref (ma 5)) (C := RX5) (T := TX5) (N := 25) hx hb hts (yy_tl inX5) hown hK hP 0 rfl rfl 5 (by decide) (hw _ wq_490) (fun _ h9 => h9) rfl dX5_store_44 ?_
            refine lv_iload_n hx hb dX5_store_47 rfl (lv_at hl 1 rfl) ?_
            refine lv_aload_n hx hb dX5_store_48 rfl (lv_at hl 0 rfl) ?_
            refine va_get (D := D) (ci := 5) (v := .ref (ma 5)) (C := RX5) (T := TX5) (N := 25) hx hb hts (yy_tl inX5) hown hK hP 0 rfl rfl 5 (by decide) (hw _ wq_490) (fun _ h9 => h9) rfl dX5_store_49 ?_
            refine lv_iload_n hx hb dX5_store_52 rfl (lv_at hl 1 rfl) ?_
            refine yr_lald hx hb hK hP 5 1 (f := r4.2.1) (j := nk) rfl rfl rfl (by omega) (by decide) dX5_store_53 ?_
            refine lv_lconst (v := 1) hx hb dX5_store_54 (by decide) ?_
            refine lv_iload hx hb dX5_store_55 (lv_at hl 3 rfl) ?_
            refine lv_lshl (v := ylshl 1 (nI i)) hx hb dX5_store_57 rfl ?_
            refine lv_lor hx hb dX5_store_58 ?_
            refine yr_last hx hb hK hP hD hS 5 1 (f := r4.2.1) (j := nk) rfl rfl rfl (by omega) (by decide) dX5_store_59 (fun H locs hP hD hS => ?_)
            have hP : va_P D vwCl (mW cI cJ cZ ma mo (vp_updL r4.2.1 nk ((r4.2.1 nk) ||| (ylshl 1 (nI i))), r4.2.2.1, r4.2.2.2.1, r4.2.2.2.2.1, r4.2.2.2.2.2.1, r4.2.2.2.2.2.2.1, r4.2.2.2.2.2.2.2.1, r4.2.2.2.2.2.2.2.2) mw mt mv mp) H := hP
            have hD : va_D A (mW cI cJ cZ ma mo (vp_updL r4.2.1 nk ((r4.2.1 nk) ||| (ylshl 1 (nI i))), r4.2.2.1, r4.2.2.2.1, r4.2.2.2.2.1, r4.2.2.2.2.2.1, r4.2.2.2.2.2.2.1, r4.2.2.2.2.2.2.2.1, r4.2.2.2.2.2.2.2.2) mw mt mv mp) := hD
            refine lv_iinc (k := 3) (v := (nI (i + 1))) (lv' := [(4, .int (nI (i + 1))), (0, .ref (ma 0)), (1, .int (nI nk)), (2, .long set)]) hx hb dX5_store_60 hl rfl (yy_inc _) (by decide) rfl (fun ls hl => ?_)
            refine lv_goto (tgt := 3) hx hb dX5_store_63 (by decide) ?_
            exact ih (i + 1) (vp_updL r4.2.1 nk ((r4.2.1 nk) ||| (ylshl 1 (nI i))), r4.2.2.1, r4.2.2.2.1, r4.2.2.2.2.1, r4.2.2.2.2.2.1, r4.2.2.2.2.2.2.1, r4.2.2.2.2.2.2.2.1, r4.2.2.2.2.2.2.2.2) _ _ _ (by omega) hf (lv_sub hl [1, 2, 3, 0] rfl) hP hD hS
          · have h5 := yB_0.mp h5
            have hf := yBf h5 hf
            refine lv_iconst (v := 0) hx hb dX5_store_41 (by decide) ?_
            subst hf
            exact yy_zret (v := yB false) hx hb hr (yB_n _) hP hK hS hlocks dX5_store_42
  rw [md_store] at hf
  refine lv_iconst (v := (nI 0)) hx hb dX5_store_0 (by decide) ?_
  refine lv_istore (lv' := [(4, .int (nI 0)), (0, .ref (ma 0)), (1, .int (nI nk)), (2, .long set)]) hx hb dX5_store_1 hl (by decide) rfl (fun ls hl => ?_)
  exact hL3 mo.1 0 mn _ _ _ (by omega) hf (lv_sub hl [1, 2, 3, 0] rfl) hP hD hS

set_option maxHeartbeats 4000000 in
set_option maxRecDepth 100000 in
theorem c_md_wish (l : Launch) (D : va_G) (cI cJ cZ cN : ClassId) (ma : Nat → Nat) (r : Nat) (vl : Int32) (mo : MO) (mn : MN) (mw : MW) (mt : MT) (mv : (Nat → Int32)) (mp : MP) (hr8 : r < 8) (hw : mw.1 < 4) (res : MW) (hf : res = md_wish r vl mw) : yy_Met l yX5_wish wsX5_wish { frames := 0, cells := 0, slots := 0, locals := 0 } D vwCl (yT cI cJ cZ cN) [.ref (ma 0), .int (nI r), .int vl] (mW cI cJ cZ ma mo mn mw mt mv mp) none (mW cI cJ cZ ma mo mn res mt mv mp) := by
  intro sz
  refine Met.ofW (cc := cX5_wish) (maxL := 3) (ret := none) (by decide) rfl ?_
  intro p e s m args below meth c s₁ B hml hv
  obtain ⟨rfl, hsz, hP, hK, hD0, hN⟩ := hv
  have hx := B.exec
  have hb := B.bytes
  have hr := B.returns
  have hts := atoms_spec (ws := wsX5_wish) B.pre
  have hw : ∀ w ∈ yW, w.before _ s = true := fun w h => hts w (List.mem_cons_of_mem _ h)
  have hown : s.vm.findClass RX5 = some m.cls := findClass_of_methodNamed B.named
  have hlocks := B.notSynchronized
  subst hsz
  have hD := hD0.self (sz := s.heap.size)
  generalize hAe : va_A (mW cI cJ cZ ma mo mn mw mt mv mp) s.heap.size = A at hD ⊢
  have hA : ∀ q : Nat, s.heap.size ≤ q → A q := fun q h => by rw [← hAe]; exact Or.inr h
  have hS : va_S A s.heap s.heap [] := va_S.rf
  have hl := lv_entry ([.ref (ma 0), .int (nI r), .int vl]) (n := 3) (Nat.le_of_ble_eq_true rfl)
  rw [lg_entry_eq]
  generalize (lg_sl ([.ref (ma 0), .int (nI r), .int vl]) ++ List.replicate (3 - (lg_sl ([.ref (ma 0), .int (nI r), .int vl])).length) Slot.unset).toArray = ls at hl ⊢
  have hl : lv_has ls 3 [(0, .ref (ma 0)), (1, .int (nI r)), (2, .int vl)] := hl
  rw [md_wish] at hf
  refine lv_aload_n hx hb dX5_wish_0 rfl (lv_at hl 0 rfl) ?_
  refine va_get (D := D) (ci := 5) (v := .ref (ma 13)) (C := RX5) (T := TX5) (N := 25) hx hb hts (yy_tl inX5) hown hK hP 0 rfl rfl 14 (by decide) (hw _ wq_499) (fun _ h9 => h9) rfl dX5_wish_1 ?_
  refine lv_aload_n hx hb dX5_wish_4 rfl (lv_at hl 0 rfl) ?_
  refine va_get (D := D) (ci := 5) (v := .int (nI mw.1)) (C := RX5) (T := TX5) (N := 25) hx hb hts (yy_tl inX5) hown hK hP 0 rfl rfl 13 (by decide) (hw _ wq_498) (fun _ h9 => h9) rfl dX5_wish_5 ?_
  refine lv_iload_n hx hb dX5_wish_8 rfl (lv_at hl 1 rfl) ?_
  refine yr_iastN (g := mw.2.1) (M := 8) (v := r) hx hb hK hP hD hS 13 0 (j := mw.1) rfl rfl rfl (by omega) (by decide) (by omega) dX5_wish_9 (fun H locs hP hD hS => ?_)
  have hP : va_P D vwCl (mW cI cJ cZ ma mo mn (mw.1, yupN mw.2.1 mw.1 r, mw.2.2) mt mv mp) H := hP
  have hD : va_D A (mW cI cJ cZ ma mo mn (mw.1, yupN mw.2.1 mw.1 r, mw.2.2) mt mv mp) := hD
  refine lv_aload_n hx hb dX5_wish_10 rfl (lv_at hl 0 rfl) ?_
  refine va_get (D := D) (ci := 5) (v := .ref (ma 14)) (C := RX5) (T := TX5) (N := 25) hx hb hts (yy_tl inX5) hown hK hP 0 rfl rfl 15 (by decide) (hw _ wq_500) (fun _ h9 => h9) rfl dX5_wish_11 ?_
  refine lv_aload_n hx hb dX5_wish_14 rfl (lv_at hl 0 rfl) ?_
  refine va_get (D := D) (ci := 5) (v := .int (nI mw.1)) (C := RX5) (T := TX5) (N := 25) hx hb hts (yy_tl inX5) hown hK hP 0 rfl rfl 13 (by decide) (hw _ wq_498) (fun _ h9 => h9) rfl dX5_wish_15 ?_
  refine lv_iload_n hx hb dX5_wish_18 rfl (lv_at hl 2 rfl) ?_
  refine yr_iast hx hb hK hP hD hS 14 0 (f := mw.2.2) (j := mw.1) rfl rfl rfl (by omega) (by decide) dX5_wish_19 (fun H locs hP hD hS => ?_)
  have hP : va_P D vwCl (mW cI cJ cZ ma mo mn (mw.1, yupN mw.2.1 mw.1 r, upd mw.2.2 mw.1 vl) mt mv mp) H := hP
  have hD : va_D A (mW cI cJ cZ ma mo mn (mw.1, yupN mw.2.1 mw.1 r, upd mw.2.2 mw.1 vl) mt mv mp) := hD
  refine lv_aload_n hx hb dX5_wish_20 rfl (lv_at hl 0 rfl) ?_
  refine lv_dup hx hb dX5_wish_21 rfl ?_
  refine va_get (D := D) (ci := 5) (v := .int (nI mw.1)) (C := RX5) (T := TX5) (N := 25) hx hb hts (yy_tl inX5) hown hK hP 0 rfl rfl 13 (by decide) (hw _ wq_498) (fun _ h9 => h9) rfl dX5_wish_22 ?_
  refine lv_iconst (v := (nI 1)) hx hb dX5_wish_25 (by decide) ?_
  refine yr_iaddN hx hb dX5_wish_26 ?_
  refine va_put (D := D) (ci := 5) (v := .int (nI (mw.1 + 1))) (ty := .int) (C := RX5) (T := TX5) (N := 25) hx hb hts (yy_tl inX5) tyX5 tyX5_ok nX5 hown hK hP hD hS 0 rfl rfl 13 (by decide) (hw _ wq_498) (fun _ h9 => h9) rfl (by decide +kernel) rfl rfl (Nat.le_of_ble_eq_true rfl) dX5_wish_27 (fun H locs hP hD hS => ?_)
  have hP : va_P D vwCl (mW cI cJ cZ ma mo mn (mw.1 + 1, yupN mw.2.1 mw.1 r, upd mw.2.2 mw.1 vl) mt mv mp) H := hP
  have hD : va_D A (mW cI cJ cZ ma mo mn (mw.1 + 1, yupN mw.2.1 mw.1 r, upd mw.2.2 mw.1 vl) mt mv mp) := hD
  subst hf
  exact yy_vret hx hb hr hP hK hS hlocks dX5_wish_30

set_option maxHeartbeats 4000000 in
set_option maxRecDepth 100000 in
theorem c_md_wipe (l : Launch) (D : va_G) (cI cJ cZ cN : ClassId) (ma : Nat → Nat) (nk : Nat) (mo : MO) (mn : MN) (mw : MW) (mt : MT) (mv : (Nat → Int32)) (mp : MP) (hk3 : nk < 3) (res : Bool × MN) (hf : res = md_wipe nk mn) : yy_Met l yX5_wipe wsX5_wipe { frames := 1, cells := 0, slots := 0, locals := 21 } D vwCl (yT cI cJ cZ cN) [.ref (ma 0), .int (nI nk)] (mW cI cJ cZ ma mo mn mw mt mv mp) (some (.int (yB res.1))) (mW cI cJ cZ ma mo res.2 mw mt mv mp) := by
  intro sz
  refine Met.ofW (cc := cX5_wipe) (maxL := 2) (ret := (some .boolean)) (by decide) rfl ?_
  intro p e s m args below meth c s₁ B hml hv
  obtain ⟨rfl, hsz, hP, hK, hD0, hN⟩ := hv
  have hx := B.exec
  have hb := B.bytes
  have hr := B.returns
  have hts := atoms_spec (ws := wsX5_wipe) B.pre
  have hw : ∀ w ∈ yW, w.before _ s = true := fun w h => hts w (List.mem_cons_of_mem _ h)
  have hown : s.vm.findClass RX5 = some m.cls := findClass_of_methodNamed B.named
  have hlocks := B.notSynchronized
  subst hsz
  have hD := hD0.self (sz := s.heap.size)
  generalize hAe : va_A (mW cI cJ cZ ma mo mn mw mt mv mp) s.heap.size = A at hD ⊢
  have hA : ∀ q : Nat, s.heap.size ≤ q → A q := fun q h => by rw [← hAe]; exact Or.inr h
  have hS : va_S A s.heap s.heap [] := va_S.rf
  have hl := lv_entry ([.ref (ma 0), .int (nI nk)]) (n := 2) (Nat.le_of_ble_eq_true rfl)
  rw [lg_entry_eq]
  generalize (lg_sl ([.ref (ma 0), .int (nI nk)]) ++ List.replicate (2 - (lg_sl ([.ref (ma 0), .int (nI nk)])).length) Slot.unset).toArray = ls at hl ⊢
  have hl : lv_has ls 2 [(0, .ref (ma 0)), (1, .int (nI nk))] := hl
  rw [md_wipe] at hf
  refine lv_aload_n hx hb dX5_wipe_0 rfl (lv_at hl 0 rfl) ?_
  refine lv_iload_n hx hb dX5_wipe_1 rfl (lv_at hl 1 rfl) ?_
  obtain ⟨r1, er1⟩ : ∃ r, r = md_write nk mn := ⟨_, rfl⟩
  have hf := yb_e er1 hf
  refine yz_callV (As := [.int (nI nk)]) (rest := []) ⟨hx, hb, hml, hown, hts⟩ (c_md_write l D cI cJ cZ cN ma nk mo mn mw mt mv mp (by (try dsimp only) <;> omega) r1 er1) ⟨callB_of 1 hts (yy_good wq_580) rfl rfl rfl (hw _ wq_39) (hw _ wq_577) (by decide +kernel) ⟨Nat.le_of_ble_eq_true rfl, Nat.le_of_ble_eq_true rfl⟩, hw _ wq_579, hw _ wq_18⟩ hK hN hP hD hS hA [0, 1, 2, 3, 4, 5, 6, 7, 8, 9, 10, 11, 12, 13, 14, 15, 16, 17, 18, 19] rfl (by decide) rfl 20 rfl (w2 := (mW cI cJ cZ ma mo r1.2 mw mt mv mp)) rfl 0 rfl rfl rfl hl.1 rfl (Nat.le_of_ble_eq_true rfl) dX5_wipe_2 ⟨Nat.zero_le _, Nat.zero_le _⟩ (fun H locs hP hD hS => ?_)
  refine W.eq (g2 := F0 m 5 ls [.int (yB r1.1)]) rfl ?_
  refine lv_if_ne (tgt := 10) hx hb dX5_wipe_5 (by decide) (fun h2 => ?_) (fun h2 => ?_)
  · have h2 := yB_1 h2
    have hf := yBt h2 hf
    refine lv_aload_n hx hb dX5_wipe_10 rfl (lv_at hl 0 rfl) ?_
    refine va_get (D := D) (ci := 5) (v := .ref (ma 9)) (C := RX5) (T := TX5) (N := 25) hx hb hts (yy_tl inX5) hown hK hP 0 rfl rfl 9 (by decide) (hw _ wq_494) (fun _ h9 => h9) rfl dX5_wipe_11 ?_
    refine lv_iload_n hx hb dX5_wipe_14 rfl (lv_at hl 1 rfl) ?_
    refine lv_iconst (v := (nI 0)) hx hb dX5_wipe_15 (by decide) ?_
    refine yr_iastN (g := r1.2.2.2.2.2.1) (M := 5) (v := 0) hx hb hK hP hD hS 9 0 (j := nk) rfl rfl rfl (by omega) (by decide) (by omega) dX5_wipe_16 (fun H locs hP hD hS => ?_)
    have hP : va_P D vwCl (mW cI cJ cZ ma mo (r1.2.1, r1.2.2.1, r1.2.2.2.1, r1.2.2.2.2.1, yupN r1.2.2.2.2.2.1 nk 0, r1.2.2.2.2.2.2.1, r1.2.2.2.2.2.2.2.1, r1.2.2.2.2.2.2.2.2) mw mt mv mp) H := hP
    have hD : va_D A (mW cI cJ cZ ma mo (r1.2.1, r1.2.2.1, r1.2.2.2.1, r1.2.2.2.2.1, yupN r1.2.2.2.2.2.1 nk 0, r1.2.2.2.2.2.2.1, r1.2.2.2.2.2.2.2.1, r1.2.2.2.2.2.2.2.2) mw mt mv mp) := hD
    refine lv_aload_n hx hb dX5_wipe_17 rfl (lv_at hl 0 rfl) ?_
    refine va_get (D := D) (ci := 5) (v := .ref (ma 10)) (C := RX5) (T := TX5) (N := 25) hx hb hts (yy_tl inX5) hown hK hP 0 rfl rfl 10 (by decide) (hw _ wq_495) (fun _ h9 => h9) rfl dX5_wipe_18 ?_
    refine lv_iload_n hx hb dX5_wipe_21 rfl (lv_at hl 1 rfl) ?_
    refine lv_iconst (v := 0) hx hb dX5_wipe_22 (by decide) ?_
    refine yr_zastB (g := r1.2.2.2.2.2.2.1) (b := false) hx hb hK hP hD hS 10 2 (j := nk) rfl rfl rfl (by omega) (by decide) dX5_wipe_23 (fun H locs hP hD hS => ?_)
    have hP : va_P D vwCl (mW cI cJ cZ ma mo (r1.2.1, r1.2.2.1, r1.2.2.2.1, r1.2.2.2.2.1, yupN r1.2.2.2.2.2.1 nk 0, yupB r1.2.2.2.2.2.2.1 nk false, r1.2.2.2.2.2.2.2.1, r1.2.2.2.2.2.2.2.2) mw mt mv mp) H := hP
    have hD : va_D A (mW cI cJ cZ ma mo (r1.2.1, r1.2.2.1, r1.2.2.2.1, r1.2.2.2.2.1, yupN r1.2.2.2.2.2.1 nk 0, yupB r1.2.2.2.2.2.2.1 nk false, r1.2.2.2.2.2.2.2.1, r1.2.2.2.2.2.2.2.2) mw mt mv mp) := hD
    refine lv_iconst (v := 1) hx hb dX5_wipe_24 (by decide) ?_
    subst hf
    exact yy_zret (v := yB true) hx hb hr (yB_n _) hP hK hS hlocks dX5_wipe_25
  · have h2 := yB_0.mp h2
    have hf := yBf h2 hf
    refine lv_iconst (v := 0) hx hb dX5_wipe_8 (by decide) ?_
    subst hf
    exact yy_zret (v := yB false) hx hb hr (yB_n _) hP hK hS hlocks dX5_wipe_9

set_option maxHeartbeats 4000000 in
set_option maxRecDepth 100000 in
theorem c_md_replay (l : Launch) (D : va_G) (cI cJ cZ cN : ClassId) (ma : Nat → Nat) (nk : Nat) (mo : MO) (mn : MN) (mw : MW) (mt : MT) (mv : (Nat → Int32)) (mp : MP) (hk3 : nk < 3) (res : Bool × MN) (hf : res = md_replay nk mn) : yy_Met l yX5_replay wsX5_replay { frames := 2, cells := 0, slots := 0, locals := 42 } D vwCl (yT cI cJ cZ cN) [.ref (ma 0), .int (nI nk)] (mW cI cJ cZ ma mo mn mw mt mv mp) (some (.int (yB res.1))) (mW cI cJ cZ ma mo res.2 mw mt mv mp) := by
  intro sz
  refine Met.ofW (cc := cX5_replay) (maxL := 3) (ret := (some .boolean)) (by decide) rfl ?_
  intro p e s m args below meth c s₁ B hml hv
  obtain ⟨rfl, hsz, hP, hK, hD0, hN⟩ := hv
  have hx := B.exec
  have hb := B.bytes
  have hr := B.returns
  have hts := atoms_spec (ws := wsX5_replay) B.pre
  have hw : ∀ w ∈ yW, w.before _ s = true := fun w h => hts w (List.mem_cons_of_mem _ h)
  have hown : s.vm.findClass RX5 = some m.cls := findClass_of_methodNamed B.named
  have hlocks := B.notSynchronized
  subst hsz
  have hD := hD0.self (sz := s.heap.size)
  generalize hAe : va_A (mW cI cJ cZ ma mo mn mw mt mv mp) s.heap.size = A at hD ⊢
  have hA : ∀ q : Nat, s.heap.size ≤ q → A q := fun q h => by rw [← hAe]; exact Or.inr h
  have hS : va_S A s.heap s.heap [] := va_S.rf
  have hl := lv_entry ([.ref (ma 0), .int (nI nk)]) (n := 3) (Nat.le_of_ble_eq_true rfl)
  rw [lg_entry_eq]
  generalize (lg_sl ([.ref (ma 0), .int (nI nk)]) ++ List.replicate (3 - (lg_sl ([.ref (ma 0), .int (nI nk)])).length) Slot.unset).toArray = ls at hl ⊢
  have hl : lv_has ls 3 [(0, .ref (ma 0)), (1, .int (nI nk))] := hl
  have hL2 : ∀ (k : Nat) (i : Nat) (mn : MN) (ls : Array Slot) (H : Heap) (locs : List Loc), i + k = mn.2.2.2.2.1 nk % 5 → res = md_replay_L2 nk k i mn → lv_has ls 3 [(0, .ref (ma 0)), (1, .int (nI nk)), (2, .int (nI i))] → va_P D vwCl (mW cI cJ cZ ma mo mn mw mt mv mp) H → va_D A (mW cI cJ cZ ma mo mn mw mt mv mp) → va_S A s.heap H locs → W p l e (headSpec wsX5_replay { frames := 2, cells := 0, slots := 0, locals := 42 }).room s m ([.ref (ma 0), .int (nI nk)] : List Value).toArray below meth c H locs 0 0 (MQ below (yy_Q A D vwCl (yT cI cJ cZ cN) (mW cI cJ cZ ma mo res.2 mw mt mv mp) (some (.int (yB res.1)))) ([.ref (ma 0), .int (nI nk)] : List Value).toArray s 0 0 A) (F0 m 2 ls []) := by
    intro k
    induction k with
    | zero =>
      intro i mn ls H locs hi hf hl hP hD hS
      rw [md_replay_L2] at hf
      refine lv_iload_n hx hb dX5_replay_2 rfl (lv_at hl 2 rfl) ?_
      refine lv_aload_n hx hb dX5_replay_3 rfl (lv_at hl 0 rfl) ?_
      refine va_get (D := D) (ci := 5) (v := .ref (ma 9)) (C := RX5) (T := TX5) (N := 25) hx hb hts (yy_tl inX5) hown hK hP 0 rfl rfl 9 (by decide) (hw _ wq_494) (fun _ h9 => h9) rfl dX5_replay_4 ?_
      refine lv_iload_n hx hb dX5_replay_7 rfl (lv_at hl 1 rfl) ?_
      refine yr_ialdN hx hb hK hP 9 0 (g := mn.2.2.2.2.1) (M := 5) (j := nk) rfl rfl rfl (by omega) (by decide) dX5_replay_8 ?_
      refine lv_icmp_ge (tgt := 58) hx hb dX5_replay_9 (by decide) (fun _ => ?_) (fun h => absurd (nI_le (by omega) (by omega)) h)
      refine lv_aload_n hx hb dX5_replay_58 rfl (lv_at hl 0 rfl) ?_
      refine lv_iload_n hx hb dX5_replay_59 rfl (lv_at hl 1 rfl) ?_
      obtain ⟨r1, er1⟩ : ∃ r, r = md_wipe nk mn := ⟨_, rfl⟩
      have hf := yb_e er1 hf
      refine yz_callV (As := [.int (nI nk)]) (rest := []) ⟨hx, hb, hml, hown, hts⟩ (c_md_wipe l D cI cJ cZ cN ma nk mo mn mw mt mv mp (by (try dsimp only) <;> omega) r1 er1) ⟨callB_of 1 hts (yy_good wq_608) rfl rfl rfl (hw _ wq_39) (hw _ wq_605) (by decide +kernel) ⟨Nat.le_of_ble_eq_true rfl, Nat.le_of_ble_eq_true rfl⟩, hw _ wq_607, hw _ wq_23⟩ hK hN hP hD hS hA [0, 1, 2, 3, 4, 5, 6, 7, 8, 9, 10, 11, 12, 13, 14, 15, 16, 17, 18, 19] rfl (by decide) rfl 20 rfl (w2 := (mW cI cJ cZ ma mo r1.2 mw mt mv mp)) rfl 0 rfl rfl rfl hl.1 rfl (Nat.le_of_ble_eq_true rfl) dX5_replay_60 ⟨Nat.zero_le _, Nat.zero_le _⟩ (fun H locs hP hD hS => ?_)
      refine W.eq (g2 := F0 m 63 ls [.int (yB r1.1)]) rfl ?_
      subst hf
      exact yy_zret (v := yB r1.1) hx hb hr (yB_n _) hP hK hS hlocks dX5_replay_63
    | succ k ih =>
      intro i mn ls H locs hi hf hl hP hD hS
      rw [md_replay_L2] at hf
      refine lv_iload_n hx hb dX5_replay_2 rfl (lv_at hl 2 rfl) ?_
      refine lv_aload_n hx hb dX5_replay_3 rfl (lv_at hl 0 rfl) ?_
      refine va_get (D := D) (ci := 5) (v := .ref (ma 9)) (C := RX5) (T := TX5) (N := 25) hx hb hts (yy_tl inX5) hown hK hP 0 rfl rfl 9 (by decide) (hw _ wq_494) (fun _ h9 => h9) rfl dX5_replay_4 ?_
      refine lv_iload_n hx hb dX5_replay_7 rfl (lv_at hl 1 rfl) ?_
      refine yr_ialdN hx hb hK hP 9 0 (g := mn.2.2.2.2.1) (M := 5) (j := nk) rfl rfl rfl (by omega) (by decide) dX5_replay_8 ?_
      refine lv_icmp_ge (tgt := 58) hx hb dX5_replay_9 (by decide) (fun h => absurd h (nI_ge (by omega) (by omega))) (fun _ => ?_)
      refine lv_aload_n hx hb dX5_replay_12 rfl (lv_at hl 0 rfl) ?_
      refine lv_iload_n hx hb dX5_replay_13 rfl (lv_at hl 1 rfl) ?_
      obtain ⟨r2, er2⟩ : ∃ r, r = md_write nk mn := ⟨_, rfl⟩
      have hf := yb_e er2 hf
      refine yz_callV (As := [.int (nI nk)]) (rest := []) ⟨hx, hb, hml, hown, hts⟩ (c_md_write l D cI cJ cZ cN ma nk mo mn mw mt mv mp (by (try dsimp only) <;> omega) r2 er2) ⟨callB_of 1 hts (yy_good wq_580) rfl rfl rfl (hw _ wq_39) (hw _ wq_577) (by decide +kernel) ⟨Nat.le_of_ble_eq_true rfl, Nat.le_of_ble_eq_true rfl⟩, hw _ wq_579, hw _ wq_18⟩ hK hN hP hD hS hA [0, 1, 2, 3, 4, 5, 6, 7, 8, 9, 10, 11, 12, 13, 14, 15, 16, 17, 18, 19] rfl (by decide) rfl 20 rfl (w2 := (mW cI cJ cZ ma mo r2.2 mw mt mv mp)) rfl 0 rfl rfl rfl hl.1 rfl (Nat.le_of_ble_eq_true rfl) dX5_replay_14 ⟨Nat.zero_le _, Nat.zero_le _⟩ (fun H locs hP hD hS => ?_)
      refine W.eq (g2 := F0 m 17 ls [.int (yB r2.1)]) rfl ?_
      refine lv_if_ne (tgt := 22) hx hb dX5_replay_17 (by decide) (fun h3 => ?_) (fun h3 => ?_)
      · have h3 := yB_1 h3
        have hf := yBt h3 hf
        refine lv_aload_n hx hb dX5_replay_22 rfl (lv_at hl 0 rfl) ?_
        refine va_get (D := D) (ci := 5) (v := .ref (ma 6)) (C := RX5) (T := TX5) (N := 25) hx hb hts (yy_tl inX5) hown hK hP 0 rfl rfl 6 (by decide) (hw _ wq_491) (fun _ h9 => h9) rfl dX5_replay_23 ?_
        refine lv_bipush (v := (nI 8)) hx hb dX5_replay_26 (by decide) ?_
        refine lv_iload_n hx hb dX5_replay_28 rfl (lv_at hl 1 rfl) ?_
        refine yr_imulN hx hb dX5_replay_29 ?_
        refine lv_aload_n hx hb dX5_replay_30 rfl (lv_at hl 0 rfl) ?_
        refine va_get (D := D) (ci := 5) (v := .ref (ma 11)) (C := RX5) (T := TX5) (N := 25) hx hb hts (yy_tl inX5) hown hK hP 0 rfl rfl 11 (by decide) (hw _ wq_496) (fun _ h9 => h9) rfl dX5_replay_31 ?_
        refine lv_iconst (v := (nI 4)) hx hb dX5_replay_34 (by decide) ?_
        refine lv_iload_n hx hb dX5_replay_35 rfl (lv_at hl 1 rfl) ?_
        refine yr_imulN hx hb dX5_replay_36 ?_
        refine lv_iload_n hx hb dX5_replay_37 rfl (lv_at hl 2 rfl) ?_
        refine yr_iaddN hx hb dX5_replay_38 ?_
        refine yr_ialdN hx hb hK hP 11 0 (g := r2.2.2.2.2.2.2.2.1) (M := 8) (j := (4 * nk) + i) rfl rfl rfl (by omega) (by decide) dX5_replay_39 ?_
        refine yr_iaddN hx hb dX5_replay_40 ?_
        refine lv_aload_n hx hb dX5_replay_41 rfl (lv_at hl 0 rfl) ?_
        refine va_get (D := D) (ci := 5) (v := .ref (ma 12)) (C := RX5) (T := TX5) (N := 25) hx hb hts (yy_tl inX5) hown hK hP 0 rfl rfl 12 (by decide) (hw _ wq_497) (fun _ h9 => h9) rfl dX5_replay_42 ?_
        refine lv_iconst (v := (nI 4)) hx hb dX5_replay_45 (by decide) ?_
        refine lv_iload_n hx hb dX5_replay_46 rfl (lv_at hl 1 rfl) ?_
        refine yr_imulN hx hb dX5_replay_47 ?_
        refine lv_iload_n hx hb dX5_replay_48 rfl (lv_at hl 2 rfl) ?_
        refine yr_iaddN hx hb dX5_replay_49 ?_
        refine yr_iald hx hb hK hP 12 0 (f := r2.2.2.2.2.2.2.2.2) (j := (4 * nk) + i) rfl rfl rfl (by omega) (by decide) dX5_replay_50 ?_
        refine yr_iast hx hb hK hP hD hS 6 0 (f := r2.2.2.1) (j := (8 * nk) + (r2.2.2.2.2.2.2.2.1 ((4 * nk) + i) % 8)) rfl rfl rfl (by omega) (by decide) dX5_replay_51 (fun H locs hP hD hS => ?_)
        have hP : va_P D vwCl (mW cI cJ cZ ma mo (r2.2.1, upd r2.2.2.1 ((8 * nk) + (r2.2.2.2.2.2.2.2.1 ((4 * nk) + i) % 8)) (r2.2.2.2.2.2.2.2.2 ((4 * nk) + i)), r2.2.2.2.1, r2.2.2.2.2.1, r2.2.2.2.2.2.1, r2.2.2.2.2.2.2.1, r2.2.2.2.2.2.2.2.1, r2.2.2.2.2.2.2.2.2) mw mt mv mp) H := hP
        have hD : va_D A (mW cI cJ cZ ma mo (r2.2.1, upd r2.2.2.1 ((8 * nk) + (r2.2.2.2.2.2.2.2.1 ((4 * nk) + i) % 8)) (r2.2.2.2.2.2.2.2.2 ((4 * nk) + i)), r2.2.2.2.1, r2.2.2.2.2.1, r2.2.2.2.2.2.1, r2.2.2.2.2.2.2.1, r2.2.2.2.2.2.2.2.1, r2.2.2.2.2.2.2.2.2) mw mt mv mp) := hD
        refine lv_iinc (k := 2) (v := (nI (i + 1))) (lv' := [(2, .int (nI (i + 1))), (0, .ref (ma 0)), (1, .int (nI nk))]) hx hb dX5_replay_52 hl rfl (yy_inc _) (by decide) rfl (fun ls hl => ?_)
        refine lv_goto (tgt := 2) hx hb dX5_replay_55 (by decide) ?_
        exact ih (i + 1) (r2.2.1, upd r2.2.2.1 ((8 * nk) + (r2.2.2.2.2.2.2.2.1 ((4 * nk) + i) % 8)) (r2.2.2.2.2.2.2.2.2 ((4 * nk) + i)), r2.2.2.2.1, r2.2.2.2.2.1, r2.2.2.2.2.2.1, r2.2.2.2.2.2.2.1, r2.2.2.2.2.2.2.2.1, r2.2.2.2.2.2.2.2.2) _ _ _ (md_replay_hi ‹_ = md_write nk mn› hi) hf (lv_sub hl [1, 2, 0] rfl) hP hD hS
      · have h3 := yB_0.mp h3
        have hf := yBf h3 hf
        refine lv_iconst (v := 0) hx hb dX5_replay_20 (by decide) ?_
        subst hf
        exact yy_zret (v := yB false) hx hb hr (yB_n _) hP hK hS hlocks dX5_replay_21
  rw [md_replay] at hf
  refine lv_iconst (v := (nI 0)) hx hb dX5_replay_0 (by decide) ?_
  refine lv_istore_n (lv' := [(2, .int (nI 0)), (0, .ref (ma 0)), (1, .int (nI nk))]) hx hb dX5_replay_1 rfl hl (by decide) rfl (fun ls hl => ?_)
  exact hL2 (mn.2.2.2.2.1 nk % 5) 0 mn _ _ _ (by omega) hf (lv_sub hl [1, 2, 0] rfl) hP hD hS

set_option maxHeartbeats 4000000 in
set_option maxRecDepth 100000 in
theorem c_md_transact (l : Launch) (D : va_G) (cI cJ cZ cN : ClassId) (ma : Nat → Nat) (nk : Nat) (mo : MO) (mn : MN) (mw : MW) (mt : MT) (mv : (Nat → Int32)) (mp : MP) (hk3 : nk < 3) (hw : mw.1 ≤ 4) (res : Bool × MN) (hf : res = md_transact nk mn mw) : yy_Met l yX5_transact wsX5_transact { frames := 3, cells := 0, slots := 0, locals := 64 } D vwCl (yT cI cJ cZ cN) [.ref (ma 0), .int (nI nk)] (mW cI cJ cZ ma mo mn mw mt mv mp) (some (.int (yB res.1))) (mW cI cJ cZ ma mo res.2 mw mt mv mp) := by
  intro sz
  refine Met.ofW (cc := cX5_transact) (maxL := 4) (ret := (some .boolean)) (by decide) rfl ?_
  intro p e s m args below meth c s₁ B hml hv
  obtain ⟨rfl, hsz, hP, hK, hD0, hN⟩ := hv
  have hx := B.exec
  have hb := B.bytes
  have hr := B.returns
  have hts := atoms_spec (ws := wsX5_transact) B.pre
  have hw : ∀ w ∈ yW, w.before _ s = true := fun w h => hts w (List.mem_cons_of_mem _ h)
  have hown : s.vm.findClass RX5 = some m.cls := findClass_of_methodNamed B.named
  have hlocks := B.notSynchronized
  subst hsz
  have hD := hD0.self (sz := s.heap.size)
  generalize hAe : va_A (mW cI cJ cZ ma mo mn mw mt mv mp) s.heap.size = A at hD ⊢
  have hA : ∀ q : Nat, s.heap.size ≤ q → A q := fun q h => by rw [← hAe]; exact Or.inr h
  have hS : va_S A s.heap s.heap [] := va_S.rf
  have hl := lv_entry ([.ref (ma 0), .int (nI nk)]) (n := 4) (Nat.le_of_ble_eq_true rfl)
  rw [lg_entry_eq]
  generalize (lg_sl ([.ref (ma 0), .int (nI nk)]) ++ List.replicate (4 - (lg_sl ([.ref (ma 0), .int (nI nk)])).length) Slot.unset).toArray = ls at hl ⊢
  have hl : lv_has ls 4 [(0, .ref (ma 0)), (1, .int (nI nk))] := hl
  have hL4 : ∀ (k : Nat) (i : Nat) (mm : Nat) (mn : MN) (ls : Array Slot) (H : Heap) (locs : List Loc), i + k = mw.1 → mm ≤ i → res = md_transact_L4 nk mw k i mm mn → lv_has ls 4 [(0, .ref (ma 0)), (1, .int (nI nk)), (2, .int (nI mm)), (3, .int (nI i))] → va_P D vwCl (mW cI cJ cZ ma mo mn mw mt mv mp) H → va_D A (mW cI cJ cZ ma mo mn mw mt mv mp) → va_S A s.heap H locs → W p l e (headSpec wsX5_transact { frames := 3, cells := 0, slots := 0, locals := 64 }).room s m ([.ref (ma 0), .int (nI nk)] : List Value).toArray below meth c H locs 0 0 (MQ below (yy_Q A D vwCl (yT cI cJ cZ cN) (mW cI cJ cZ ma mo res.2 mw mt mv mp) (some (.int (yB res.1)))) ([.ref (ma 0), .int (nI nk)] : List Value).toArray s 0 0 A) (F0 m 4 ls []) := by
    intro k
    induction k with
    | zero =>
      intro i mm mn ls H locs hi hv0 hf hl hP hD hS
      rw [md_transact_L4] at hf
      refine lv_iload_n hx hb dX5_transact_4 rfl (lv_at hl 3 rfl) ?_
      refine lv_aload_n hx hb dX5_transact_5 rfl (lv_at hl 0 rfl) ?_
      refine va_get (D := D) (ci := 5) (v := .int (nI mw.1)) (C := RX5) (T := TX5) (N := 25) hx hb hts (yy_tl inX5) hown hK hP 0 rfl rfl 13 (by decide) (hw _ wq_498) (fun _ h9 => h9) rfl dX5_transact_6 ?_
      refine lv_icmp_ge (tgt := 95) hx hb dX5_transact_9 (by decide) (fun _ => ?_) (fun h => absurd (nI_le (by omega) (by omega)) h)
      refine lv_iload_n hx hb dX5_transact_95 rfl (lv_at hl 2 rfl) ?_
      refine lv_if_ne (tgt := 101) hx hb dX5_transact_96 (by decide) (fun h1 => ?_) (fun h1 => ?_)
      · have hf := yf h1 hf
        refine lv_aload_n hx hb dX5_transact_101 rfl (lv_at hl 0 rfl) ?_
        refine lv_iload_n hx hb dX5_transact_102 rfl (lv_at hl 1 rfl) ?_
        obtain ⟨r2, er2⟩ : ∃ r, r = md_write nk mn := ⟨_, rfl⟩
        have hf := yb_e er2 hf
        refine yz_callV (As := [.int (nI nk)]) (rest := []) ⟨hx, hb, hml, hown, hts⟩ (c_md_write l D cI cJ cZ cN ma nk mo mn mw mt mv mp (by (try dsimp only) <;> omega) r2 er2) ⟨callB_of 1 hts (yy_good wq_580) rfl rfl rfl (hw _ wq_39) (hw _ wq_577) (by decide +kernel) ⟨Nat.le_of_ble_eq_true rfl, Nat.le_of_ble_eq_true rfl⟩, hw _ wq_579, hw _ wq_18⟩ hK hN hP hD hS hA [0, 1, 2, 3, 4, 5, 6, 7, 8, 9, 10, 11, 12, 13, 14, 15, 16, 17, 18, 19] rfl (by decide) rfl 20 rfl (w2 := (mW cI cJ cZ ma mo r2.2 mw mt mv mp)) rfl 0 rfl rfl rfl hl.1 rfl (Nat.le_of_ble_eq_true rfl) dX5_transact_103 ⟨Nat.zero_le _, Nat.zero_le _⟩ (fun H locs hP hD hS => ?_)
        refine W.eq (g2 := F0 m 106 ls [.int (yB r2.1)]) rfl ?_
        refine lv_if_ne (tgt := 111) hx hb dX5_transact_106 (by decide) (fun h3 => ?_) (fun h3 => ?_)
        · have h3 := yB_1 h3
          have hf := yBt h3 hf
          refine lv_aload_n hx hb dX5_transact_111 rfl (lv_at hl 0 rfl) ?_
          refine va_get (D := D) (ci := 5) (v := .ref (ma 10)) (C := RX5) (T := TX5) (N := 25) hx hb hts (yy_tl inX5) hown hK hP 0 rfl rfl 10 (by decide) (hw _ wq_495) (fun _ h9 => h9) rfl dX5_transact_112 ?_
          refine lv_iload_n hx hb dX5_transact_115 rfl (lv_at hl 1 rfl) ?_
          refine lv_iconst (v := 1) hx hb dX5_transact_116 (by decide) ?_
          refine yr_zastB (g := r2.2.2.2.2.2.2.1) (b := true) hx hb hK hP hD hS 10 2 (j := nk) rfl rfl rfl (by omega) (by decide) dX5_transact_117 (fun H locs hP hD hS => ?_)
          have hP : va_P D vwCl (mW cI cJ cZ ma mo (r2.2.1, r2.2.2.1, r2.2.2.2.1, r2.2.2.2.2.1, r2.2.2.2.2.2.1, yupB r2.2.2.2.2.2.2.1 nk true, r2.2.2.2.2.2.2.2.1, r2.2.2.2.2.2.2.2.2) mw mt mv mp) H := hP
          have hD : va_D A (mW cI cJ cZ ma mo (r2.2.1, r2.2.2.1, r2.2.2.2.1, r2.2.2.2.2.1, r2.2.2.2.2.2.1, yupB r2.2.2.2.2.2.2.1 nk true, r2.2.2.2.2.2.2.2.1, r2.2.2.2.2.2.2.2.2) mw mt mv mp) := hD
          refine lv_aload_n hx hb dX5_transact_118 rfl (lv_at hl 0 rfl) ?_
          refine lv_iload_n hx hb dX5_transact_119 rfl (lv_at hl 1 rfl) ?_
          obtain ⟨r4, er4⟩ : ∃ r, r = md_replay nk (r2.2.1, r2.2.2.1, r2.2.2.2.1, r2.2.2.2.2.1, r2.2.2.2.2.2.1, yupB r2.2.2.2.2.2.2.1 nk true, r2.2.2.2.2.2.2.2.1, r2.2.2.2.2.2.2.2.2) := ⟨_, rfl⟩
          have hf := yb_e er4 hf
          refine yz_callV (As := [.int (nI nk)]) (rest := []) ⟨hx, hb, hml, hown, hts⟩ (c_md_replay l D cI cJ cZ cN ma nk mo (r2.2.1, r2.2.2.1, r2.2.2.2.1, r2.2.2.2.2.1, r2.2.2.2.2.2.1, yupB r2.2.2.2.2.2.2.1 nk true, r2.2.2.2.2.2.2.2.1, r2.2.2.2.2.2.2.2.2) mw mt mv mp (by (try dsimp only) <;> omega) r4 er4) ⟨callB_of 1 hts (yy_good wq_604) rfl rfl rfl (hw _ wq_39) (hw _ wq_601) (by decide +kernel) ⟨Nat.le_of_ble_eq_true rfl, Nat.le_of_ble_eq_true rfl⟩, hw _ wq_603, hw _ wq_22⟩ hK hN hP hD hS hA [0, 1, 2, 3, 4, 5, 6, 7, 8, 9, 10, 11, 12, 13, 14, 15, 16, 17, 18, 19] rfl (by decide) rfl 20 rfl (w2 := (mW cI cJ cZ ma mo r4.2 mw mt mv mp)) rfl 0 rfl rfl rfl hl.1 rfl (Nat.le_of_ble_eq_true rfl) dX5_transact_120 ⟨Nat.zero_le _, Nat.zero_le _⟩ (fun H locs hP hD hS => ?_)
          refine W.eq (g2 := F0 m 123 ls [.int (yB r4.1)]) rfl ?_
          subst hf
          exact yy_zret (v := yB r4.1) hx hb hr (yB_n _) hP hK hS hlocks dX5_transact_123
        · have h3 := yB_0.mp h3
          have hf := yBf h3 hf
          refine lv_iconst (v := 0) hx hb dX5_transact_109 (by decide) ?_
          subst hf
          exact yy_zret (v := yB false) hx hb hr (yB_n _) hP hK hS hlocks dX5_transact_110
      · have hf := yt h1 hf
        refine lv_iconst (v := 1) hx hb dX5_transact_99 (by decide) ?_
        subst hf
        exact yy_zret (v := yB true) hx hb hr (yB_n _) hP hK hS hlocks dX5_transact_100
    | succ k ih =>
      intro i mm mn ls H locs hi hv0 hf hl hP hD hS
      rw [md_transact_L4] at hf
      refine lv_iload_n hx hb dX5_transact_4 rfl (lv_at hl 3 rfl) ?_
      refine lv_aload_n hx hb dX5_transact_5 rfl (lv_at hl 0 rfl) ?_
      refine va_get (D := D) (ci := 5) (v := .int (nI mw.1)) (C := RX5) (T := TX5) (N := 25) hx hb hts (yy_tl inX5) hown hK hP 0 rfl rfl 13 (by decide) (hw _ wq_498) (fun _ h9 => h9) rfl dX5_transact_6 ?_
      refine lv_icmp_ge (tgt := 95) hx hb dX5_transact_9 (by decide) (fun h => absurd h (nI_ge (by omega) (by omega))) (fun _ => ?_)
      refine lv_aload_n hx hb dX5_transact_12 rfl (lv_at hl 0 rfl) ?_
      refine va_get (D := D) (ci := 5) (v := .ref (ma 6)) (C := RX5) (T := TX5) (N := 25) hx hb hts (yy_tl inX5) hown hK hP 0 rfl rfl 6 (by decide) (hw _ wq_491) (fun _ h9 => h9) rfl dX5_transact_13 ?_
      refine lv_bipush (v := (nI 8)) hx hb dX5_transact_16 (by decide) ?_
      refine lv_iload_n hx hb dX5_transact_18 rfl (lv_at hl 1 rfl) ?_
      refine yr_imulN hx hb dX5_transact_19 ?_
      refine lv_aload_n hx hb dX5_transact_20 rfl (lv_at hl 0 rfl) ?_
      refine va_get (D := D) (ci := 5) (v := .ref (ma 13)) (C := RX5) (T := TX5) (N := 25) hx hb hts (yy_tl inX5) hown hK hP 0 rfl rfl 14 (by decide) (hw _ wq_499) (fun _ h9 => h9) rfl dX5_transact_21 ?_
      refine lv_iload_n hx hb dX5_transact_24 rfl (lv_at hl 3 rfl) ?_
      refine yr_ialdN hx hb hK hP 13 0 (g := mw.2.1) (M := 8) (j := i) rfl rfl rfl (by omega) (by decide) dX5_transact_25 ?_
      refine yr_iaddN hx hb dX5_transact_26 ?_
      refine yr_iald hx hb hK hP 6 0 (f := mn.2.1) (j := (8 * nk) + (mw.2.1 i % 8)) rfl rfl rfl (by omega) (by decide) dX5_transact_27 ?_
      refine lv_aload_n hx hb dX5_transact_28 rfl (lv_at hl 0 rfl) ?_
      refine va_get (D := D) (ci := 5) (v := .ref (ma 14)) (C := RX5) (T := TX5) (N := 25) hx hb hts (yy_tl inX5) hown hK hP 0 rfl rfl 15 (by decide) (hw _ wq_500) (fun _ h9 => h9) rfl dX5_transact_29 ?_
      refine lv_iload_n hx hb dX5_transact_32 rfl (lv_at hl 3 rfl) ?_
      refine yr_iald hx hb hK hP 14 0 (f := mw.2.2) (j := i) rfl rfl rfl (by omega) (by decide) dX5_transact_33 ?_
      refine lv_icmp_eq (tgt := 89) hx hb dX5_transact_34 (by decide) (fun h5 => ?_) (fun h5 => ?_)
      · have hf := yt h5 hf
        refine lv_iinc (k := 3) (v := (nI (i + 1))) (lv' := [(3, .int (nI (i + 1))), (0, .ref (ma 0)), (1, .int (nI nk)), (2, .int (nI mm))]) hx hb dX5_transact_89 hl rfl (yy_inc _) (by decide) rfl (fun ls hl => ?_)
        refine lv_goto (tgt := 4) hx hb dX5_transact_92 (by decide) ?_
        exact ih (i + 1) mm mn _ _ _ (by omega) (by omega) hf (lv_sub hl [1, 2, 3, 0] rfl) hP hD hS
      · have hf := yf h5 hf
        refine lv_aload_n hx hb dX5_transact_37 rfl (lv_at hl 0 rfl) ?_
        refine lv_iload_n hx hb dX5_transact_38 rfl (lv_at hl 1 rfl) ?_
        obtain ⟨r6, er6⟩ : ∃ r, r = md_write nk mn := ⟨_, rfl⟩
        have hf := yb_e er6 hf
        refine yz_callV (As := [.int (nI nk)]) (rest := []) ⟨hx, hb, hml, hown, hts⟩ (c_md_write l D cI cJ cZ cN ma nk mo mn mw mt mv mp (by (try dsimp only) <;> omega) r6 er6) ⟨callB_of 1 hts (yy_good wq_580) rfl rfl rfl (hw _ wq_39) (hw _ wq_577) (by decide +kernel) ⟨Nat.le_of_ble_eq_true rfl, Nat.le_of_ble_eq_true rfl⟩, hw _ wq_579, hw _ wq_18⟩ hK hN hP hD hS hA [0, 1, 2, 3, 4, 5, 6, 7, 8, 9, 10, 11, 12, 13, 14, 15, 16, 17, 18, 19] rfl (by decide) rfl 20 rfl (w2 := (mW cI cJ cZ ma mo r6.2 mw mt mv mp)) rfl 0 rfl rfl rfl hl.1 rfl (Nat.le_of_ble_eq_true rfl) dX5_transact_39 ⟨Nat.zero_le _, Nat.zero_le _⟩ (fun H locs hP hD hS => ?_)
        refine W.eq (g2 := F0 m 42 ls [.int (yB r6.1)]) rfl ?_
        refine lv_if_ne (tgt := 47) hx hb dX5_transact_42 (by decide) (fun h7 => ?_) (fun h7 => ?_)
        · have h7 := yB_1 h7
          have hf := yBt h7 hf
          refine lv_aload_n hx hb dX5_transact_47 rfl (lv_at hl 0 rfl) ?_
          refine va_get (D := D) (ci := 5) (v := .ref (ma 11)) (C := RX5) (T := TX5) (N := 25) hx hb hts (yy_tl inX5) hown hK hP 0 rfl rfl 11 (by decide) (hw _ wq_496) (fun _ h9 => h9) rfl dX5_transact_48 ?_
          refine lv_iconst (v := (nI 4)) hx hb dX5_transact_51 (by decide) ?_
          refine lv_iload_n hx hb dX5_transact_52 rfl (lv_at hl 1 rfl) ?_
          refine yr_imulN hx hb dX5_transact_53 ?_
          refine lv_iload_n hx hb dX5_transact_54 rfl (lv_at hl 2 rfl) ?_
          refine yr_iaddN hx hb dX5_transact_55 ?_
          refine lv_aload_n hx hb dX5_transact_56 rfl (lv_at hl 0 rfl) ?_
          refine va_get (D := D) (ci := 5) (v := .ref (ma 13)) (C := RX5) (T := TX5) (N := 25) hx hb hts (yy_tl inX5) hown hK hP 0 rfl rfl 14 (by decide) (hw _ wq_499) (fun _ h9 => h9) rfl dX5_transact_57 ?_
          refine lv_iload_n hx hb dX5_transact_60 rfl (lv_at hl 3 rfl) ?_
          refine yr_ialdN hx hb hK hP 13 0 (g := mw.2.1) (M := 8) (j := i) rfl rfl rfl (by omega) (by decide) dX5_transact_61 ?_
          refine yr_iastN (g := r6.2.2.2.2.2.2.2.1) (M := 8) (v := mw.2.1 i % 8) hx hb hK hP hD hS 11 0 (j := (4 * nk) + mm) rfl rfl rfl (by omega) (by decide) (by omega) dX5_transact_62 (fun H locs hP hD hS => ?_)
          have hP : va_P D vwCl (mW cI cJ cZ ma mo (r6.2.1, r6.2.2.1, r6.2.2.2.1, r6.2.2.2.2.1, r6.2.2.2.2.2.1, r6.2.2.2.2.2.2.1, yupN r6.2.2.2.2.2.2.2.1 ((4 * nk) + mm) (mw.2.1 i % 8), r6.2.2.2.2.2.2.2.2) mw mt mv mp) H := hP
          have hD : va_D A (mW cI cJ cZ ma mo (r6.2.1, r6.2.2.1, r6.2.2.2.1, r6.2.2.2.2.1, r6.2.2.2.2.2.1, r6.2.2.2.2.2.2.1, yupN r6.2.2.2.2.2.2.2.1 ((4 * nk) + mm) (mw.2.1 i % 8), r6.2.2.2.2.2.2.2.2) mw mt mv mp) := hD
          refine lv_aload_n hx hb dX5_transact_63 rfl (lv_at hl 0 rfl) ?_
          refine va_get (D := D) (ci := 5) (v := .ref (ma 12)) (C := RX5) (T := TX5) (N := 25) hx hb hts (yy_tl inX5) hown hK hP 0 rfl rfl 12 (by decide) (hw _ wq_497) (fun _ h9 => h9) rfl dX5_transact_64 ?_
          refine lv_iconst (v := (nI 4)) hx hb dX5_transact_67 (by decide) ?_
          refine lv_iload_n hx hb dX5_transact_68 rfl (lv_at hl 1 rfl) ?_
          refine yr_imulN hx hb dX5_transact_69 ?_
          refine lv_iload_n hx hb dX5_transact_70 rfl (lv_at hl 2 rfl) ?_
          refine yr_iaddN hx hb dX5_transact_71 ?_
          refine lv_aload_n hx hb dX5_transact_72 rfl (lv_at hl 0 rfl) ?_
          refine va_get (D := D) (ci := 5) (v := .ref (ma 14)) (C := RX5) (T := TX5) (N := 25) hx hb hts (yy_tl inX5) hown hK hP 0 rfl rfl 15 (by decide) (hw _ wq_500) (fun _ h9 => h9) rfl dX5_transact_73 ?_
          refine lv_iload_n hx hb dX5_transact_76 rfl (lv_at hl 3 rfl) ?_
          refine yr_iald hx hb hK hP 14 0 (f := mw.2.2) (j := i) rfl rfl rfl (by omega) (by decide) dX5_transact_77 ?_
          refine yr_iast hx hb hK hP hD hS 12 0 (f := r6.2.2.2.2.2.2.2.2) (j := (4 * nk) + mm) rfl rfl rfl (by omega) (by decide) dX5_transact_78 (fun H locs hP hD hS => ?_)
          have hP : va_P D vwCl (mW cI cJ cZ ma mo (r6.2.1, r6.2.2.1, r6.2.2.2.1, r6.2.2.2.2.1, r6.2.2.2.2.2.1, r6.2.2.2.2.2.2.1, yupN r6.2.2.2.2.2.2.2.1 ((4 * nk) + mm) (mw.2.1 i % 8), upd r6.2.2.2.2.2.2.2.2 ((4 * nk) + mm) (mw.2.2 i)) mw mt mv mp) H := hP
          have hD : va_D A (mW cI cJ cZ ma mo (r6.2.1, r6.2.2.1, r6.2.2.2.1, r6.2.2.2.2.1, r6.2.2.2.2.2.1, r6.2.2.2.2.2.2.1, yupN r6.2.2.2.2.2.2.2.1 ((4 * nk) + mm) (mw.2.1 i % 8), upd r6.2.2.2.2.2.2.2.2 ((4 * nk) + mm) (mw.2.2 i)) mw mt mv mp) := hD
          refine lv_iinc (k := 2) (v := (nI (mm + 1))) (lv' := [(2, .int (nI (mm + 1))), (0, .ref (ma 0)), (1, .int (nI nk)), (3, .int (nI i))]) hx hb dX5_transact_79 hl rfl (yy_inc _) (by decide) rfl (fun ls hl => ?_)
          refine lv_aload_n hx hb dX5_transact_82 rfl (lv_at hl 1 rfl) ?_
          refine va_get (D := D) (ci := 5) (v := .ref (ma 9)) (C := RX5) (T := TX5) (N := 25) hx hb hts (yy_tl inX5) hown hK hP 0 rfl rfl 9 (by decide) (hw _ wq_494) (fun _ h9 => h9) rfl dX5_transact_83 ?_
          refine lv_iload_n hx hb dX5_transact_86 rfl (lv_at hl 2 rfl) ?_
          refine lv_iload_n hx hb dX5_transact_87 rfl (lv_at hl 0 rfl) ?_
          refine yr_iastN (g := r6.2.2.2.2.2.1) (M := 5) (v := mm + 1) hx hb hK hP hD hS 9 0 (j := nk) rfl rfl rfl (by omega) (by decide) (by omega) dX5_transact_88 (fun H locs hP hD hS => ?_)
          have hP : va_P D vwCl (mW cI cJ cZ ma mo (r6.2.1, r6.2.2.1, r6.2.2.2.1, r6.2.2.2.2.1, yupN r6.2.2.2.2.2.1 nk (mm + 1), r6.2.2.2.2.2.2.1, yupN r6.2.2.2.2.2.2.2.1 ((4 * nk) + mm) (mw.2.1 i % 8), upd r6.2.2.2.2.2.2.2.2 ((4 * nk) + mm) (mw.2.2 i)) mw mt mv mp) H := hP
          have hD : va_D A (mW cI cJ cZ ma mo (r6.2.1, r6.2.2.1, r6.2.2.2.1, r6.2.2.2.2.1, yupN r6.2.2.2.2.2.1 nk (mm + 1), r6.2.2.2.2.2.2.1, yupN r6.2.2.2.2.2.2.2.1 ((4 * nk) + mm) (mw.2.1 i % 8), upd r6.2.2.2.2.2.2.2.2 ((4 * nk) + mm) (mw.2.2 i)) mw mt mv mp) := hD
          refine lv_iinc (k := 3) (v := (nI (i + 1))) (lv' := [(3, .int (nI (i + 1))), (2, .int (nI (mm + 1))), (0, .ref (ma 0)), (1, .int (nI nk))]) hx hb dX5_transact_89 hl rfl (yy_inc _) (by decide) rfl (fun ls hl => ?_)
          refine lv_goto (tgt := 4) hx hb dX5_transact_92 (by decide) ?_
          exact ih (i + 1) (mm + 1) (r6.2.1, r6.2.2.1, r6.2.2.2.1, r6.2.2.2.2.1, yupN r6.2.2.2.2.2.1 nk (mm + 1), r6.2.2.2.2.2.2.1, yupN r6.2.2.2.2.2.2.2.1 ((4 * nk) + mm) (mw.2.1 i % 8), upd r6.2.2.2.2.2.2.2.2 ((4 * nk) + mm) (mw.2.2 i)) _ _ _ (by omega) (by omega) hf (lv_sub hl [2, 3, 1, 0] rfl) hP hD hS
        · have h7 := yB_0.mp h7
          have hf := yBf h7 hf
          refine lv_iconst (v := 0) hx hb dX5_transact_45 (by decide) ?_
          subst hf
          exact yy_zret (v := yB false) hx hb hr (yB_n _) hP hK hS hlocks dX5_transact_46
  rw [md_transact] at hf
  refine lv_iconst (v := (nI 0)) hx hb dX5_transact_0 (by decide) ?_
  refine lv_istore_n (lv' := [(2, .int (nI 0)), (0, .ref (ma 0)), (1, .int (nI nk))]) hx hb dX5_transact_1 rfl hl (by decide) rfl (fun ls hl => ?_)
  refine lv_iconst (v := (nI 0)) hx hb dX5_transact_2 (by decide) ?_
  refine lv_istore_n (lv' := [(3, .int (nI 0)), (2, .int (nI 0)), (0, .ref (ma 0)), (1, .int (nI nk))]) hx hb dX5_transact_3 rfl hl (by decide) rfl (fun ls hl => ?_)
  exact hL4 mw.1 0 0 mn _ _ _ (by omega) (by omega) hf (lv_sub hl [2, 3, 1, 0] rfl) hP hD hS

set_option maxHeartbeats 4000000 in
set_option maxRecDepth 100000 in
theorem c_md_make (l : Launch) (D : va_G) (cI cJ cZ cN : ClassId) (ma : Nat → Nat) (nk : Nat) (what : Int32) (f1 : Int32) (f2 : Int32) (f3 : Int32) (mo : MO) (mn : MN) (mw : MW) (mt : MT) (mv : (Nat → Int32)) (mp : MP) (hk3 : nk < 3) (ho : mo.1 ≤ 60) (res : Int32 × MO × MN) (hf : res = md_make nk what f1 f2 f3 mo mn) : yy_Met l yX5_make wsX5_make { frames := 1, cells := 0, slots := 0, locals := 22 } D vwCl (yT cI cJ cZ cN) [.ref (ma 0), .int (nI nk), .int what, .int f1, .int f2, .int f3] (mW cI cJ cZ ma mo mn mw mt mv mp) (some (.int res.1)) (mW cI cJ cZ ma res.2.1 res.2.2 mw mt mv mp) := by
  intro sz
  refine Met.ofW (cc := cX5_make) (maxL := 7) (ret := (some .int)) (by decide) rfl ?_
  intro p e s m args below meth c s₁ B hml hv
  obtain ⟨rfl, hsz, hP, hK, hD0, hN⟩ := hv
  have hx := B.exec
  have hb := B.bytes
  have hr := B.returns
  have hts := atoms_spec (ws := wsX5_make) B.pre
  have hw : ∀ w ∈ yW, w.before _ s = true := fun w h => hts w (List.mem_cons_of_mem _ h)
  have hown : s.vm.findClass RX5 = some m.cls := findClass_of_methodNamed B.named
  have hlocks := B.notSynchronized
  subst hsz
  have hD := hD0.self (sz := s.heap.size)
  generalize hAe : va_A (mW cI cJ cZ ma mo mn mw mt mv mp) s.heap.size = A at hD ⊢
  have hA : ∀ q : Nat, s.heap.size ≤ q → A q := fun q h => by rw [← hAe]; exact Or.inr h
  have hS : va_S A s.heap s.heap [] := va_S.rf
  have hl := lv_entry ([.ref (ma 0), .int (nI nk), .int what, .int f1, .int f2, .int f3]) (n := 7) (Nat.le_of_ble_eq_true rfl)
  rw [lg_entry_eq]
  generalize (lg_sl ([.ref (ma 0), .int (nI nk), .int what, .int f1, .int f2, .int f3]) ++ List.replicate (7 - (lg_sl ([.ref (ma 0), .int (nI nk), .int what, .int f1, .int f2, .int f3])).length) Slot.unset).toArray = ls at hl ⊢
  have hl : lv_has ls 7 [(0, .ref (ma 0)), (1, .int (nI nk)), (2, .int what), (3, .int f1), (4, .int f2), (5, .int f3)] := hl
  have hL3 : ∀ (k : Nat) (i : Nat) (ls : Array Slot) (H : Heap) (locs : List Loc), i + k = mo.1 → res = md_make_L3 nk what f1 f2 f3 mo mn k i → lv_has ls 7 [(0, .ref (ma 0)), (1, .int (nI nk)), (2, .int what), (3, .int f1), (4, .int f2), (5, .int f3), (6, .int (nI i))] → va_P D vwCl (mW cI cJ cZ ma mo mn mw mt mv mp) H → va_D A (mW cI cJ cZ ma mo mn mw mt mv mp) → va_S A s.heap H locs → W p l e (headSpec wsX5_make { frames := 1, cells := 0, slots := 0, locals := 22 }).room s m ([.ref (ma 0), .int (nI nk), .int what, .int f1, .int f2, .int f3] : List Value).toArray below meth c H locs 0 0 (MQ below (yy_Q A D vwCl (yT cI cJ cZ cN) (mW cI cJ cZ ma res.2.1 res.2.2 mw mt mv mp) (some (.int res.1))) ([.ref (ma 0), .int (nI nk), .int what, .int f1, .int f2, .int f3] : List Value).toArray s 0 0 A) (F0 m 3 ls []) := by
    intro k
    induction k with
    | zero =>
      intro i ls H locs hi hf hl hP hD hS
      rw [md_make_L3] at hf
      refine lv_iload hx hb dX5_make_3 (lv_at hl 6 rfl) ?_
      refine lv_aload_n hx hb dX5_make_5 rfl (lv_at hl 0 rfl) ?_
      refine va_get (D := D) (ci := 5) (v := .int (nI mo.1)) (C := RX5) (T := TX5) (N := 25) hx hb hts (yy_tl inX5) hown hK hP 0 rfl rfl 0 (by decide) (hw _ wq_485) (fun _ h9 => h9) rfl dX5_make_6 ?_
      refine lv_icmp_ge (tgt := 64) hx hb dX5_make_9 (by decide) (fun _ => ?_) (fun h => absurd (nI_le (by omega) (by omega)) h)
      refine lv_iload hx hb dX5_make_64 (lv_at hl 6 rfl) ?_
      refine lv_bipush (v := 60) hx hb dX5_make_66 (by decide) ?_
      refine lv_icmp_ne (tgt := 74) hx hb dX5_make_68 (by decide) (fun h1 => ?_) (fun h1 => ?_)
      · have hf := yf h1 hf
        refine lv_iload hx hb dX5_make_74 (lv_at hl 6 rfl) ?_
        refine lv_aload_n hx hb dX5_make_76 rfl (lv_at hl 0 rfl) ?_
        refine va_get (D := D) (ci := 5) (v := .int (nI mo.1)) (C := RX5) (T := TX5) (N := 25) hx hb hts (yy_tl inX5) hown hK hP 0 rfl rfl 0 (by decide) (hw _ wq_485) (fun _ h9 => h9) rfl dX5_make_77 ?_
        refine lv_icmp_ge (tgt := 96) hx hb dX5_make_80 (by decide) (fun h2 => ?_) (fun h2 => ?_)
        · have hf := yt h2 hf
          refine lv_aload_n hx hb dX5_make_96 rfl (lv_at hl 0 rfl) ?_
          refine lv_iload_n hx hb dX5_make_97 rfl (lv_at hl 1 rfl) ?_
          obtain ⟨r3, er3⟩ : ∃ r, r = md_write nk mn := ⟨_, rfl⟩
          have hf := yb_e er3 hf
          refine yz_callV (As := [.int (nI nk)]) (rest := []) ⟨hx, hb, hml, hown, hts⟩ (c_md_write l D cI cJ cZ cN ma nk mo mn mw mt mv mp (by (try dsimp only) <;> omega) r3 er3) ⟨callB_of 1 hts (yy_good wq_580) rfl rfl rfl (hw _ wq_39) (hw _ wq_577) (by decide +kernel) ⟨Nat.le_of_ble_eq_true rfl, Nat.le_of_ble_eq_true rfl⟩, hw _ wq_579, hw _ wq_18⟩ hK hN hP hD hS hA [0, 1, 2, 3, 4, 5, 6, 7, 8, 9, 10, 11, 12, 13, 14, 15, 16, 17, 18, 19] rfl (by decide) rfl 20 rfl (w2 := (mW cI cJ cZ ma mo r3.2 mw mt mv mp)) rfl 0 rfl rfl rfl hl.1 rfl (Nat.le_of_ble_eq_true rfl) dX5_make_98 ⟨Nat.zero_le _, Nat.zero_le _⟩ (fun H locs hP hD hS => ?_)
          refine W.eq (g2 := F0 m 101 ls [.int (yB r3.1)]) rfl ?_
          refine lv_if_ne (tgt := 107) hx hb dX5_make_101 (by decide) (fun h4 => ?_) (fun h4 => ?_)
          · have h4 := yB_1 h4
            have hf := yBt h4 hf
            refine lv_iload hx hb dX5_make_107 (lv_at hl 6 rfl) ?_
            refine lv_aload_n hx hb dX5_make_109 rfl (lv_at hl 0 rfl) ?_
            refine va_get (D := D) (ci := 5) (v := .int (nI mo.1)) (C := RX5) (T := TX5) (N := 25) hx hb hts (yy_tl inX5) hown hK hP 0 rfl rfl 0 (by decide) (hw _ wq_485) (fun _ h9 => h9) rfl dX5_make_110 ?_
            refine lv_icmp_ne (tgt := 160) hx hb dX5_make_113 (by decide) (fun h5 => ?_) (fun h5 => ?_)
            · have hf := yf h5 hf
              refine lv_aload_n hx hb dX5_make_160 rfl (lv_at hl 0 rfl) ?_
              refine va_get (D := D) (ci := 5) (v := .ref (ma 5)) (C := RX5) (T := TX5) (N := 25) hx hb hts (yy_tl inX5) hown hK hP 0 rfl rfl 5 (by decide) (hw _ wq_490) (fun _ h9 => h9) rfl dX5_make_161 ?_
              refine lv_iload_n hx hb dX5_make_164 rfl (lv_at hl 1 rfl) ?_
              refine lv_aload_n hx hb dX5_make_165 rfl (lv_at hl 0 rfl) ?_
              refine va_get (D := D) (ci := 5) (v := .ref (ma 5)) (C := RX5) (T := TX5) (N := 25) hx hb hts (yy_tl inX5) hown hK hP 0 rfl rfl 5 (by decide) (hw _ wq_490) (fun _ h9 => h9) rfl dX5_make_166 ?_
              refine lv_iload_n hx hb dX5_make_169 rfl (lv_at hl 1 rfl) ?_
              refine yr_lald hx hb hK hP 5 1 (f := r3.2.1) (j := nk) rfl rfl rfl (by omega) (by decide) dX5_make_170 ?_
              refine lv_lconst (v := 1) hx hb dX5_make_171 (by decide) ?_
              refine lv_iload hx hb dX5_make_172 (lv_at hl 6 rfl) ?_
              refine lv_lshl (v := ylshl 1 (nI i)) hx hb dX5_make_174 rfl ?_
              refine lv_lor hx hb dX5_make_175 ?_
              refine yr_last hx hb hK hP hD hS 5 1 (f := r3.2.1) (j := nk) rfl rfl rfl (by omega) (by decide) dX5_make_176 (fun H locs hP hD hS => ?_)
              have hP : va_P D vwCl (mW cI cJ cZ ma mo (vp_updL r3.2.1 nk ((r3.2.1 nk) ||| (ylshl 1 (nI i))), r3.2.2.1, r3.2.2.2.1, r3.2.2.2.2.1, r3.2.2.2.2.2.1, r3.2.2.2.2.2.2.1, r3.2.2.2.2.2.2.2.1, r3.2.2.2.2.2.2.2.2) mw mt mv mp) H := hP
              have hD : va_D A (mW cI cJ cZ ma mo (vp_updL r3.2.1 nk ((r3.2.1 nk) ||| (ylshl 1 (nI i))), r3.2.2.1, r3.2.2.2.1, r3.2.2.2.2.1, r3.2.2.2.2.2.1, r3.2.2.2.2.2.2.1, r3.2.2.2.2.2.2.2.1, r3.2.2.2.2.2.2.2.2) mw mt mv mp) := hD
              refine lv_iload hx hb dX5_make_177 (lv_at hl 6 rfl) ?_
              subst hf
              exact yy_iret (v := (nI i)) hx hb hr hP hK hS hlocks dX5_make_179
            · have hf := yt h5 hf
              refine lv_aload_n hx hb dX5_make_116 rfl (lv_at hl 0 rfl) ?_
              refine va_get (D := D) (ci := 5) (v := .ref (ma 1)) (C := RX5) (T := TX5) (N := 25) hx hb hts (yy_tl inX5) hown hK hP 0 rfl rfl 1 (by decide) (hw _ wq_486) (fun _ h9 => h9) rfl dX5_make_117 ?_
              refine lv_iload hx hb dX5_make_120 (lv_at hl 6 rfl) ?_
              refine lv_iload_n hx hb dX5_make_122 rfl (lv_at hl 2 rfl) ?_
              refine yr_iast hx hb hK hP hD hS 1 0 (f := mo.2.1) (j := i) rfl rfl rfl (yy_lt60 ‹¬ nI i = 60› (by omega)) (by decide) dX5_make_123 (fun H locs hP hD hS => ?_)
              have hP : va_P D vwCl (mW cI cJ cZ ma (mo.1, upd mo.2.1 i what, mo.2.2.1, mo.2.2.2.1, mo.2.2.2.2) r3.2 mw mt mv mp) H := hP
              have hD : va_D A (mW cI cJ cZ ma (mo.1, upd mo.2.1 i what, mo.2.2.1, mo.2.2.2.1, mo.2.2.2.2) r3.2 mw mt mv mp) := hD
              refine lv_aload_n hx hb dX5_make_124 rfl (lv_at hl 0 rfl) ?_
              refine va_get (D := D) (ci := 5) (v := .ref (ma 2)) (C := RX5) (T := TX5) (N := 25) hx hb hts (yy_tl inX5) hown hK hP 0 rfl rfl 2 (by decide) (hw _ wq_487) (fun _ h9 => h9) rfl dX5_make_125 ?_
              refine lv_iload hx hb dX5_make_128 (lv_at hl 6 rfl) ?_
              refine lv_iload_n hx hb dX5_make_130 rfl (lv_at hl 3 rfl) ?_
              refine yr_iast hx hb hK hP hD hS 2 0 (f := mo.2.2.1) (j := i) rfl rfl rfl (yy_lt60 ‹¬ nI i = 60› (by omega)) (by decide) dX5_make_131 (fun H locs hP hD hS => ?_)
              have hP : va_P D vwCl (mW cI cJ cZ ma (mo.1, upd mo.2.1 i what, upd mo.2.2.1 i f1, mo.2.2.2.1, mo.2.2.2.2) r3.2 mw mt mv mp) H := hP
              have hD : va_D A (mW cI cJ cZ ma (mo.1, upd mo.2.1 i what, upd mo.2.2.1 i f1, mo.2.2.2.1, mo.2.2.2.2) r3.2 mw mt mv mp) := hD
              refine lv_aload_n hx hb dX5_make_132 rfl (lv_at hl 0 rfl) ?_
              refine va_get (D := D) (ci := 5) (v := .ref (ma 3)) (C := RX5) (T := TX5) (N := 25) hx hb hts (yy_tl inX5) hown hK hP 0 rfl rfl 3 (by decide) (hw _ wq_488) (fun _ h9 => h9) rfl dX5_make_133 ?_
              refine lv_iload hx hb dX5_make_136 (lv_at hl 6 rfl) ?_
              refine lv_iload hx hb dX5_make_138 (lv_at hl 4 rfl) ?_
              refine yr_iast hx hb hK hP hD hS 3 0 (f := mo.2.2.2.1) (j := i) rfl rfl rfl (yy_lt60 ‹¬ nI i = 60› (by omega)) (by decide) dX5_make_140 (fun H locs hP hD hS => ?_)
              have hP : va_P D vwCl (mW cI cJ cZ ma (mo.1, upd mo.2.1 i what, upd mo.2.2.1 i f1, upd mo.2.2.2.1 i f2, mo.2.2.2.2) r3.2 mw mt mv mp) H := hP
              have hD : va_D A (mW cI cJ cZ ma (mo.1, upd mo.2.1 i what, upd mo.2.2.1 i f1, upd mo.2.2.2.1 i f2, mo.2.2.2.2) r3.2 mw mt mv mp) := hD
              refine lv_aload_n hx hb dX5_make_141 rfl (lv_at hl 0 rfl) ?_
              refine va_get (D := D) (ci := 5) (v := .ref (ma 4)) (C := RX5) (T := TX5) (N := 25) hx hb hts (yy_tl inX5) hown hK hP 0 rfl rfl 4 (by decide) (hw _ wq_489) (fun _ h9 => h9) rfl dX5_make_142 ?_
              refine lv_iload hx hb dX5_make_145 (lv_at hl 6 rfl) ?_
              refine lv_iload hx hb dX5_make_147 (lv_at hl 5 rfl) ?_
              refine yr_iast hx hb hK hP hD hS 4 0 (f := mo.2.2.2.2) (j := i) rfl rfl rfl (yy_lt60 ‹¬ nI i = 60› (by omega)) (by decide) dX5_make_149 (fun H locs hP hD hS => ?_)
              have hP : va_P D vwCl (mW cI cJ cZ ma (mo.1, upd mo.2.1 i what, upd mo.2.2.1 i f1, upd mo.2.2.2.1 i f2, upd mo.2.2.2.2 i f3) r3.2 mw mt mv mp) H := hP
              have hD : va_D A (mW cI cJ cZ ma (mo.1, upd mo.2.1 i what, upd mo.2.2.1 i f1, upd mo.2.2.2.1 i f2, upd mo.2.2.2.2 i f3) r3.2 mw mt mv mp) := hD
              refine lv_aload_n hx hb dX5_make_150 rfl (lv_at hl 0 rfl) ?_
              refine lv_dup hx hb dX5_make_151 rfl ?_
              refine va_get (D := D) (ci := 5) (v := .int (nI mo.1)) (C := RX5) (T := TX5) (N := 25) hx hb hts (yy_tl inX5) hown hK hP 0 rfl rfl 0 (by decide) (hw _ wq_485) (fun _ h9 => h9) rfl dX5_make_152 ?_
              refine lv_iconst (v := (nI 1)) hx hb dX5_make_155 (by decide) ?_
              refine yr_iaddN hx hb dX5_make_156 ?_
              refine va_put (D := D) (ci := 5) (v := .int (nI (mo.1 + 1))) (ty := .int) (C := RX5) (T := TX5) (N := 25) hx hb hts (yy_tl inX5) tyX5 tyX5_ok nX5 hown hK hP hD hS 0 rfl rfl 0 (by decide) (hw _ wq_485) (fun _ h9 => h9) rfl (by decide +kernel) rfl rfl (Nat.le_of_ble_eq_true rfl) dX5_make_157 (fun H locs hP hD hS => ?_)
              have hP : va_P D vwCl (mW cI cJ cZ ma (mo.1 + 1, upd mo.2.1 i what, upd mo.2.2.1 i f1, upd mo.2.2.2.1 i f2, upd mo.2.2.2.2 i f3) r3.2 mw mt mv mp) H := hP
              have hD : va_D A (mW cI cJ cZ ma (mo.1 + 1, upd mo.2.1 i what, upd mo.2.2.1 i f1, upd mo.2.2.2.1 i f2, upd mo.2.2.2.2 i f3) r3.2 mw mt mv mp) := hD
              refine lv_aload_n hx hb dX5_make_160 rfl (lv_at hl 0 rfl) ?_
              refine va_get (D := D) (ci := 5) (v := .ref (ma 5)) (C := RX5) (T := TX5) (N := 25) hx hb hts (yy_tl inX5) hown hK hP 0 rfl rfl 5 (by decide) (hw _ wq_490) (fun _ h9 => h9) rfl dX5_make_161 ?_
              refine lv_iload_n hx hb dX5_make_164 rfl (lv_at hl 1 rfl) ?_
              refine lv_aload_n hx hb dX5_make_165 rfl (lv_at hl 0 rfl) ?_
              refine va_get (D := D) (ci := 5) (v := .ref (ma 5)) (C := RX5) (T := TX5) (N := 25) hx hb hts (yy_tl inX5) hown hK hP 0 rfl rfl 5 (by decide) (hw _ wq_490) (fun _ h9 => h9) rfl dX5_make_166 ?_
              refine lv_iload_n hx hb dX5_make_169 rfl (lv_at hl 1 rfl) ?_
              refine yr_lald hx hb hK hP 5 1 (f := r3.2.1) (j := nk) rfl rfl rfl (by omega) (by decide) dX5_make_170 ?_
              refine lv_lconst (v := 1) hx hb dX5_make_171 (by decide) ?_
              refine lv_iload hx hb dX5_make_172 (lv_at hl 6 rfl) ?_
              refine lv_lshl (v := ylshl 1 (nI i)) hx hb dX5_make_174 rfl ?_
              refine lv_lor hx hb dX5_make_175 ?_
              refine yr_last hx hb hK hP hD hS 5 1 (f := r3.2.1) (j := nk) rfl rfl rfl (by omega) (by decide) dX5_make_176 (fun H locs hP hD hS => ?_)
              have hP : va_P D vwCl (mW cI cJ cZ ma (mo.1 + 1, upd mo.2.1 i what, upd mo.2.2.1 i f1, upd mo.2.2.2.1 i f2, upd mo.2.2.2.2 i f3) (vp_updL r3.2.1 nk ((r3.2.1 nk) ||| (ylshl 1 (nI i))), r3.2.2.1, r3.2.2.2.1, r3.2.2.2.2.1, r3.2.2.2.2.2.1, r3.2.2.2.2.2.2.1, r3.2.2.2.2.2.2.2.1, r3.2.2.2.2.2.2.2.2) mw mt mv mp) H := hP
              have hD : va_D A (mW cI cJ cZ ma (mo.1 + 1, upd mo.2.1 i what, upd mo.2.2.1 i f1, upd mo.2.2.2.1 i f2, upd mo.2.2.2.2 i f3) (vp_updL r3.2.1 nk ((r3.2.1 nk) ||| (ylshl 1 (nI i))), r3.2.2.1, r3.2.2.2.1, r3.2.2.2.2.1, r3.2.2.2.2.2.1, r3.2.2.2.2.2.2.1, r3.2.2.2.2.2.2.2.1, r3.2.2.2.2.2.2.2.2) mw mt mv mp) := hD
              refine lv_iload hx hb dX5_make_177 (lv_at hl 6 rfl) ?_
              subst hf
              exact yy_iret (v := (nI i)) hx hb hr hP hK hS hlocks dX5_make_179
          · have h4 := yB_0.mp h4
            have hf := yBf h4 hf
            refine lv_bipush (v := (-2)) hx hb dX5_make_104 (by decide) ?_
            subst hf
            exact yy_iret (v := (-2)) hx hb hr hP hK hS hlocks dX5_make_106
        · have hf := yf h2 hf
          refine lv_aload_n hx hb dX5_make_83 rfl (lv_at hl 0 rfl) ?_
          refine lv_iload_n hx hb dX5_make_84 rfl (lv_at hl 1 rfl) ?_
          refine lv_iload hx hb dX5_make_85 (lv_at hl 6 rfl) ?_
          obtain ⟨r6, er6⟩ : ∃ r, r = md_has nk (nI i) mo mn := ⟨_, rfl⟩
          have hf := yb_e er6 hf
          refine yz_callV (As := [.int (nI nk), .int (nI i)]) (rest := []) ⟨hx, hb, hml, hown, hts⟩ (c_md_has l D cI cJ cZ cN ma nk (nI i) mo mn mw mt mv mp (by (try dsimp only) <;> omega) r6 er6) ⟨callB_of 2 hts (yy_good wq_576) rfl rfl rfl (hw _ wq_39) (hw _ wq_573) (by decide +kernel) ⟨Nat.le_of_ble_eq_true rfl, Nat.le_of_ble_eq_true rfl⟩, hw _ wq_575, hw _ wq_17⟩ hK hN hP hD hS hA [0, 1, 2, 3, 4, 5, 6, 7, 8, 9, 10, 11, 12, 13, 14, 15, 16, 17, 18, 19] rfl (by decide) rfl 20 rfl (w2 := (mW cI cJ cZ ma mo mn mw mt mv mp)) rfl 0 rfl rfl rfl hl.1 rfl (Nat.le_of_ble_eq_true rfl) dX5_make_87 ⟨Nat.zero_le _, Nat.zero_le _⟩ (fun H locs hP hD hS => ?_)
          refine W.eq (g2 := F0 m 90 ls [.int (yB r6)]) rfl ?_
          refine lv_if_eq (tgt := 96) hx hb dX5_make_90 (by decide) (fun h7 => ?_) (fun h7 => ?_)
          · have h7 := yB_0.mp h7
            have hf := yBf h7 hf
            refine lv_aload_n hx hb dX5_make_96 rfl (lv_at hl 0 rfl) ?_
            refine lv_iload_n hx hb dX5_make_97 rfl (lv_at hl 1 rfl) ?_
            obtain ⟨r8, er8⟩ : ∃ r, r = md_write nk mn := ⟨_, rfl⟩
            have hf := yb_e er8 hf
            refine yz_callV (As := [.int (nI nk)]) (rest := []) ⟨hx, hb, hml, hown, hts⟩ (c_md_write l D cI cJ cZ cN ma nk mo mn mw mt mv mp (by (try dsimp only) <;> omega) r8 er8) ⟨callB_of 1 hts (yy_good wq_580) rfl rfl rfl (hw _ wq_39) (hw _ wq_577) (by decide +kernel) ⟨Nat.le_of_ble_eq_true rfl, Nat.le_of_ble_eq_true rfl⟩, hw _ wq_579, hw _ wq_18⟩ hK hN hP hD hS hA [0, 1, 2, 3, 4, 5, 6, 7, 8, 9, 10, 11, 12, 13, 14, 15, 16, 17, 18, 19] rfl (by decide) rfl 20 rfl (w2 := (mW cI cJ cZ ma mo r8.2 mw mt mv mp)) rfl 0 rfl rfl rfl hl.1 rfl (Nat.le_of_ble_eq_true rfl) dX5_make_98 ⟨Nat.zero_le _, Nat.zero_le _⟩ (fun H locs hP hD hS => ?_)
            refine W.eq (g2 := F0 m 101 ls [.int (yB r8.1)]) rfl ?_
            refine lv_if_ne (tgt := 107) hx hb dX5_make_101 (by decide) (fun h9 => ?_) (fun h9 => ?_)
            · have h9 := yB_1 h9
              have hf := yBt h9 hf
              refine lv_iload hx hb dX5_make_107 (lv_at hl 6 rfl) ?_
              refine lv_aload_n hx hb dX5_make_109 rfl (lv_at hl 0 rfl) ?_
              refine va_get (D := D) (ci := 5) (v := .int (nI mo.1)) (C := RX5) (T := TX5) (N := 25) hx hb hts (yy_tl inX5) hown hK hP 0 rfl rfl 0 (by decide) (hw _ wq_485) (fun _ h9 => h9) rfl dX5_make_110 ?_
              refine lv_icmp_ne (tgt := 160) hx hb dX5_make_113 (by decide) (fun h10 => ?_) (fun h10 => ?_)
              · have hf := yf h10 hf
                refine lv_aload_n hx hb dX5_make_160 rfl (lv_at hl 0 rfl) ?_
                refine va_get (D := D) (ci := 5) (v := .ref (ma 5)) (C := RX5) (T := TX5) (N := 25) hx hb hts (yy_tl inX5) hown hK hP 0 rfl rfl 5 (by decide) (hw _ wq_490) (fun _ h9 => h9) rfl dX5_make_161 ?_
                refine lv_iload_n hx hb dX5_make_164 rfl (lv_at hl 1 rfl) ?_
                refine lv_aload_n hx hb dX5_make_165 rfl (lv_at hl 0 rfl) ?_
                refine va_get (D := D) (ci := 5) (v := .ref (ma 5)) (C := RX5) (T := TX5) (N := 25) hx hb hts (yy_tl inX5) hown hK hP 0 rfl rfl 5 (by decide) (hw _ wq_490) (fun _ h9 => h9) rfl dX5_make_166 ?_
                refine lv_iload_n hx hb dX5_make_169 rfl (lv_at hl 1 rfl) ?_
                refine yr_lald hx hb hK hP 5 1 (f := r8.2.1) (j := nk) rfl rfl rfl (by omega) (by decide) dX5_make_170 ?_
                refine lv_lconst (v := 1) hx hb dX5_make_171 (by decide) ?_
                refine lv_iload hx hb dX5_make_172 (lv_at hl 6 rfl) ?_
                refine lv_lshl (v := ylshl 1 (nI i)) hx hb dX5_make_174 rfl ?_
                refine lv_lor hx hb dX5_make_175 ?_
                refine yr_last hx hb hK hP hD hS 5 1 (f := r8.2.1) (j := nk) rfl rfl rfl (by omega) (by decide) dX5_make_176 (fun H locs hP hD hS => ?_)
                have hP : va_P D vwCl (mW cI cJ cZ ma mo (vp_updL r8.2.1 nk ((r8.2.1 nk) ||| (ylshl 1 (nI i))), r8.2.2.1, r8.2.2.2.1, r8.2.2.2.2.1, r8.2.2.2.2.2.1, r8.2.2.2.2.2.2.1, r8.2.2.2.2.2.2.2.1, r8.2.2.2.2.2.2.2.2) mw mt mv mp) H := hP
                have hD : va_D A (mW cI cJ cZ ma mo (vp_updL r8.2.1 nk ((r8.2.1 nk) ||| (ylshl 1 (nI i))), r8.2.2.1, r8.2.2.2.1, r8.2.2.2.2.1, r8.2.2.2.2.2.1, r8.2.2.2.2.2.2.1, r8.2.2.2.2.2.2.2.1, r8.2.2.2.2.2.2.2.2) mw mt mv mp) := hD
                refine lv_iload hx hb dX5_make_177 (lv_at hl 6 rfl) ?_
                subst hf
                exact yy_iret (v := (nI i)) hx hb hr hP hK hS hlocks dX5_make_179
              · have hf := yt h10 hf
                refine lv_aload_n hx hb dX5_make_116 rfl (lv_at hl 0 rfl) ?_
                refine va_get (D := D) (ci := 5) (v := .ref (ma 1)) (C := RX5) (T := TX5) (N := 25) hx hb hts (yy_tl inX5) hown hK hP 0 rfl rfl 1 (by decide) (hw _ wq_486) (fun _ h9 => h9) rfl dX5_make_117 ?_
                refine lv_iload hx hb dX5_make_120 (lv_at hl 6 rfl) ?_
                refine lv_iload_n hx hb dX5_make_122 rfl (lv_at hl 2 rfl) ?_
                refine yr_iast hx hb hK hP hD hS 1 0 (f := mo.2.1) (j := i) rfl rfl rfl (yy_lt60 ‹¬ nI i = 60› (by omega)) (by decide) dX5_make_123 (fun H locs hP hD hS => ?_)
                have hP : va_P D vwCl (mW cI cJ cZ ma (mo.1, upd mo.2.1 i what, mo.2.2.1, mo.2.2.2.1, mo.2.2.2.2) r8.2 mw mt mv mp) H := hP
                have hD : va_D A (mW cI cJ cZ ma (mo.1, upd mo.2.1 i what, mo.2.2.1, mo.2.2.2.1, mo.2.2.2.2) r8.2 mw mt mv mp) := hD
                refine lv_aload_n hx hb dX5_make_124 rfl (lv_at hl 0 rfl) ?_
                refine va_get (D := D) (ci := 5) (v := .ref (ma 2)) (C := RX5) (T := TX5) (N := 25) hx hb hts (yy_tl inX5) hown hK hP 0 rfl rfl 2 (by decide) (hw _ wq_487) (fun _ h9 => h9) rfl dX5_make_125 ?_
                refine lv_iload hx hb dX5_make_128 (lv_at hl 6 rfl) ?_
                refine lv_iload_n hx hb dX5_make_130 rfl (lv_at hl 3 rfl) ?_
                refine yr_iast hx hb hK hP hD hS 2 0 (f := mo.2.2.1) (j := i) rfl rfl rfl (yy_lt60 ‹¬ nI i = 60› (by omega)) (by decide) dX5_make_131 (fun H locs hP hD hS => ?_)
                have hP : va_P D vwCl (mW cI cJ cZ ma (mo.1, upd mo.2.1 i what, upd mo.2.2.1 i f1, mo.2.2.2.1, mo.2.2.2.2) r8.2 mw mt mv mp) H := hP
                have hD : va_D A (mW cI cJ cZ ma (mo.1, upd mo.2.1 i what, upd mo.2.2.1 i f1, mo.2.2.2.1, mo.2.2.2.2) r8.2 mw mt mv mp) := hD
                refine lv_aload_n hx hb dX5_make_132 rfl (lv_at hl 0 rfl) ?_
                refine va_get (D := D) (ci := 5) (v := .ref (ma 3)) (C := RX5) (T := TX5) (N := 25) hx hb hts (yy_tl inX5) hown hK hP 0 rfl rfl 3 (by decide) (hw _ wq_488) (fun _ h9 => h9) rfl dX5_make_133 ?_
                refine lv_iload hx hb dX5_make_136 (lv_at hl 6 rfl) ?_
                refine lv_iload hx hb dX5_make_138 (lv_at hl 4 rfl) ?_
                refine yr_iast hx hb hK hP hD hS 3 0 (f := mo.2.2.2.1) (j := i) rfl rfl rfl (yy_lt60 ‹¬ nI i = 60› (by omega)) (by decide) dX5_make_140 (fun H locs hP hD hS => ?_)
                have hP : va_P D vwCl (mW cI cJ cZ ma (mo.1, upd mo.2.1 i what, upd mo.2.2.1 i f1, upd mo.2.2.2.1 i f2, mo.2.2.2.2) r8.2 mw mt mv mp) H := hP
                have hD : va_D A (mW cI cJ cZ ma (mo.1, upd mo.2.1 i what, upd mo.2.2.1 i f1, upd mo.2.2.2.1 i f2, mo.2.2.2.2) r8.2 mw mt mv mp) := hD
                refine lv_aload_n hx hb dX5_make_141 rfl (lv_at hl 0 rfl) ?_
                refine va_get (D := D) (ci := 5) (v := .ref (ma 4)) (C := RX5) (T := TX5) (N := 25) hx hb hts (yy_tl inX5) hown hK hP 0 rfl rfl 4 (by decide) (hw _ wq_489) (fun _ h9 => h9) rfl dX5_make_142 ?_
                refine lv_iload hx hb dX5_make_145 (lv_at hl 6 rfl) ?_
                refine lv_iload hx hb dX5_make_147 (lv_at hl 5 rfl) ?_
                refine yr_iast hx hb hK hP hD hS 4 0 (f := mo.2.2.2.2) (j := i) rfl rfl rfl (yy_lt60 ‹¬ nI i = 60› (by omega)) (by decide) dX5_make_149 (fun H locs hP hD hS => ?_)
                have hP : va_P D vwCl (mW cI cJ cZ ma (mo.1, upd mo.2.1 i what, upd mo.2.2.1 i f1, upd mo.2.2.2.1 i f2, upd mo.2.2.2.2 i f3) r8.2 mw mt mv mp) H := hP
                have hD : va_D A (mW cI cJ cZ ma (mo.1, upd mo.2.1 i what, upd mo.2.2.1 i f1, upd mo.2.2.2.1 i f2, upd mo.2.2.2.2 i f3) r8.2 mw mt mv mp) := hD
                refine lv_aload_n hx hb dX5_make_150 rfl (lv_at hl 0 rfl) ?_
                refine lv_dup hx hb dX5_make_151 rfl ?_
                refine va_get (D := D) (ci := 5) (v := .int (nI mo.1)) (C := RX5) (T := TX5) (N := 25) hx hb hts (yy_tl inX5) hown hK hP 0 rfl rfl 0 (by decide) (hw _ wq_485) (fun _ h9 => h9) rfl dX5_make_152 ?_
                refine lv_iconst (v := (nI 1)) hx hb dX5_make_155 (by decide) ?_
                refine yr_iaddN hx hb dX5_make_156 ?_
                refine va_put (D := D) (ci := 5) (v := .int (nI (mo.1 + 1))) (ty := .int) (C := RX5) (T := TX5) (N := 25) hx hb hts (yy_tl inX5) tyX5 tyX5_ok nX5 hown hK hP hD hS 0 rfl rfl 0 (by decide) (hw _ wq_485) (fun _ h9 => h9) rfl (by decide +kernel) rfl rfl (Nat.le_of_ble_eq_true rfl) dX5_make_157 (fun H locs hP hD hS => ?_)
                have hP : va_P D vwCl (mW cI cJ cZ ma (mo.1 + 1, upd mo.2.1 i what, upd mo.2.2.1 i f1, upd mo.2.2.2.1 i f2, upd mo.2.2.2.2 i f3) r8.2 mw mt mv mp) H := hP
                have hD : va_D A (mW cI cJ cZ ma (mo.1 + 1, upd mo.2.1 i what, upd mo.2.2.1 i f1, upd mo.2.2.2.1 i f2, upd mo.2.2.2.2 i f3) r8.2 mw mt mv mp) := hD
                refine lv_aload_n hx hb dX5_make_160 rfl (lv_at hl 0 rfl) ?_
                refine va_get (D := D) (ci := 5) (v := .ref (ma 5)) (C := RX5) (T := TX5) (N := 25) hx hb hts (yy_tl inX5) hown hK hP 0 rfl rfl 5 (by decide) (hw _ wq_490) (fun _ h9 => h9) rfl dX5_make_161 ?_
                refine lv_iload_n hx hb dX5_make_164 rfl (lv_at hl 1 rfl) ?_
                refine lv_aload_n hx hb dX5_make_165 rfl (lv_at hl 0 rfl) ?_
                refine va_get (D := D) (ci := 5) (v := .ref (ma 5)) (C := RX5) (T := TX5) (N := 25) hx hb hts (yy_tl inX5) hown hK hP 0 rfl rfl 5 (by decide) (hw _ wq_490) (fun _ h9 => h9) rfl dX5_make_166 ?_
                refine lv_iload_n hx hb dX5_make_169 rfl (lv_at hl 1 rfl) ?_
                refine yr_lald hx hb hK hP 5 1 (f := r8.2.1) (j := nk) rfl rfl rfl (by omega) (by decide) dX5_make_170 ?_
                refine lv_lconst (v := 1) hx hb dX5_make_171 (by decide) ?_
                refine lv_iload hx hb dX5_make_172 (lv_at hl 6 rfl) ?_
                refine lv_lshl (v := ylshl 1 (nI i)) hx hb dX5_make_174 rfl ?_
                refine lv_lor hx hb dX5_make_175 ?_
                refine yr_last hx hb hK hP hD hS 5 1 (f := r8.2.1) (j := nk) rfl rfl rfl (by omega) (by decide) dX5_make_176 (fun H locs hP hD hS => ?_)
                have hP : va_P D vwCl (mW cI cJ cZ ma (mo.1 + 1, upd mo.2.1 i what, upd mo.2.2.1 i f1, upd mo.2.2.2.1 i f2, upd mo.2.2.2.2 i f3) (vp_updL r8.2.1 nk ((r8.2.1 nk) ||| (ylshl 1 (nI i))), r8.2.2.1, r8.2.2.2.1, r8.2.2.2.2.1, r8.2.2.2.2.2.1, r8.2.2.2.2.2.2.1, r8.2.2.2.2.2.2.2.1, r8.2.2.2.2.2.2.2.2) mw mt mv mp) H := hP
                have hD : va_D A (mW cI cJ cZ ma (mo.1 + 1, upd mo.2.1 i what, upd mo.2.2.1 i f1, upd mo.2.2.2.1 i f2, upd mo.2.2.2.2 i f3) (vp_updL r8.2.1 nk ((r8.2.1 nk) ||| (ylshl 1 (nI i))), r8.2.2.1, r8.2.2.2.1, r8.2.2.2.2.1, r8.2.2.2.2.2.1, r8.2.2.2.2.2.2.1, r8.2.2.2.2.2.2.2.1, r8.2.2.2.2.2.2.2.2) mw mt mv mp) := hD
                refine lv_iload hx hb dX5_make_177 (lv_at hl 6 rfl) ?_
                subst hf
                exact yy_iret (v := (nI i)) hx hb hr hP hK hS hlocks dX5_make_179
            · have h9 := yB_0.mp h9
              have hf := yBf h9 hf
              refine lv_bipush (v := (-2)) hx hb dX5_make_104 (by decide) ?_
              subst hf
              exact yy_iret (v := (-2)) hx hb hr hP hK hS hlocks dX5_make_106
          · have h7 := yB_1 h7
            have hf := yBt h7 hf
            refine lv_iload hx hb dX5_make_93 (lv_at hl 6 rfl) ?_
            subst hf
            exact yy_iret (v := (nI i)) hx hb hr hP hK hS hlocks dX5_make_95
      · have hf := yt h1 hf
        refine lv_bipush (v := (-3)) hx hb dX5_make_71 (by decide) ?_
        subst hf
        exact yy_iret (v := (-3)) hx hb hr hP hK hS hlocks dX5_make_73
    | succ k ih =>
      intro i ls H locs hi hf hl hP hD hS
      rw [md_make_L3] at hf
      refine lv_iload hx hb dX5_make_3 (lv_at hl 6 rfl) ?_
      refine lv_aload_n hx hb dX5_make_5 rfl (lv_at hl 0 rfl) ?_
      refine va_get (D := D) (ci := 5) (v := .int (nI mo.1)) (C := RX5) (T := TX5) (N := 25) hx hb hts (yy_tl inX5) hown hK hP 0 rfl rfl 0 (by decide) (hw _ wq_485) (fun _ h9 => h9) rfl dX5_make_6 ?_
      refine lv_icmp_ge (tgt := 64) hx hb dX5_make_9 (by decide) (fun h => absurd h (nI_ge (by omega) (by omega))) (fun _ => ?_)
      refine lv_aload_n hx hb dX5_make_12 rfl (lv_at hl 0 rfl) ?_
      refine va_get (D := D) (ci := 5) (v := .ref (ma 1)) (C := RX5) (T := TX5) (N := 25) hx hb hts (yy_tl inX5) hown hK hP 0 rfl rfl 1 (by decide) (hw _ wq_486) (fun _ h9 => h9) rfl dX5_make_13 ?_
      refine lv_iload hx hb dX5_make_16 (lv_at hl 6 rfl) ?_
      refine yr_iald hx hb hK hP 1 0 (f := mo.2.1) (j := i) rfl rfl rfl (by omega) (by decide) dX5_make_18 ?_
      refine lv_iload_n hx hb dX5_make_19 rfl (lv_at hl 2 rfl) ?_
      refine lv_icmp_ne (tgt := 58) hx hb dX5_make_20 (by decide) (fun h11 => ?_) (fun h11 => ?_)
      · have hf := yf h11 hf
        refine lv_iinc (k := 6) (v := (nI (i + 1))) (lv' := [(6, .int (nI (i + 1))), (0, .ref (ma 0)), (1, .int (nI nk)), (2, .int what), (3, .int f1), (4, .int f2), (5, .int f3)]) hx hb dX5_make_58 hl rfl (yy_inc _) (by decide) rfl (fun ls hl => ?_)
        refine lv_goto (tgt := 3) hx hb dX5_make_61 (by decide) ?_
        exact ih (i + 1) _ _ _ (by omega) hf (lv_sub hl [1, 2, 3, 4, 5, 6, 0] rfl) hP hD hS
      · have hf := yt h11 hf
        refine lv_aload_n hx hb dX5_make_23 rfl (lv_at hl 0 rfl) ?_
        refine va_get (D := D) (ci := 5) (v := .ref (ma 2)) (C := RX5) (T := TX5) (N := 25) hx hb hts (yy_tl inX5) hown hK hP 0 rfl rfl 2 (by decide) (hw _ wq_487) (fun _ h9 => h9) rfl dX5_make_24 ?_
        refine lv_iload hx hb dX5_make_27 (lv_at hl 6 rfl) ?_
        refine yr_iald hx hb hK hP 2 0 (f := mo.2.2.1) (j := i) rfl rfl rfl (by omega) (by decide) dX5_make_29 ?_
        refine lv_iload_n hx hb dX5_make_30 rfl (lv_at hl 3 rfl) ?_
        refine lv_icmp_ne (tgt := 58) hx hb dX5_make_31 (by decide) (fun h12 => ?_) (fun h12 => ?_)
        · have hf := yf h12 hf
          refine lv_iinc (k := 6) (v := (nI (i + 1))) (lv' := [(6, .int (nI (i + 1))), (0, .ref (ma 0)), (1, .int (nI nk)), (2, .int what), (3, .int f1), (4, .int f2), (5, .int f3)]) hx hb dX5_make_58 hl rfl (yy_inc _) (by decide) rfl (fun ls hl => ?_)
          refine lv_goto (tgt := 3) hx hb dX5_make_61 (by decide) ?_
          exact ih (i + 1) _ _ _ (by omega) hf (lv_sub hl [1, 2, 3, 4, 5, 6, 0] rfl) hP hD hS
        · have hf := yt h12 hf
          refine lv_aload_n hx hb dX5_make_34 rfl (lv_at hl 0 rfl) ?_
          refine va_get (D := D) (ci := 5) (v := .ref (ma 3)) (C := RX5) (T := TX5) (N := 25) hx hb hts (yy_tl inX5) hown hK hP 0 rfl rfl 3 (by decide) (hw _ wq_488) (fun _ h9 => h9) rfl dX5_make_35 ?_
          refine lv_iload hx hb dX5_make_38 (lv_at hl 6 rfl) ?_
          refine yr_iald hx hb hK hP 3 0 (f := mo.2.2.2.1) (j := i) rfl rfl rfl (by omega) (by decide) dX5_make_40 ?_
          refine lv_iload hx hb dX5_make_41 (lv_at hl 4 rfl) ?_
          refine lv_icmp_ne (tgt := 58) hx hb dX5_make_43 (by decide) (fun h13 => ?_) (fun h13 => ?_)
          · have hf := yf h13 hf
            refine lv_iinc (k := 6) (v := (nI (i + 1))) (lv' := [(6, .int (nI (i + 1))), (0, .ref (ma 0)), (1, .int (nI nk)), (2, .int what), (3, .int f1), (4, .int f2), (5, .int f3)]) hx hb dX5_make_58 hl rfl (yy_inc _) (by decide) rfl (fun ls hl => ?_)
            refine lv_goto (tgt := 3) hx hb dX5_make_61 (by decide) ?_
            exact ih (i + 1) _ _ _ (by omega) hf (lv_sub hl [1, 2, 3, 4, 5, 6, 0] rfl) hP hD hS
          · have hf := yt h13 hf
            refine lv_aload_n hx hb dX5_make_46 rfl (lv_at hl 0 rfl) ?_
            refine va_get (D := D) (ci := 5) (v := .ref (ma 4)) (C := RX5) (T := TX5) (N := 25) hx hb hts (yy_tl inX5) hown hK hP 0 rfl rfl 4 (by decide) (hw _ wq_489) (fun _ h9 => h9) rfl dX5_make_47 ?_
            refine lv_iload hx hb dX5_make_50 (lv_at hl 6 rfl) ?_
            refine yr_iald hx hb hK hP 4 0 (f := mo.2.2.2.2) (j := i) rfl rfl rfl (by omega) (by decide) dX5_make_52 ?_
            refine lv_iload hx hb dX5_make_53 (lv_at hl 5 rfl) ?_
            refine lv_icmp_eq (tgt := 64) hx hb dX5_make_55 (by decide) (fun h14 => ?_) (fun h14 => ?_)
            · have hf := yt h14 hf
              refine lv_iload hx hb dX5_make_64 (lv_at hl 6 rfl) ?_
              refine lv_bipush (v := 60) hx hb dX5_make_66 (by decide) ?_
              refine lv_icmp_ne (tgt := 74) hx hb dX5_make_68 (by decide) (fun h15 => ?_) (fun h15 => ?_)
              · have hf := yf h15 hf
                refine lv_iload hx hb dX5_make_74 (lv_at hl 6 rfl) ?_
                refine lv_aload_n hx hb dX5_make_76 rfl (lv_at hl 0 rfl) ?_
                refine va_get (D := D) (ci := 5) (v := .int (nI mo.1)) (C := RX5) (T := TX5) (N := 25) hx hb hts (yy_tl inX5) hown hK hP 0 rfl rfl 0 (by decide) (hw _ wq_485) (fun _ h9 => h9) rfl dX5_make_77 ?_
                refine lv_icmp_ge (tgt := 96) hx hb dX5_make_80 (by decide) (fun h16 => ?_) (fun h16 => ?_)
                · have hf := yt h16 hf
                  refine lv_aload_n hx hb dX5_make_96 rfl (lv_at hl 0 rfl) ?_
                  refine lv_iload_n hx hb dX5_make_97 rfl (lv_at hl 1 rfl) ?_
                  obtain ⟨r17, er17⟩ : ∃ r, r = md_write nk mn := ⟨_, rfl⟩
                  have hf := yb_e er17 hf
                  refine yz_callV (As := [.int (nI nk)]) (rest := []) ⟨hx, hb, hml, hown, hts⟩ (c_md_write l D cI cJ cZ cN ma nk mo mn mw mt mv mp (by (try dsimp only) <;> omega) r17 er17) ⟨callB_of 1 hts (yy_good wq_580) rfl rfl rfl (hw _ wq_39) (hw _ wq_577) (by decide +kernel) ⟨Nat.le_of_ble_eq_true rfl, Nat.le_of_ble_eq_true rfl⟩, hw _ wq_579, hw _ wq_18⟩ hK hN hP hD hS hA [0, 1, 2, 3, 4, 5, 6, 7, 8, 9, 10, 11, 12, 13, 14, 15, 16, 17, 18, 19] rfl (by decide) rfl 20 rfl (w2 := (mW cI cJ cZ ma mo r17.2 mw mt mv mp)) rfl 0 rfl rfl rfl hl.1 rfl (Nat.le_of_ble_eq_true rfl) dX5_make_98 ⟨Nat.zero_le _, Nat.zero_le _⟩ (fun H locs hP hD hS => ?_)
                  refine W.eq (g2 := F0 m 101 ls [.int (yB r17.1)]) rfl ?_
                  refine lv_if_ne (tgt := 107) hx hb dX5_make_101 (by decide) (fun h18 => ?_) (fun h18 => ?_)
                  · have h18 := yB_1 h18
                    have hf := yBt h18 hf
                    refine lv_iload hx hb dX5_make_107 (lv_at hl 6 rfl) ?_
                    refine lv_aload_n hx hb dX5_make_109 rfl (lv_at hl 0 rfl) ?_
                    refine va_get (D := D) (ci := 5) (v := .int (nI mo.1)) (C := RX5) (T := TX5) (N := 25) hx hb hts (yy_tl inX5) hown hK hP 0 rfl rfl 0 (by decide) (hw _ wq_485) (fun _ h9 => h9) rfl dX5_make_110 ?_
                    refine lv_icmp_ne (tgt := 160) hx hb dX5_make_113 (by decide) (fun h19 => ?_) (fun h19 => ?_)
                    · have hf := yf h19 hf
                      refine lv_aload_n hx hb dX5_make_160 rfl (lv_at hl 0 rfl) ?_
                      refine va_get (D := D) (ci := 5) (v := .ref (ma 5)) (C := RX5) (T := TX5) (N := 25) hx hb hts (yy_tl inX5) hown hK hP 0 rfl rfl 5 (by decide) (hw _ wq_490) (fun _ h9 => h9) rfl dX5_make_161 ?_
                      refine lv_iload_n hx hb dX5_make_164 rfl (lv_at hl 1 rfl) ?_
                      refine lv_aload_n hx hb dX5_make_165 rfl (lv_at hl 0 rfl) ?_
                      refine va_get (D := D) (ci := 5) (v := .ref (ma 5)) (C := RX5) (T := TX5) (N := 25) hx hb hts (yy_tl inX5) hown hK hP 0 rfl rfl 5 (by decide) (hw _ wq_490) (fun _ h9 => h9) rfl dX5_make_166 ?_
                      refine lv_iload_n hx hb dX5_make_169 rfl (lv_at hl 1 rfl) ?_
                      refine yr_lald hx hb hK hP 5 1 (f := r17.2.1) (j := nk) rfl rfl rfl (by omega) (by decide) dX5_make_170 ?_
                      refine lv_lconst (v := 1) hx hb dX5_make_171 (by decide) ?_
                      refine lv_iload hx hb dX5_make_172 (lv_at hl 6 rfl) ?_
                      refine lv_lshl (v := ylshl 1 (nI i)) hx hb dX5_make_174 rfl ?_
                      refine lv_lor hx hb dX5_make_175 ?_
                      refine yr_last hx hb hK hP hD hS 5 1 (f := r17.2.1) (j := nk) rfl rfl rfl (by omega) (by decide) dX5_make_176 (fun H locs hP hD hS => ?_)
                      have hP : va_P D vwCl (mW cI cJ cZ ma mo (vp_updL r17.2.1 nk ((r17.2.1 nk) ||| (ylshl 1 (nI i))), r17.2.2.1, r17.2.2.2.1, r17.2.2.2.2.1, r17.2.2.2.2.2.1, r17.2.2.2.2.2.2.1, r17.2.2.2.2.2.2.2.1, r17.2.2.2.2.2.2.2.2) mw mt mv mp) H := hP
                      have hD : va_D A (mW cI cJ cZ ma mo (vp_updL r17.2.1 nk ((r17.2.1 nk) ||| (ylshl 1 (nI i))), r17.2.2.1, r17.2.2.2.1, r17.2.2.2.2.1, r17.2.2.2.2.2.1, r17.2.2.2.2.2.2.1, r17.2.2.2.2.2.2.2.1, r17.2.2.2.2.2.2.2.2) mw mt mv mp) := hD
                      refine lv_iload hx hb dX5_make_177 (lv_at hl 6 rfl) ?_
                      subst hf
                      exact yy_iret (v := (nI i)) hx hb hr hP hK hS hlocks dX5_make_179
                    · have hf := yt h19 hf
                      refine lv_aload_n hx hb dX5_make_116 rfl (lv_at hl 0 rfl) ?_
                      refine va_get (D := D) (ci := 5) (v := .ref (ma 1)) (C := RX5) (T := TX5) (N := 25) hx hb hts (yy_tl inX5) hown hK hP 0 rfl rfl 1 (by decide) (hw _ wq_486) (fun _ h9 => h9) rfl dX5_make_117 ?_
                      refine lv_iload hx hb dX5_make_120 (lv_at hl 6 rfl) ?_
                      refine lv_iload_n hx hb dX5_make_122 rfl (lv_at hl 2 rfl) ?_
                      refine yr_iast hx hb hK hP hD hS 1 0 (f := mo.2.1) (j := i) rfl rfl rfl (yy_lt60 ‹¬ nI i = 60› (by omega)) (by decide) dX5_make_123 (fun H locs hP hD hS => ?_)
                      have hP : va_P D vwCl (mW cI cJ cZ ma (mo.1, upd mo.2.1 i what, mo.2.2.1, mo.2.2.2.1, mo.2.2.2.2) r17.2 mw mt mv mp) H := hP
                      have hD : va_D A (mW cI cJ cZ ma (mo.1, upd mo.2.1 i what, mo.2.2.1, mo.2.2.2.1, mo.2.2.2.2) r17.2 mw mt mv mp) := hD
                      refine lv_aload_n hx hb dX5_make_124 rfl (lv_at hl 0 rfl) ?_
                      refine va_get (D := D) (ci := 5) (v := .ref (ma 2)) (C := RX5) (T := TX5) (N := 25) hx hb hts (yy_tl inX5) hown hK hP 0 rfl rfl 2 (by decide) (hw _ wq_487) (fun _ h9 => h9) rfl dX5_make_125 ?_
                      refine lv_iload hx hb dX5_make_128 (lv_at hl 6 rfl) ?_
                      refine lv_iload_n hx hb dX5_make_130 rfl (lv_at hl 3 rfl) ?_
                      refine yr_iast hx hb hK hP hD hS 2 0 (f := mo.2.2.1) (j := i) rfl rfl rfl (yy_lt60 ‹¬ nI i = 60› (by omega)) (by decide) dX5_make_131 (fun H locs hP hD hS => ?_)
                      have hP : va_P D vwCl (mW cI cJ cZ ma (mo.1, upd mo.2.1 i what, upd mo.2.2.1 i f1, mo.2.2.2.1, mo.2.2.2.2) r17.2 mw mt mv mp) H := hP
                      have hD : va_D A (mW cI cJ cZ ma (mo.1, upd mo.2.1 i what, upd mo.2.2.1 i f1, mo.2.2.2.1, mo.2.2.2.2) r17.2 mw mt mv mp) := hD
                      refine lv_aload_n hx hb dX5_make_132 rfl (lv_at hl 0 rfl) ?_
                      refine va_get (D := D) (ci := 5) (v := .ref (ma 3)) (C := RX5) (T := TX5) (N := 25) hx hb hts (yy_tl inX5) hown hK hP 0 rfl rfl 3 (by decide) (hw _ wq_488) (fun _ h9 => h9) rfl dX5_make_133 ?_
                      refine lv_iload hx hb dX5_make_136 (lv_at hl 6 rfl) ?_
                      refine lv_iload hx hb dX5_make_138 (lv_at hl 4 rfl) ?_
                      refine yr_iast hx hb hK hP hD hS 3 0 (f := mo.2.2.2.1) (j := i) rfl rfl rfl (yy_lt60 ‹¬ nI i = 60› (by omega)) (by decide) dX5_make_140 (fun H locs hP hD hS => ?_)
                      have hP : va_P D vwCl (mW cI cJ cZ ma (mo.1, upd mo.2.1 i what, upd mo.2.2.1 i f1, upd mo.2.2.2.1 i f2, mo.2.2.2.2) r17.2 mw mt mv mp) H := hP
                      have hD : va_D A (mW cI cJ cZ ma (mo.1, upd mo.2.1 i what, upd mo.2.2.1 i f1, upd mo.2.2.2.1 i f2, mo.2.2.2.2) r17.2 mw mt mv mp) := hD
                      refine lv_aload_n hx hb dX5_make_141 rfl (lv_at hl 0 rfl) ?_
                      refine va_get (D := D) (ci := 5) (v := .ref (ma 4)) (C := RX5) (T := TX5) (N := 25) hx hb hts (yy_tl inX5) hown hK hP 0 rfl rfl 4 (by decide) (hw _ wq_489) (fun _ h9 => h9) rfl dX5_make_142 ?_
                      refine lv_iload hx hb dX5_make_145 (lv_at hl 6 rfl) ?_
                      refine lv_iload hx hb dX5_make_147 (lv_at hl 5 rfl) ?_
                      refine yr_iast hx hb hK hP hD hS 4 0 (f := mo.2.2.2.2) (j := i) rfl rfl rfl (yy_lt60 ‹¬ nI i = 60› (by omega)) (by decide) dX5_make_149 (fun H locs hP hD hS => ?_)
                      have hP : va_P D vwCl (mW cI cJ cZ ma (mo.1, upd mo.2.1 i what, upd mo.2.2.1 i f1, upd mo.2.2.2.1 i f2, upd mo.2.2.2.2 i f3) r17.2 mw mt mv mp) H := hP
                      have hD : va_D A (mW cI cJ cZ ma (mo.1, upd mo.2.1 i what, upd mo.2.2.1 i f1, upd mo.2.2.2.1 i f2, upd mo.2.2.2.2 i f3) r17.2 mw mt mv mp) := hD
                      refine lv_aload_n hx hb dX5_make_150 rfl (lv_at hl 0 rfl) ?_
                      refine lv_dup hx hb dX5_make_151 rfl ?_
                      refine va_get (D := D) (ci := 5) (v := .int (nI mo.1)) (C := RX5) (T := TX5) (N := 25) hx hb hts (yy_tl inX5) hown hK hP 0 rfl rfl 0 (by decide) (hw _ wq_485) (fun _ h9 => h9) rfl dX5_make_152 ?_
                      refine lv_iconst (v := (nI 1)) hx hb dX5_make_155 (by decide) ?_
                      refine yr_iaddN hx hb dX5_make_156 ?_
                      refine va_put (D := D) (ci := 5) (v := .int (nI (mo.1 + 1))) (ty := .int) (C := RX5) (T := TX5) (N := 25) hx hb hts (yy_tl inX5) tyX5 tyX5_ok nX5 hown hK hP hD hS 0 rfl rfl 0 (by decide) (hw _ wq_485) (fun _ h9 => h9) rfl (by decide +kernel) rfl rfl (Nat.le_of_ble_eq_true rfl) dX5_make_157 (fun H locs hP hD hS => ?_)
                      have hP : va_P D vwCl (mW cI cJ cZ ma (mo.1 + 1, upd mo.2.1 i what, upd mo.2.2.1 i f1, upd mo.2.2.2.1 i f2, upd mo.2.2.2.2 i f3) r17.2 mw mt mv mp) H := hP
                      have hD : va_D A (mW cI cJ cZ ma (mo.1 + 1, upd mo.2.1 i what, upd mo.2.2.1 i f1, upd mo.2.2.2.1 i f2, upd mo.2.2.2.2 i f3) r17.2 mw mt mv mp) := hD
                      refine lv_aload_n hx hb dX5_make_160 rfl (lv_at hl 0 rfl) ?_
                      refine va_get (D := D) (ci := 5) (v := .ref (ma 5)) (C := RX5) (T := TX5) (N := 25) hx hb hts (yy_tl inX5) hown hK hP 0 rfl rfl 5 (by decide) (hw _ wq_490) (fun _ h9 => h9) rfl dX5_make_161 ?_
                      refine lv_iload_n hx hb dX5_make_164 rfl (lv_at hl 1 rfl) ?_
                      refine lv_aload_n hx hb dX5_make_165 rfl (lv_at hl 0 rfl) ?_
                      refine va_get (D := D) (ci := 5) (v := .ref (ma 5)) (C := RX5) (T := TX5) (N := 25) hx hb hts (yy_tl inX5) hown hK hP 0 rfl rfl 5 (by decide) (hw _ wq_490) (fun _ h9 => h9) rfl dX5_make_166 ?_
                      refine lv_iload_n hx hb dX5_make_169 rfl (lv_at hl 1 rfl) ?_
                      refine yr_lald hx hb hK hP 5 1 (f := r17.2.1) (j := nk) rfl rfl rfl (by omega) (by decide) dX5_make_170 ?_
                      refine lv_lconst (v := 1) hx hb dX5_make_171 (by decide) ?_
                      refine lv_iload hx hb dX5_make_172 (lv_at hl 6 rfl) ?_
                      refine lv_lshl (v := ylshl 1 (nI i)) hx hb dX5_make_174 rfl ?_
                      refine lv_lor hx hb dX5_make_175 ?_
                      refine yr_last hx hb hK hP hD hS 5 1 (f := r17.2.1) (j := nk) rfl rfl rfl (by omega) (by decide) dX5_make_176 (fun H locs hP hD hS => ?_)
                      have hP : va_P D vwCl (mW cI cJ cZ ma (mo.1 + 1, upd mo.2.1 i what, upd mo.2.2.1 i f1, upd mo.2.2.2.1 i f2, upd mo.2.2.2.2 i f3) (vp_updL r17.2.1 nk ((r17.2.1 nk) ||| (ylshl 1 (nI i))), r17.2.2.1, r17.2.2.2.1, r17.2.2.2.2.1, r17.2.2.2.2.2.1, r17.2.2.2.2.2.2.1, r17.2.2.2.2.2.2.2.1, r17.2.2.2.2.2.2.2.2) mw mt mv mp) H := hP
                      have hD : va_D A (mW cI cJ cZ ma (mo.1 + 1, upd mo.2.1 i what, upd mo.2.2.1 i f1, upd mo.2.2.2.1 i f2, upd mo.2.2.2.2 i f3) (vp_updL r17.2.1 nk ((r17.2.1 nk) ||| (ylshl 1 (nI i))), r17.2.2.1, r17.2.2.2.1, r17.2.2.2.2.1, r17.2.2.2.2.2.1, r17.2.2.2.2.2.2.1, r17.2.2.2.2.2.2.2.1, r17.2.2.2.2.2.2.2.2) mw mt mv mp) := hD
                      refine lv_iload hx hb dX5_make_177 (lv_at hl 6 rfl) ?_
                      subst hf
                      exact yy_iret (v := (nI i)) hx hb hr hP hK hS hlocks dX5_make_179
                  · have h18 := yB_0.mp h18
                    have hf := yBf h18 hf
                    refine lv_bipush (v := (-2)) hx hb dX5_make_104 (by decide) ?_
                    subst hf
                    exact yy_iret (v := (-2)) hx hb hr hP hK hS hlocks dX5_make_106
                · have hf := yf h16 hf
                  refine lv_aload_n hx hb dX5_make_83 rfl (lv_at hl 0 rfl) ?_
                  refine lv_iload_n hx hb dX5_make_84 rfl (lv_at hl 1 rfl) ?_
                  refine lv_iload hx hb dX5_make_85 (lv_at hl 6 rfl) ?_
                  obtain ⟨r20, er20⟩ : ∃ r, r = md_has nk (nI i) mo mn := ⟨_, rfl⟩
                  have hf := yb_e er20 hf
                  refine yz_callV (As := [.int (nI nk), .int (nI i)]) (rest := []) ⟨hx, hb, hml, hown, hts⟩ (c_md_has l D cI cJ cZ cN ma nk (nI i) mo mn mw mt mv mp (by (try dsimp only) <;> omega) r20 er20) ⟨callB_of 2 hts (yy_good wq_576) rfl rfl rfl (hw _ wq_39) (hw _ wq_573) (by decide +kernel) ⟨Nat.le_of_ble_eq_true rfl, Nat.le_of_ble_eq_true rfl⟩, hw _ wq_575, hw _ wq_17⟩ hK hN hP hD hS hA [0, 1, 2, 3, 4, 5, 6, 7, 8, 9, 10, 11, 12, 13, 14, 15, 16, 17, 18, 19] rfl (by decide) rfl 20 rfl (w2 := (mW cI cJ cZ ma mo mn mw mt mv mp)) rfl 0 rfl rfl rfl hl.1 rfl (Nat.le_of_ble_eq_true rfl) dX5_make_87 ⟨Nat.zero_le _, Nat.zero_le _⟩ (fun H locs hP hD hS => ?_)
                  refine W.eq (g2 := F0 m 90 ls [.int (yB r20)]) rfl ?_
                  refine lv_if_eq (tgt := 96) hx hb dX5_make_90 (by decide) (fun h21 => ?_) (fun h21 => ?_)
                  · have h21 := yB_0.mp h21
                    have hf := yBf h21 hf
                    refine lv_aload_n hx hb dX5_make_96 rfl (lv_at hl 0 rfl) ?_
                    refine lv_iload_n hx hb dX5_make_97 rfl (lv_at hl 1 rfl) ?_
                    obtain ⟨r22, er22⟩ : ∃ r, r = md_write nk mn := ⟨_, rfl⟩
                    have hf := yb_e er22 hf
                    refine yz_callV (As := [.int (nI nk)]) (rest := []) ⟨hx, hb, hml, hown, hts⟩ (c_md_write l D cI cJ cZ cN ma nk mo mn mw mt mv mp (by (try dsimp only) <;> omega) r22 er22) ⟨callB_of 1 hts (yy_good wq_580) rfl rfl rfl (hw _ wq_39) (hw _ wq_577) (by decide +kernel) ⟨Nat.le_of_ble_eq_true rfl, Nat.le_of_ble_eq_true rfl⟩, hw _ wq_579, hw _ wq_18⟩ hK hN hP hD hS hA [0, 1, 2, 3, 4, 5, 6, 7, 8, 9, 10, 11, 12, 13, 14, 15, 16, 17, 18, 19] rfl (by decide) rfl 20 rfl (w2 := (mW cI cJ cZ ma mo r22.2 mw mt mv mp)) rfl 0 rfl rfl rfl hl.1 rfl (Nat.le_of_ble_eq_true rfl) dX5_make_98 ⟨Nat.zero_le _, Nat.zero_le _⟩ (fun H locs hP hD hS => ?_)
                    refine W.eq (g2 := F0 m 101 ls [.int (yB r22.1)]) rfl ?_
                    refine lv_if_ne (tgt := 107) hx hb dX5_make_101 (by decide) (fun h23 => ?_) (fun h23 => ?_)
                    · have h23 := yB_1 h23
                      have hf := yBt h23 hf
                      refine lv_iload hx hb dX5_make_107 (lv_at hl 6 rfl) ?_
                      refine lv_aload_n hx hb dX5_make_109 rfl (lv_at hl 0 rfl) ?_
                      refine va_get (D := D) (ci := 5) (v := .int (nI mo.1)) (C := RX5) (T := TX5) (N := 25) hx hb hts (yy_tl inX5) hown hK hP 0 rfl rfl 0 (by decide) (hw _ wq_485) (fun _ h9 => h9) rfl dX5_make_110 ?_
                      refine lv_icmp_ne (tgt := 160) hx hb dX5_make_113 (by decide) (fun h24 => ?_) (fun h24 => ?_)
                      · have hf := yf h24 hf
                        refine lv_aload_n hx hb dX5_make_160 rfl (lv_at hl 0 rfl) ?_
                        refine va_get (D := D) (ci := 5) (v := .ref (ma 5)) (C := RX5) (T := TX5) (N := 25) hx hb hts (yy_tl inX5) hown hK hP 0 rfl rfl 5 (by decide) (hw _ wq_490) (fun _ h9 => h9) rfl dX5_make_161 ?_
                        refine lv_iload_n hx hb dX5_make_164 rfl (lv_at hl 1 rfl) ?_
                        refine lv_aload_n hx hb dX5_make_165 rfl (lv_at hl 0 rfl) ?_
                        refine va_get (D := D) (ci := 5) (v := .ref (ma 5)) (C := RX5) (T := TX5) (N := 25) hx hb hts (yy_tl inX5) hown hK hP 0 rfl rfl 5 (by decide) (hw _ wq_490) (fun _ h9 => h9) rfl dX5_make_166 ?_
                        refine lv_iload_n hx hb dX5_make_169 rfl (lv_at hl 1 rfl) ?_
                        refine yr_lald hx hb hK hP 5 1 (f := r22.2.1) (j := nk) rfl rfl rfl (by omega) (by decide) dX5_make_170 ?_
                        refine lv_lconst (v := 1) hx hb dX5_make_171 (by decide) ?_
                        refine lv_iload hx hb dX5_make_172 (lv_at hl 6 rfl) ?_
                        refine lv_lshl (v := ylshl 1 (nI i)) hx hb dX5_make_174 rfl ?_
                        refine lv_lor hx hb dX5_make_175 ?_
                        refine yr_last hx hb hK hP hD hS 5 1 (f := r22.2.1) (j := nk) rfl rfl rfl (by omega) (by decide) dX5_make_176 (fun H locs hP hD hS => ?_)
                        have hP : va_P D vwCl (mW cI cJ cZ ma mo (vp_updL r22.2.1 nk ((r22.2.1 nk) ||| (ylshl 1 (nI i))), r22.2.2.1, r22.2.2.2.1, r22.2.2.2.2.1, r22.2.2.2.2.2.1, r22.2.2.2.2.2.2.1, r22.2.2.2.2.2.2.2.1, r22.2.2.2.2.2.2.2.2) mw mt mv mp) H := hP
                        have hD : va_D A (mW cI cJ cZ ma mo (vp_updL r22.2.1 nk ((r22.2.1 nk) ||| (ylshl 1 (nI i))), r22.2.2.1, r22.2.2.2.1, r22.2.2.2.2.1, r22.2.2.2.2.2.1, r22.2.2.2.2.2.2.1, r22.2.2.2.2.2.2.2.1, r22.2.2.2.2.2.2.2.2) mw mt mv mp) := hD
                        refine lv_iload hx hb dX5_make_177 (lv_at hl 6 rfl) ?_
                        subst hf
                        exact yy_iret (v := (nI i)) hx hb hr hP hK hS hlocks dX5_make_179
                      · have hf := yt h24 hf
                        refine lv_aload_n hx hb dX5_make_116 rfl (lv_at hl 0 rfl) ?_
                        refine va_get (D := D) (ci := 5) (v := .ref (ma 1)) (C := RX5) (T := TX5) (N := 25) hx hb hts (yy_tl inX5) hown hK hP 0 rfl rfl 1 (by decide) (hw _ wq_486) (fun _ h9 => h9) rfl dX5_make_117 ?_
                        refine lv_iload hx hb dX5_make_120 (lv_at hl 6 rfl) ?_
                        refine lv_iload_n hx hb dX5_make_122 rfl (lv_at hl 2 rfl) ?_
                        refine yr_iast hx hb hK hP hD hS 1 0 (f := mo.2.1) (j := i) rfl rfl rfl (yy_lt60 ‹¬ nI i = 60› (by omega)) (by decide) dX5_make_123 (fun H locs hP hD hS => ?_)
                        have hP : va_P D vwCl (mW cI cJ cZ ma (mo.1, upd mo.2.1 i what, mo.2.2.1, mo.2.2.2.1, mo.2.2.2.2) r22.2 mw mt mv mp) H := hP
                        have hD : va_D A (mW cI cJ cZ ma (mo.1, upd mo.2.1 i what, mo.2.2.1, mo.2.2.2.1, mo.2.2.2.2) r22.2 mw mt mv mp) := hD
                        refine lv_aload_n hx hb dX5_make_124 rfl (lv_at hl 0 rfl) ?_
                        refine va_get (D := D) (ci := 5) (v := .ref (ma 2)) (C := RX5) (T := TX5) (N := 25) hx hb hts (yy_tl inX5) hown hK hP 0 rfl rfl 2 (by decide) (hw _ wq_487) (fun _ h9 => h9) rfl dX5_make_125 ?_
                        refine lv_iload hx hb dX5_make_128 (lv_at hl 6 rfl) ?_
                        refine lv_iload_n hx hb dX5_make_130 rfl (lv_at hl 3 rfl) ?_
                        refine yr_iast hx hb hK hP hD hS 2 0 (f := mo.2.2.1) (j := i) rfl rfl rfl (yy_lt60 ‹¬ nI i = 60› (by omega)) (by decide) dX5_make_131 (fun H locs hP hD hS => ?_)
                        have hP : va_P D vwCl (mW cI cJ cZ ma (mo.1, upd mo.2.1 i what, upd mo.2.2.1 i f1, mo.2.2.2.1, mo.2.2.2.2) r22.2 mw mt mv mp) H := hP
                        have hD : va_D A (mW cI cJ cZ ma (mo.1, upd mo.2.1 i what, upd mo.2.2.1 i f1, mo.2.2.2.1, mo.2.2.2.2) r22.2 mw mt mv mp) := hD
                        refine lv_aload_n hx hb dX5_make_132 rfl (lv_at hl 0 rfl) ?_
                        refine va_get (D := D) (ci := 5) (v := .ref (ma 3)) (C := RX5) (T := TX5) (N := 25) hx hb hts (yy_tl inX5) hown hK hP 0 rfl rfl 3 (by decide) (hw _ wq_488) (fun _ h9 => h9) rfl dX5_make_133 ?_
                        refine lv_iload hx hb dX5_make_136 (lv_at hl 6 rfl) ?_
                        refine lv_iload hx hb dX5_make_138 (lv_at hl 4 rfl) ?_
                        refine yr_iast hx hb hK hP hD hS 3 0 (f := mo.2.2.2.1) (j := i) rfl rfl rfl (yy_lt60 ‹¬ nI i = 60› (by omega)) (by decide) dX5_make_140 (fun H locs hP hD hS => ?_)
                        have hP : va_P D vwCl (mW cI cJ cZ ma (mo.1, upd mo.2.1 i what, upd mo.2.2.1 i f1, upd mo.2.2.2.1 i f2, mo.2.2.2.2) r22.2 mw mt mv mp) H := hP
                        have hD : va_D A (mW cI cJ cZ ma (mo.1, upd mo.2.1 i what, upd mo.2.2.1 i f1, upd mo.2.2.2.1 i f2, mo.2.2.2.2) r22.2 mw mt mv mp) := hD
                        refine lv_aload_n hx hb dX5_make_141 rfl (lv_at hl 0 rfl) ?_
                        refine va_get (D := D) (ci := 5) (v := .ref (ma 4)) (C := RX5) (T := TX5) (N := 25) hx hb hts (yy_tl inX5) hown hK hP 0 rfl rfl 4 (by decide) (hw _ wq_489) (fun _ h9 => h9) rfl dX5_make_142 ?_
                        refine lv_iload hx hb dX5_make_145 (lv_at hl 6 rfl) ?_
                        refine lv_iload hx hb dX5_make_147 (lv_at hl 5 rfl) ?_
                        refine yr_iast hx hb hK hP hD hS 4 0 (f := mo.2.2.2.2) (j := i) rfl rfl rfl (yy_lt60 ‹¬ nI i = 60› (by omega)) (by decide) dX5_make_149 (fun H locs hP hD hS => ?_)
                        have hP : va_P D vwCl (mW cI cJ cZ ma (mo.1, upd mo.2.1 i what, upd mo.2.2.1 i f1, upd mo.2.2.2.1 i f2, upd mo.2.2.2.2 i f3) r22.2 mw mt mv mp) H := hP
                        have hD : va_D A (mW cI cJ cZ ma (mo.1, upd mo.2.1 i what, upd mo.2.2.1 i f1, upd mo.2.2.2.1 i f2, upd mo.2.2.2.2 i f3) r22.2 mw mt mv mp) := hD
                        refine lv_aload_n hx hb dX5_make_150 rfl (lv_at hl 0 rfl) ?_
                        refine lv_dup hx hb dX5_make_151 rfl ?_
                        refine va_get (D := D) (ci := 5) (v := .int (nI mo.1)) (C := RX5) (T := TX5) (N := 25) hx hb hts (yy_tl inX5) hown hK hP 0 rfl rfl 0 (by decide) (hw _ wq_485) (fun _ h9 => h9) rfl dX5_make_152 ?_
                        refine lv_iconst (v := (nI 1)) hx hb dX5_make_155 (by decide) ?_
                        refine yr_iaddN hx hb dX5_make_156 ?_
                        refine va_put (D := D) (ci := 5) (v := .int (nI (mo.1 + 1))) (ty := .int) (C := RX5) (T := TX5) (N := 25) hx hb hts (yy_tl inX5) tyX5 tyX5_ok nX5 hown hK hP hD hS 0 rfl rfl 0 (by decide) (hw _ wq_485) (fun _ h9 => h9) rfl (by decide +kernel) rfl rfl (Nat.le_of_ble_eq_true rfl) dX5_make_157 (fun H locs hP hD hS => ?_)
                        have hP : va_P D vwCl (mW cI cJ cZ ma (mo.1 + 1, upd mo.2.1 i what, upd mo.2.2.1 i f1, upd mo.2.2.2.1 i f2, upd mo.2.2.2.2 i f3) r22.2 mw mt mv mp) H := hP
                        have hD : va_D A (mW cI cJ cZ ma (mo.1 + 1, upd mo.2.1 i what, upd mo.2.2.1 i f1, upd mo.2.2.2.1 i f2, upd mo.2.2.2.2 i f3) r22.2 mw mt mv mp) := hD
                        refine lv_aload_n hx hb dX5_make_160 rfl (lv_at hl 0 rfl) ?_
                        refine va_get (D := D) (ci := 5) (v := .ref (ma 5)) (C := RX5) (T := TX5) (N := 25) hx hb hts (yy_tl inX5) hown hK hP 0 rfl rfl 5 (by decide) (hw _ wq_490) (fun _ h9 => h9) rfl dX5_make_161 ?_
                        refine lv_iload_n hx hb dX5_make_164 rfl (lv_at hl 1 rfl) ?_
                        refine lv_aload_n hx hb dX5_make_165 rfl (lv_at hl 0 rfl) ?_
                        refine va_get (D := D) (ci := 5) (v := .ref (ma 5)) (C := RX5) (T := TX5) (N := 25) hx hb hts (yy_tl inX5) hown hK hP 0 rfl rfl 5 (by decide) (hw _ wq_490) (fun _ h9 => h9) rfl dX5_make_166 ?_
                        refine lv_iload_n hx hb dX5_make_169 rfl (lv_at hl 1 rfl) ?_
                        refine yr_lald hx hb hK hP 5 1 (f := r22.2.1) (j := nk) rfl rfl rfl (by omega) (by decide) dX5_make_170 ?_
                        refine lv_lconst (v := 1) hx hb dX5_make_171 (by decide) ?_
                        refine lv_iload hx hb dX5_make_172 (lv_at hl 6 rfl) ?_
                        refine lv_lshl (v := ylshl 1 (nI i)) hx hb dX5_make_174 rfl ?_
                        refine lv_lor hx hb dX5_make_175 ?_
                        refine yr_last hx hb hK hP hD hS 5 1 (f := r22.2.1) (j := nk) rfl rfl rfl (by omega) (by decide) dX5_make_176 (fun H locs hP hD hS => ?_)
                        have hP : va_P D vwCl (mW cI cJ cZ ma (mo.1 + 1, upd mo.2.1 i what, upd mo.2.2.1 i f1, upd mo.2.2.2.1 i f2, upd mo.2.2.2.2 i f3) (vp_updL r22.2.1 nk ((r22.2.1 nk) ||| (ylshl 1 (nI i))), r22.2.2.1, r22.2.2.2.1, r22.2.2.2.2.1, r22.2.2.2.2.2.1, r22.2.2.2.2.2.2.1, r22.2.2.2.2.2.2.2.1, r22.2.2.2.2.2.2.2.2) mw mt mv mp) H := hP
                        have hD : va_D A (mW cI cJ cZ ma (mo.1 + 1, upd mo.2.1 i what, upd mo.2.2.1 i f1, upd mo.2.2.2.1 i f2, upd mo.2.2.2.2 i f3) (vp_updL r22.2.1 nk ((r22.2.1 nk) ||| (ylshl 1 (nI i))), r22.2.2.1, r22.2.2.2.1, r22.2.2.2.2.1, r22.2.2.2.2.2.1, r22.2.2.2.2.2.2.1, r22.2.2.2.2.2.2.2.1, r22.2.2.2.2.2.2.2.2) mw mt mv mp) := hD
                        refine lv_iload hx hb dX5_make_177 (lv_at hl 6 rfl) ?_
                        subst hf
                        exact yy_iret (v := (nI i)) hx hb hr hP hK hS hlocks dX5_make_179
                    · have h23 := yB_0.mp h23
                      have hf := yBf h23 hf
                      refine lv_bipush (v := (-2)) hx hb dX5_make_104 (by decide) ?_
                      subst hf
                      exact yy_iret (v := (-2)) hx hb hr hP hK hS hlocks dX5_make_106
                  · have h21 := yB_1 h21
                    have hf := yBt h21 hf
                    refine lv_iload hx hb dX5_make_93 (lv_at hl 6 rfl) ?_
                    subst hf
                    exact yy_iret (v := (nI i)) hx hb hr hP hK hS hlocks dX5_make_95
              · have hf := yt h15 hf
                refine lv_bipush (v := (-3)) hx hb dX5_make_71 (by decide) ?_
                subst hf
                exact yy_iret (v := (-3)) hx hb hr hP hK hS hlocks dX5_make_73
            · have hf := yf h14 hf
              refine lv_iinc (k := 6) (v := (nI (i + 1))) (lv' := [(6, .int (nI (i + 1))), (0, .ref (ma 0)), (1, .int (nI nk)), (2, .int what), (3, .int f1), (4, .int f2), (5, .int f3)]) hx hb dX5_make_58 hl rfl (yy_inc _) (by decide) rfl (fun ls hl => ?_)
              refine lv_goto (tgt := 3) hx hb dX5_make_61 (by decide) ?_
              exact ih (i + 1) _ _ _ (by omega) hf (lv_sub hl [1, 2, 3, 4, 5, 6, 0] rfl) hP hD hS
  rw [md_make] at hf
  refine lv_iconst (v := (nI 0)) hx hb dX5_make_0 (by decide) ?_
  refine lv_istore (lv' := [(6, .int (nI 0)), (0, .ref (ma 0)), (1, .int (nI nk)), (2, .int what), (3, .int f1), (4, .int f2), (5, .int f3)]) hx hb dX5_make_1 hl (by decide) rfl (fun ls hl => ?_)
  exact hL3 mo.1 0 _ _ _ (by omega) hf (lv_sub hl [1, 2, 3, 4, 5, 6, 0] rfl) hP hD hS

set_option maxHeartbeats 4000000 in
set_option maxRecDepth 100000 in
theorem c_md_entry (l : Launch) (D : va_G) (cI cJ cZ cN : ClassId) (ma : Nat → Nat) (nk : Nat) (x : Int32) (mo : MO) (mn : MN) (mw : MW) (mt : MT) (mv : (Nat → Int32)) (mp : MP) (hk3 : nk < 3) (ho : mo.1 ≤ 60) (res : Bool) (hf : res = md_entry nk x mo mn) : yy_Met l yX5_entry wsX5_entry { frames := 1, cells := 0, slots := 0, locals := 22 } D vwCl (yT cI cJ cZ cN) [.ref (ma 0), .int (nI nk), .int x] (mW cI cJ cZ ma mo mn mw mt mv mp) (some (.int (yB res))) (mW cI cJ cZ ma mo mn mw mt mv mp) := by
  intro sz
  refine Met.ofW (cc := cX5_entry) (maxL := 3) (ret := (some .boolean)) (by decide) rfl ?_
  intro p e s m args below meth c s₁ B hml hv
  obtain ⟨rfl, hsz, hP, hK, hD0, hN⟩ := hv
  have hx := B.exec
  have hb := B.bytes
  have hr := B.returns
  have hts := atoms_spec (ws := wsX5_entry) B.pre
  have hw : ∀ w ∈ yW, w.before _ s = true := fun w h => hts w (List.mem_cons_of_mem _ h)
  have hown : s.vm.findClass RX5 = some m.cls := findClass_of_methodNamed B.named
  have hlocks := B.notSynchronized
  subst hsz
  have hD := hD0.self (sz := s.heap.size)
  generalize hAe : va_A (mW cI cJ cZ ma mo mn mw mt mv mp) s.heap.size = A at hD ⊢
  have hA : ∀ q : Nat, s.heap.size ≤ q → A q := fun q h => by rw [← hAe]; exact Or.inr h
  have hS : va_S A s.heap s.heap [] := va_S.rf
  have hl := lv_entry ([.ref (ma 0), .int (nI nk), .int x]) (n := 3) (Nat.le_of_ble_eq_true rfl)
  rw [lg_entry_eq]
  generalize (lg_sl ([.ref (ma 0), .int (nI nk), .int x]) ++ List.replicate (3 - (lg_sl ([.ref (ma 0), .int (nI nk), .int x])).length) Slot.unset).toArray = ls at hl ⊢
  have hl : lv_has ls 3 [(0, .ref (ma 0)), (1, .int (nI nk)), (2, .int x)] := hl
  rw [md_entry] at hf
  refine lv_aload_n hx hb dX5_entry_0 rfl (lv_at hl 0 rfl) ?_
  refine lv_iload_n hx hb dX5_entry_1 rfl (lv_at hl 1 rfl) ?_
  refine lv_iload_n hx hb dX5_entry_2 rfl (lv_at hl 2 rfl) ?_
  obtain ⟨r1, er1⟩ : ∃ r, r = md_has nk x mo mn := ⟨_, rfl⟩
  have hf := yb_e er1 hf
  refine yz_callV (As := [.int (nI nk), .int x]) (rest := []) ⟨hx, hb, hml, hown, hts⟩ (c_md_has l D cI cJ cZ cN ma nk x mo mn mw mt mv mp (by (try dsimp only) <;> omega) r1 er1) ⟨callB_of 2 hts (yy_good wq_576) rfl rfl rfl (hw _ wq_39) (hw _ wq_573) (by decide +kernel) ⟨Nat.le_of_ble_eq_true rfl, Nat.le_of_ble_eq_true rfl⟩, hw _ wq_575, hw _ wq_17⟩ hK hN hP hD hS hA [0, 1, 2, 3, 4, 5, 6, 7, 8, 9, 10, 11, 12, 13, 14, 15, 16, 17, 18, 19] rfl (by decide) rfl 20 rfl (w2 := (mW cI cJ cZ ma mo mn mw mt mv mp)) rfl 0 rfl rfl rfl hl.1 rfl (Nat.le_of_ble_eq_true rfl) dX5_entry_3 ⟨Nat.zero_le _, Nat.zero_le _⟩ (fun H locs hP hD hS => ?_)
  refine W.eq (g2 := F0 m 6 ls [.int (yB r1)]) rfl ?_
  refine lv_if_eq (tgt := 23) hx hb dX5_entry_6 (by decide) (fun h2 => ?_) (fun h2 => ?_)
  · have h2 := yB_0.mp h2
    have hf := yBf h2 hf
    refine lv_iconst (v := 0) hx hb dX5_entry_23 (by decide) ?_
    subst hf
    exact yy_zret (v := yB false) hx hb hr (yB_n _) hP hK hS hlocks dX5_entry_24
  · have h2 := yB_1 h2
    have hf := yBt h2 hf
    refine lv_aload_n hx hb dX5_entry_9 rfl (lv_at hl 0 rfl) ?_
    refine va_get (D := D) (ci := 5) (v := .ref (ma 1)) (C := RX5) (T := TX5) (N := 25) hx hb hts (yy_tl inX5) hown hK hP 0 rfl rfl 1 (by decide) (hw _ wq_486) (fun _ h9 => h9) rfl dX5_entry_10 ?_
    refine lv_iload_n hx hb dX5_entry_13 rfl (lv_at hl 2 rfl) ?_
    refine va_iald hx hb hK hP 1 0 (f := mo.2.1) rfl rfl (md_has_in ‹_ = md_has nk x _ _› ‹_ = true› ho) dX5_entry_14 ?_
    refine lv_iconst (v := 2) hx hb dX5_entry_15 (by decide) ?_
    refine lv_icmp_ge (tgt := 23) hx hb dX5_entry_16 (by decide) (fun h3 => ?_) (fun h3 => ?_)
    · have hf := yt h3 hf
      refine lv_iconst (v := 0) hx hb dX5_entry_23 (by decide) ?_
      subst hf
      exact yy_zret (v := yB false) hx hb hr (yB_n _) hP hK hS hlocks dX5_entry_24
    · have hf := yf h3 hf
      refine lv_iconst (v := 1) hx hb dX5_entry_19 (by decide) ?_
      refine lv_goto (tgt := 24) hx hb dX5_entry_20 (by decide) ?_
      subst hf
      exact yy_zret (v := yB true) hx hb hr (yB_n _) hP hK hS hlocks dX5_entry_24
