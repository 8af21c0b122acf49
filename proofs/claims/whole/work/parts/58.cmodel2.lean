set_option maxHeartbeats 4000000 in
set_option maxRecDepth 100000 in
theorem c_md_place (l : Launch) (D : va_G) (cI cJ cZ cN : ClassId) (ma : Nat → Nat) (x : Nat) (mo : MO) (mn : MN) (mw : MW) (mt : MT) (mv : (Nat → Int32)) (mp : MP) (ho : mo.1 ≤ 60) (hx60 : x < 60) (hp : mp.1 < 60) (res : MP) (hf : res = md_place x mo mp) : yy_Met l yX5_place wsX5_place { frames := 0, cells := 0, slots := 0, locals := 0 } D vwCl (yT cI cJ cZ cN) [.ref (ma 0), .int (nI x)] (mW cI cJ cZ ma mo mn mw mt mv mp) none (mW cI cJ cZ ma mo mn mw mt mv res) := by
  intro sz
  refine Met.ofW (cc := cX5_place) (maxL := 6) (ret := none) (by decide) rfl ?_
  intro p e s m args below meth c s₁ B hml hv
  obtain ⟨rfl, hsz, hP, hK, hD0, hN⟩ := hv
  have hx := B.exec
  have hb := B.bytes
  have hr := B.returns
  have hts := atoms_spec (ws := wsX5_place) B.pre
  have hw : ∀ w ∈ yW, w.before _ s = true := fun w h => hts w (List.mem_cons_of_mem _ h)
  have hown : s.vm.findClass RX5 = some m.cls := findClass_of_methodNamed B.named
  have hlocks := B.notSynchronized
  subst hsz
  have hD := hD0.self (sz := s.heap.size)
  generalize hAe : va_A (mW cI cJ cZ ma mo mn mw mt mv mp) s.heap.size = A at hD ⊢
  have hA : ∀ q : Nat, s.heap.size ≤ q → A q := fun q h => by rw [← hAe]; exact Or.inr h
  have hS : va_S A s.heap s.heap [] := va_S.rf
  have hl := lv_entry ([.ref (ma 0), .int (nI x)]) (n := 6) (Nat.le_of_ble_eq_true rfl)
  rw [lg_entry_eq]
  generalize (lg_sl ([.ref (ma 0), .int (nI x)]) ++ List.replicate (6 - (lg_sl ([.ref (ma 0), .int (nI x)])).length) Slot.unset).toArray = ls at hl ⊢
  have hl : lv_has ls 6 [(0, .ref (ma 0)), (1, .int (nI x))] := hl
  have hL142 : ∀ (pp : Nat) (q : Nat) (mp : MP) (K : Int32 → MP) (hK0 : ∀ (w : Int32) (ls : Array Slot) (H : Heap) (locs : List Loc), res = K w → lv_has ls 6 [(0, .ref (ma 0)), (1, .int (nI x)), (2, .int (nI pp)), (3, .int (nI q)), (4, .int w)] → va_P D vwCl (mW cI cJ cZ ma mo mn mw mt mv mp) H → va_D A (mW cI cJ cZ ma mo mn mw mt mv mp) → va_S A s.heap H locs → W p l e (headSpec wsX5_place { frames := 0, cells := 0, slots := 0, locals := 0 }).room s m ([.ref (ma 0), .int (nI x)] : List Value).toArray below meth c H locs 0 0 (MQ below (yy_Q A D vwCl (yT cI cJ cZ cN) (mW cI cJ cZ ma mo mn mw mt mv res) none) ([.ref (ma 0), .int (nI x)] : List Value).toArray s 0 0 A) (F0 m 201 ls [])) (k : Nat) (i : Nat) (w : Int32) (ls : Array Slot) (H : Heap) (locs : List Loc), i + k = 8 → q < 60 → res = md_place_L142 x q mo mp K k i w → lv_has ls 6 [(0, .ref (ma 0)), (1, .int (nI x)), (2, .int (nI pp)), (3, .int (nI q)), (4, .int w), (5, .int (nI i))] → va_P D vwCl (mW cI cJ cZ ma mo mn mw mt mv mp) H → va_D A (mW cI cJ cZ ma mo mn mw mt mv mp) → va_S A s.heap H locs → W p l e (headSpec wsX5_place { frames := 0, cells := 0, slots := 0, locals := 0 }).room s m ([.ref (ma 0), .int (nI x)] : List Value).toArray below meth c H locs 0 0 (MQ below (yy_Q A D vwCl (yT cI cJ cZ cN) (mW cI cJ cZ ma mo mn mw mt mv res) none) ([.ref (ma 0), .int (nI x)] : List Value).toArray s 0 0 A) (F0 m 142 ls []) := by
    intro pp q mp K hK0
    intro k
    induction k with
    | zero =>
      intro i w ls H locs hi hv0 hf hl hP hD hS
      rw [md_place_L142] at hf
      refine lv_iload hx hb dX5_place_142 (lv_at hl 5 rfl) ?_
      refine lv_bipush (v := (nI 8)) hx hb dX5_place_144 (by decide) ?_
      refine lv_icmp_ge (tgt := 201) hx hb dX5_place_146 (by decide) (fun _ => ?_) (fun h => absurd (nI_le (by omega) (by omega)) h)
      exact hK0 w _ _ _ hf (lv_sub hl [0, 1, 2, 3, 4] rfl) hP hD hS
    | succ k ih =>
      intro i w ls H locs hi hv0 hf hl hP hD hS
      rw [md_place_L142] at hf
      refine lv_iload hx hb dX5_place_142 (lv_at hl 5 rfl) ?_
      refine lv_bipush (v := (nI 8)) hx hb dX5_place_144 (by decide) ?_
      refine lv_icmp_ge (tgt := 201) hx hb dX5_place_146 (by decide) (fun h => absurd h (nI_ge (by omega) (by omega))) (fun _ => ?_)
      refine lv_iload hx hb dX5_place_149 (lv_at hl 4 rfl) ?_
      refine lv_aload_n hx hb dX5_place_151 rfl (lv_at hl 0 rfl) ?_
      refine va_get (D := D) (ci := 5) (v := .ref (ma 2)) (C := RX5) (T := TX5) (N := 25) hx hb hts (yy_tl inX5) hown hK hP 0 rfl rfl 2 (by decide) (hw _ wq_487) (fun _ h9 => h9) rfl dX5_place_152 ?_
      refine lv_iload_n hx hb dX5_place_155 rfl (lv_at hl 1 rfl) ?_
      refine yr_iald hx hb hK hP 2 0 (f := mo.2.2.1) (j := x) rfl rfl rfl (by omega) (by decide) dX5_place_156 ?_
      refine lv_iconst (v := (nI 4)) hx hb dX5_place_157 (by decide) ?_
      refine lv_iload hx hb dX5_place_158 (lv_at hl 5 rfl) ?_
      refine yr_imulN hx hb dX5_place_160 ?_
      refine yr_ishr hx hb dX5_place_161 ?_
      refine lv_bipush (v := 15) hx hb dX5_place_162 (by decide) ?_
      refine lv_iand hx hb dX5_place_164 ?_
      refine lv_aload_n hx hb dX5_place_165 rfl (lv_at hl 0 rfl) ?_
      refine va_get (D := D) (ci := 5) (v := .ref (ma 2)) (C := RX5) (T := TX5) (N := 25) hx hb hts (yy_tl inX5) hown hK hP 0 rfl rfl 2 (by decide) (hw _ wq_487) (fun _ h9 => h9) rfl dX5_place_166 ?_
      refine lv_aload_n hx hb dX5_place_169 rfl (lv_at hl 0 rfl) ?_
      refine va_get (D := D) (ci := 5) (v := .ref (ma 16)) (C := RX5) (T := TX5) (N := 25) hx hb hts (yy_tl inX5) hown hK hP 0 rfl rfl 21 (by decide) (hw _ wq_506) (fun _ h9 => h9) rfl dX5_place_170 ?_
      refine lv_iload_n hx hb dX5_place_173 rfl (lv_at hl 3 rfl) ?_
      refine yr_ialdN hx hb hK hP 16 0 (g := mp.2.1) (M := 60) (j := q) rfl rfl rfl (by omega) (by decide) dX5_place_174 ?_
      refine yr_iald hx hb hK hP 2 0 (f := mo.2.2.1) (j := mp.2.1 q % 60) rfl rfl rfl (by omega) (by decide) dX5_place_175 ?_
      refine lv_iconst (v := (nI 4)) hx hb dX5_place_176 (by decide) ?_
      refine lv_iload hx hb dX5_place_177 (lv_at hl 5 rfl) ?_
      refine yr_imulN hx hb dX5_place_179 ?_
      refine yr_ishr hx hb dX5_place_180 ?_
      refine lv_bipush (v := 15) hx hb dX5_place_181 (by decide) ?_
      refine lv_iand hx hb dX5_place_183 ?_
      refine lv_icmp_eq (tgt := 191) hx hb dX5_place_184 (by decide) (fun h1 => ?_) (fun h1 => ?_)
      · have hf := yt h1 hf
        refine lv_iconst (v := 0) hx hb dX5_place_191 (by decide) ?_
        refine lv_iadd hx hb dX5_place_192 ?_
        refine lv_istore (lv' := [(4, .int (w + 0)), (0, .ref (ma 0)), (1, .int (nI x)), (2, .int (nI pp)), (3, .int (nI q)), (5, .int (nI i))]) hx hb dX5_place_193 hl (by decide) rfl (fun ls hl => ?_)
        refine lv_iinc (k := 5) (v := (nI (i + 1))) (lv' := [(5, .int (nI (i + 1))), (4, .int (w + 0)), (0, .ref (ma 0)), (1, .int (nI x)), (2, .int (nI pp)), (3, .int (nI q))]) hx hb dX5_place_195 hl rfl (yy_inc _) (by decide) rfl (fun ls hl => ?_)
        refine lv_goto (tgt := 142) hx hb dX5_place_198 (by decide) ?_
        exact ih (i + 1) (w + 0) _ _ _ (by omega) (by omega) hf (lv_sub hl [2, 3, 4, 5, 1, 0] rfl) hP hD hS
      · have hf := yf h1 hf
        refine lv_iconst (v := 1) hx hb dX5_place_187 (by decide) ?_
        refine lv_goto (tgt := 192) hx hb dX5_place_188 (by decide) ?_
        refine lv_iadd hx hb dX5_place_192 ?_
        refine lv_istore (lv' := [(4, .int (w + 1)), (0, .ref (ma 0)), (1, .int (nI x)), (2, .int (nI pp)), (3, .int (nI q)), (5, .int (nI i))]) hx hb dX5_place_193 hl (by decide) rfl (fun ls hl => ?_)
        refine lv_iinc (k := 5) (v := (nI (i + 1))) (lv' := [(5, .int (nI (i + 1))), (4, .int (w + 1)), (0, .ref (ma 0)), (1, .int (nI x)), (2, .int (nI pp)), (3, .int (nI q))]) hx hb dX5_place_195 hl rfl (yy_inc _) (by decide) rfl (fun ls hl => ?_)
        refine lv_goto (tgt := 142) hx hb dX5_place_198 (by decide) ?_
        exact ih (i + 1) (w + 1) _ _ _ (by omega) (by omega) hf (lv_sub hl [2, 3, 4, 5, 1, 0] rfl) hP hD hS
  have hL92 : ∀ (k : Nat) (pp : Nat) (mp : MP) (ls : Array Slot) (H : Heap) (locs : List Loc), k ≤ pp → pp < 60 → res = md_place_L92 x mo k pp mp → lv_has ls 6 [(0, .ref (ma 0)), (1, .int (nI x)), (2, .int (nI pp)), (3, .int (nI k - 1))] → va_P D vwCl (mW cI cJ cZ ma mo mn mw mt mv mp) H → va_D A (mW cI cJ cZ ma mo mn mw mt mv mp) → va_S A s.heap H locs → W p l e (headSpec wsX5_place { frames := 0, cells := 0, slots := 0, locals := 0 }).room s m ([.ref (ma 0), .int (nI x)] : List Value).toArray below meth c H locs 0 0 (MQ below (yy_Q A D vwCl (yT cI cJ cZ cN) (mW cI cJ cZ ma mo mn mw mt mv res) none) ([.ref (ma 0), .int (nI x)] : List Value).toArray s 0 0 A) (F0 m 92 ls []) := by
    intro k
    induction k with
    | zero =>
      intro pp mp ls H locs hi hv0 hf hl hP hD hS
      rw [md_place_L92] at hf
      refine lv_iload_n hx hb dX5_place_92 rfl (lv_at hl 3 rfl) ?_
      refine lv_if_lt (tgt := 247) hx hb dX5_place_93 (by decide) (fun _ => ?_) (fun h => absurd (by decide) h)
      subst hf
      exact yy_vret hx hb hr hP hK hS hlocks dX5_place_247
    | succ q ih =>
      intro pp mp ls H locs hi hv0 hf hl hP hD hS
      rw [md_place_L92] at hf
      rw [nI_pred] at hl
      refine lv_iload_n hx hb dX5_place_92 rfl (lv_at hl 3 rfl) ?_
      refine lv_if_lt (tgt := 247) hx hb dX5_place_93 (by decide) (fun h => absurd h (nI_pos (by omega))) (fun _ => ?_)
      refine lv_iload_n hx hb dX5_place_96 rfl (lv_at hl 3 rfl) ?_
      refine lv_iload_n hx hb dX5_place_97 rfl (lv_at hl 2 rfl) ?_
      refine lv_iconst (v := 3) hx hb dX5_place_98 (by decide) ?_
      refine lv_isub hx hb dX5_place_99 ?_
      refine lv_icmp_lt (tgt := 247) hx hb dX5_place_100 (by decide) (fun h2 => ?_) (fun h2 => ?_)
      · have hf := yt h2 hf
        subst hf
        exact yy_vret hx hb hr hP hK hS hlocks dX5_place_247
      · have hf := yf h2 hf
        refine lv_aload_n hx hb dX5_place_103 rfl (lv_at hl 0 rfl) ?_
        refine va_get (D := D) (ci := 5) (v := .ref (ma 1)) (C := RX5) (T := TX5) (N := 25) hx hb hts (yy_tl inX5) hown hK hP 0 rfl rfl 1 (by decide) (hw _ wq_486) (fun _ h9 => h9) rfl dX5_place_104 ?_
        refine lv_iload_n hx hb dX5_place_107 rfl (lv_at hl 1 rfl) ?_
        refine yr_iald hx hb hK hP 1 0 (f := mo.2.1) (j := x) rfl rfl rfl (by omega) (by decide) dX5_place_108 ?_
        refine lv_if_ne (tgt := 241) hx hb dX5_place_109 (by decide) (fun h3 => ?_) (fun h3 => ?_)
        · have hf := yf h3 hf
          refine lv_iinc (k := 3) (v := (nI q - 1)) (lv' := [(3, .int (nI q - 1)), (0, .ref (ma 0)), (1, .int (nI x)), (2, .int (nI pp))]) hx hb dX5_place_241 hl rfl (yy_dec _) (by decide) rfl (fun ls hl => ?_)
          refine lv_goto (tgt := 92) hx hb dX5_place_244 (by decide) ?_
          exact ih pp mp _ _ _ (by omega) (by omega) hf (lv_sub hl [1, 2, 3, 0] rfl) hP hD hS
        · have hf := yt h3 hf
          refine lv_aload_n hx hb dX5_place_112 rfl (lv_at hl 0 rfl) ?_
          refine va_get (D := D) (ci := 5) (v := .ref (ma 1)) (C := RX5) (T := TX5) (N := 25) hx hb hts (yy_tl inX5) hown hK hP 0 rfl rfl 1 (by decide) (hw _ wq_486) (fun _ h9 => h9) rfl dX5_place_113 ?_
          refine lv_aload_n hx hb dX5_place_116 rfl (lv_at hl 0 rfl) ?_
          refine va_get (D := D) (ci := 5) (v := .ref (ma 16)) (C := RX5) (T := TX5) (N := 25) hx hb hts (yy_tl inX5) hown hK hP 0 rfl rfl 21 (by decide) (hw _ wq_506) (fun _ h9 => h9) rfl dX5_place_117 ?_
          refine lv_iload_n hx hb dX5_place_120 rfl (lv_at hl 3 rfl) ?_
          refine yr_ialdN hx hb hK hP 16 0 (g := mp.2.1) (M := 60) (j := q) rfl rfl rfl (by omega) (by decide) dX5_place_121 ?_
          refine yr_iald hx hb hK hP 1 0 (f := mo.2.1) (j := mp.2.1 q % 60) rfl rfl rfl (by omega) (by decide) dX5_place_122 ?_
          refine lv_if_ne (tgt := 241) hx hb dX5_place_123 (by decide) (fun h4 => ?_) (fun h4 => ?_)
          · have hf := yf h4 hf
            refine lv_iinc (k := 3) (v := (nI q - 1)) (lv' := [(3, .int (nI q - 1)), (0, .ref (ma 0)), (1, .int (nI x)), (2, .int (nI pp))]) hx hb dX5_place_241 hl rfl (yy_dec _) (by decide) rfl (fun ls hl => ?_)
            refine lv_goto (tgt := 92) hx hb dX5_place_244 (by decide) ?_
            exact ih pp mp _ _ _ (by omega) (by omega) hf (lv_sub hl [1, 2, 3, 0] rfl) hP hD hS
          · have hf := yt h4 hf
            refine lv_aload_n hx hb dX5_place_126 rfl (lv_at hl 0 rfl) ?_
            refine va_get (D := D) (ci := 5) (v := .ref (ma 18)) (C := RX5) (T := TX5) (N := 25) hx hb hts (yy_tl inX5) hown hK hP 0 rfl rfl 23 (by decide) (hw _ wq_508) (fun _ h9 => h9) rfl dX5_place_127 ?_
            refine lv_iload_n hx hb dX5_place_130 rfl (lv_at hl 3 rfl) ?_
            refine yr_iald hx hb hK hP 18 0 (f := mp.2.2.2.1) (j := q) rfl rfl rfl (by omega) (by decide) dX5_place_131 ?_
            refine lv_iconst (v := 2) hx hb dX5_place_132 (by decide) ?_
            refine lv_icmp_ge (tgt := 241) hx hb dX5_place_133 (by decide) (fun h5 => ?_) (fun h5 => ?_)
            · have hf := yt h5 hf
              refine lv_iinc (k := 3) (v := (nI q - 1)) (lv' := [(3, .int (nI q - 1)), (0, .ref (ma 0)), (1, .int (nI x)), (2, .int (nI pp))]) hx hb dX5_place_241 hl rfl (yy_dec _) (by decide) rfl (fun ls hl => ?_)
              refine lv_goto (tgt := 92) hx hb dX5_place_244 (by decide) ?_
              exact ih pp mp _ _ _ (by omega) (by omega) hf (lv_sub hl [1, 2, 3, 0] rfl) hP hD hS
            · have hf := yf h5 hf
              refine lv_iconst (v := 2) hx hb dX5_place_136 (by decide) ?_
              refine lv_istore (lv' := [(4, .int 2), (0, .ref (ma 0)), (1, .int (nI x)), (2, .int (nI pp)), (3, .int (nI q))]) hx hb dX5_place_137 hl (by decide) rfl (fun ls hl => ?_)
              refine lv_iconst (v := (nI 0)) hx hb dX5_place_139 (by decide) ?_
              refine lv_istore (lv' := [(5, .int (nI 0)), (4, .int 2), (0, .ref (ma 0)), (1, .int (nI x)), (2, .int (nI pp)), (3, .int (nI q))]) hx hb dX5_place_140 hl (by decide) rfl (fun ls hl => ?_)
              refine hL142 pp q mp _ (fun w ls H locs hf hl hP hD hS => ?_) 8 0 2 _ _ _ (by omega) (by omega) hf (lv_sub hl [2, 3, 4, 5, 1, 0] rfl) hP hD hS
              refine lv_iload hx hb dX5_place_201 (lv_at hl 4 rfl) ?_
              refine lv_aload_n hx hb dX5_place_203 rfl (lv_at hl 0 rfl) ?_
              refine va_get (D := D) (ci := 5) (v := .ref (ma 19)) (C := RX5) (T := TX5) (N := 25) hx hb hts (yy_tl inX5) hown hK hP 0 rfl rfl 24 (by decide) (hw _ wq_509) (fun _ h9 => h9) rfl dX5_place_204 ?_
              refine lv_iload_n hx hb dX5_place_207 rfl (lv_at hl 2 rfl) ?_
              refine yr_iald hx hb hK hP 19 0 (f := mp.2.2.2.2) (j := pp) rfl rfl rfl (by omega) (by decide) dX5_place_208 ?_
              refine lv_icmp_ge (tgt := 241) hx hb dX5_place_209 (by decide) (fun h6 => ?_) (fun h6 => ?_)
              · have hf := yt h6 hf
                refine lv_iinc (k := 3) (v := (nI q - 1)) (lv' := [(3, .int (nI q - 1)), (0, .ref (ma 0)), (1, .int (nI x)), (2, .int (nI pp)), (4, .int w)]) hx hb dX5_place_241 hl rfl (yy_dec _) (by decide) rfl (fun ls hl => ?_)
                refine lv_goto (tgt := 92) hx hb dX5_place_244 (by decide) ?_
                exact ih pp mp _ _ _ (by omega) (by omega) hf (lv_sub hl [1, 2, 3, 0] rfl) hP hD hS
              · have hf := yf h6 hf
                refine lv_aload_n hx hb dX5_place_212 rfl (lv_at hl 0 rfl) ?_
                refine va_get (D := D) (ci := 5) (v := .ref (ma 19)) (C := RX5) (T := TX5) (N := 25) hx hb hts (yy_tl inX5) hown hK hP 0 rfl rfl 24 (by decide) (hw _ wq_509) (fun _ h9 => h9) rfl dX5_place_213 ?_
                refine lv_iload_n hx hb dX5_place_216 rfl (lv_at hl 2 rfl) ?_
                refine lv_iload hx hb dX5_place_217 (lv_at hl 4 rfl) ?_
                refine yr_iast hx hb hK hP hD hS 19 0 (f := mp.2.2.2.2) (j := pp) rfl rfl rfl (by omega) (by decide) dX5_place_219 (fun H locs hP hD hS => ?_)
                have hP : va_P D vwCl (mW cI cJ cZ ma mo mn mw mt mv (mp.1, mp.2.1, mp.2.2.1, mp.2.2.2.1, upd mp.2.2.2.2 pp w)) H := hP
                have hD : va_D A (mW cI cJ cZ ma mo mn mw mt mv (mp.1, mp.2.1, mp.2.2.1, mp.2.2.2.1, upd mp.2.2.2.2 pp w)) := hD
                refine lv_aload_n hx hb dX5_place_220 rfl (lv_at hl 0 rfl) ?_
                refine va_get (D := D) (ci := 5) (v := .ref (ma 17)) (C := RX5) (T := TX5) (N := 25) hx hb hts (yy_tl inX5) hown hK hP 0 rfl rfl 22 (by decide) (hw _ wq_507) (fun _ h9 => h9) rfl dX5_place_221 ?_
                refine lv_iload_n hx hb dX5_place_224 rfl (lv_at hl 2 rfl) ?_
                refine lv_iload_n hx hb dX5_place_225 rfl (lv_at hl 3 rfl) ?_
                refine yr_iast hx hb hK hP hD hS 17 0 (f := mp.2.2.1) (j := pp) rfl rfl rfl (by omega) (by decide) dX5_place_226 (fun H locs hP hD hS => ?_)
                have hP : va_P D vwCl (mW cI cJ cZ ma mo mn mw mt mv (mp.1, mp.2.1, upd mp.2.2.1 pp (nI q), mp.2.2.2.1, upd mp.2.2.2.2 pp w)) H := hP
                have hD : va_D A (mW cI cJ cZ ma mo mn mw mt mv (mp.1, mp.2.1, upd mp.2.2.1 pp (nI q), mp.2.2.2.1, upd mp.2.2.2.2 pp w)) := hD
                refine lv_aload_n hx hb dX5_place_227 rfl (lv_at hl 0 rfl) ?_
                refine va_get (D := D) (ci := 5) (v := .ref (ma 18)) (C := RX5) (T := TX5) (N := 25) hx hb hts (yy_tl inX5) hown hK hP 0 rfl rfl 23 (by decide) (hw _ wq_508) (fun _ h9 => h9) rfl dX5_place_228 ?_
                refine lv_iload_n hx hb dX5_place_231 rfl (lv_at hl 2 rfl) ?_
                refine lv_aload_n hx hb dX5_place_232 rfl (lv_at hl 0 rfl) ?_
                refine va_get (D := D) (ci := 5) (v := .ref (ma 18)) (C := RX5) (T := TX5) (N := 25) hx hb hts (yy_tl inX5) hown hK hP 0 rfl rfl 23 (by decide) (hw _ wq_508) (fun _ h9 => h9) rfl dX5_place_233 ?_
                refine lv_iload_n hx hb dX5_place_236 rfl (lv_at hl 3 rfl) ?_
                refine yr_iald hx hb hK hP 18 0 (f := mp.2.2.2.1) (j := q) rfl rfl rfl (by omega) (by decide) dX5_place_237 ?_
                refine lv_iconst (v := 1) hx hb dX5_place_238 (by decide) ?_
                refine lv_iadd hx hb dX5_place_239 ?_
                refine yr_iast hx hb hK hP hD hS 18 0 (f := mp.2.2.2.1) (j := pp) rfl rfl rfl (by omega) (by decide) dX5_place_240 (fun H locs hP hD hS => ?_)
                have hP : va_P D vwCl (mW cI cJ cZ ma mo mn mw mt mv (mp.1, mp.2.1, upd mp.2.2.1 pp (nI q), upd mp.2.2.2.1 pp ((mp.2.2.2.1 q) + 1), upd mp.2.2.2.2 pp w)) H := hP
                have hD : va_D A (mW cI cJ cZ ma mo mn mw mt mv (mp.1, mp.2.1, upd mp.2.2.1 pp (nI q), upd mp.2.2.2.1 pp ((mp.2.2.2.1 q) + 1), upd mp.2.2.2.2 pp w)) := hD
                refine lv_iinc (k := 3) (v := (nI q - 1)) (lv' := [(3, .int (nI q - 1)), (0, .ref (ma 0)), (1, .int (nI x)), (2, .int (nI pp)), (4, .int w)]) hx hb dX5_place_241 hl rfl (yy_dec _) (by decide) rfl (fun ls hl => ?_)
                refine lv_goto (tgt := 92) hx hb dX5_place_244 (by decide) ?_
                exact ih pp (mp.1, mp.2.1, upd mp.2.2.1 pp (nI q), upd mp.2.2.2.1 pp ((mp.2.2.2.1 q) + 1), upd mp.2.2.2.2 pp w) _ _ _ (by omega) (by omega) hf (lv_sub hl [1, 2, 3, 0] rfl) hP hD hS
  rw [md_place] at hf
  refine lv_aload_n hx hb dX5_place_0 rfl (lv_at hl 0 rfl) ?_
  refine va_get (D := D) (ci := 5) (v := .int (nI mp.1)) (C := RX5) (T := TX5) (N := 25) hx hb hts (yy_tl inX5) hown hK hP 0 rfl rfl 20 (by decide) (hw _ wq_505) (fun _ h9 => h9) rfl dX5_place_1 ?_
  refine lv_istore_n (lv' := [(2, .int (nI mp.1)), (0, .ref (ma 0)), (1, .int (nI x))]) hx hb dX5_place_4 rfl hl (by decide) rfl (fun ls hl => ?_)
  refine lv_aload_n hx hb dX5_place_5 rfl (lv_at hl 1 rfl) ?_
  refine va_get (D := D) (ci := 5) (v := .ref (ma 16)) (C := RX5) (T := TX5) (N := 25) hx hb hts (yy_tl inX5) hown hK hP 0 rfl rfl 21 (by decide) (hw _ wq_506) (fun _ h9 => h9) rfl dX5_place_6 ?_
  refine lv_iload_n hx hb dX5_place_9 rfl (lv_at hl 0 rfl) ?_
  refine lv_iload_n hx hb dX5_place_10 rfl (lv_at hl 2 rfl) ?_
  refine yr_iastN (g := mp.2.1) (M := 60) (v := x) hx hb hK hP hD hS 16 0 (j := mp.1) rfl rfl rfl (by omega) (by decide) (by omega) dX5_place_11 (fun H locs hP hD hS => ?_)
  have hP : va_P D vwCl (mW cI cJ cZ ma mo mn mw mt mv (mp.1, yupN mp.2.1 mp.1 x, mp.2.2.1, mp.2.2.2.1, mp.2.2.2.2)) H := hP
  have hD : va_D A (mW cI cJ cZ ma mo mn mw mt mv (mp.1, yupN mp.2.1 mp.1 x, mp.2.2.1, mp.2.2.2.1, mp.2.2.2.2)) := hD
  refine lv_aload_n hx hb dX5_place_12 rfl (lv_at hl 1 rfl) ?_
  refine va_get (D := D) (ci := 5) (v := .ref (ma 17)) (C := RX5) (T := TX5) (N := 25) hx hb hts (yy_tl inX5) hown hK hP 0 rfl rfl 22 (by decide) (hw _ wq_507) (fun _ h9 => h9) rfl dX5_place_13 ?_
  refine lv_iload_n hx hb dX5_place_16 rfl (lv_at hl 0 rfl) ?_
  refine lv_bipush (v := (-4)) hx hb dX5_place_17 (by decide) ?_
  refine yr_iast hx hb hK hP hD hS 17 0 (f := mp.2.2.1) (j := mp.1) rfl rfl rfl (by omega) (by decide) dX5_place_19 (fun H locs hP hD hS => ?_)
  have hP : va_P D vwCl (mW cI cJ cZ ma mo mn mw mt mv (mp.1, yupN mp.2.1 mp.1 x, upd mp.2.2.1 mp.1 (-4), mp.2.2.2.1, mp.2.2.2.2)) H := hP
  have hD : va_D A (mW cI cJ cZ ma mo mn mw mt mv (mp.1, yupN mp.2.1 mp.1 x, upd mp.2.2.1 mp.1 (-4), mp.2.2.2.1, mp.2.2.2.2)) := hD
  refine lv_aload_n hx hb dX5_place_20 rfl (lv_at hl 1 rfl) ?_
  refine va_get (D := D) (ci := 5) (v := .ref (ma 18)) (C := RX5) (T := TX5) (N := 25) hx hb hts (yy_tl inX5) hown hK hP 0 rfl rfl 23 (by decide) (hw _ wq_508) (fun _ h9 => h9) rfl dX5_place_21 ?_
  refine lv_iload_n hx hb dX5_place_24 rfl (lv_at hl 0 rfl) ?_
  refine lv_iconst (v := 0) hx hb dX5_place_25 (by decide) ?_
  refine yr_iast hx hb hK hP hD hS 18 0 (f := mp.2.2.2.1) (j := mp.1) rfl rfl rfl (by omega) (by decide) dX5_place_26 (fun H locs hP hD hS => ?_)
  have hP : va_P D vwCl (mW cI cJ cZ ma mo mn mw mt mv (mp.1, yupN mp.2.1 mp.1 x, upd mp.2.2.1 mp.1 (-4), upd mp.2.2.2.1 mp.1 0, mp.2.2.2.2)) H := hP
  have hD : va_D A (mW cI cJ cZ ma mo mn mw mt mv (mp.1, yupN mp.2.1 mp.1 x, upd mp.2.2.1 mp.1 (-4), upd mp.2.2.2.1 mp.1 0, mp.2.2.2.2)) := hD
  refine lv_aload_n hx hb dX5_place_27 rfl (lv_at hl 1 rfl) ?_
  refine va_get (D := D) (ci := 5) (v := .ref (ma 19)) (C := RX5) (T := TX5) (N := 25) hx hb hts (yy_tl inX5) hown hK hP 0 rfl rfl 24 (by decide) (hw _ wq_509) (fun _ h9 => h9) rfl dX5_place_28 ?_
  refine lv_iload_n hx hb dX5_place_31 rfl (lv_at hl 0 rfl) ?_
  refine lv_aload_n hx hb dX5_place_32 rfl (lv_at hl 1 rfl) ?_
  refine va_get (D := D) (ci := 5) (v := .ref (ma 1)) (C := RX5) (T := TX5) (N := 25) hx hb hts (yy_tl inX5) hown hK hP 0 rfl rfl 1 (by decide) (hw _ wq_486) (fun _ h9 => h9) rfl dX5_place_33 ?_
  refine lv_iload_n hx hb dX5_place_36 rfl (lv_at hl 2 rfl) ?_
  refine yr_iald hx hb hK hP 1 0 (f := mo.2.1) (j := x) rfl rfl rfl (by omega) (by decide) dX5_place_37 ?_
  refine lv_if_ne (tgt := 46) hx hb dX5_place_38 (by decide) (fun h7 => ?_) (fun h7 => ?_)
  · have hf := yf h7 hf
    refine lv_iconst (v := 2) hx hb dX5_place_46 (by decide) ?_
    refine lv_aload_n hx hb dX5_place_47 rfl (lv_at hl 1 rfl) ?_
    refine va_get (D := D) (ci := 5) (v := .ref (ma 3)) (C := RX5) (T := TX5) (N := 25) hx hb hts (yy_tl inX5) hown hK hP 0 rfl rfl 3 (by decide) (hw _ wq_488) (fun _ h9 => h9) rfl dX5_place_48 ?_
    refine lv_iload_n hx hb dX5_place_51 rfl (lv_at hl 2 rfl) ?_
    refine yr_iald hx hb hK hP 3 0 (f := mo.2.2.2.1) (j := x) rfl rfl rfl (by omega) (by decide) dX5_place_52 ?_
    refine lv_if_lt (tgt := 60) hx hb dX5_place_53 (by decide) (fun h8 => ?_) (fun h8 => ?_)
    · have hf := yt h8 hf
      refine lv_iconst (v := 0) hx hb dX5_place_60 (by decide) ?_
      refine lv_iadd hx hb dX5_place_61 ?_
      refine lv_aload_n hx hb dX5_place_62 rfl (lv_at hl 1 rfl) ?_
      refine va_get (D := D) (ci := 5) (v := .ref (ma 4)) (C := RX5) (T := TX5) (N := 25) hx hb hts (yy_tl inX5) hown hK hP 0 rfl rfl 4 (by decide) (hw _ wq_489) (fun _ h9 => h9) rfl dX5_place_63 ?_
      refine lv_iload_n hx hb dX5_place_66 rfl (lv_at hl 2 rfl) ?_
      refine yr_iald hx hb hK hP 4 0 (f := mo.2.2.2.2) (j := x) rfl rfl rfl (by omega) (by decide) dX5_place_67 ?_
      refine lv_if_lt (tgt := 75) hx hb dX5_place_68 (by decide) (fun h9 => ?_) (fun h9 => ?_)
      · have hf := yt h9 hf
        refine lv_iconst (v := 0) hx hb dX5_place_75 (by decide) ?_
        refine lv_iadd hx hb dX5_place_76 ?_
        refine yr_iast hx hb hK hP hD hS 19 0 (f := mp.2.2.2.2) (j := mp.1) rfl rfl rfl (by omega) (by decide) dX5_place_77 (fun H locs hP hD hS => ?_)
        have hP : va_P D vwCl (mW cI cJ cZ ma mo mn mw mt mv (mp.1, yupN mp.2.1 mp.1 x, upd mp.2.2.1 mp.1 (-4), upd mp.2.2.2.1 mp.1 0, upd mp.2.2.2.2 mp.1 ((2 + 0) + 0))) H := hP
        have hD : va_D A (mW cI cJ cZ ma mo mn mw mt mv (mp.1, yupN mp.2.1 mp.1 x, upd mp.2.2.1 mp.1 (-4), upd mp.2.2.2.1 mp.1 0, upd mp.2.2.2.2 mp.1 ((2 + 0) + 0))) := hD
        refine lv_aload_n hx hb dX5_place_78 rfl (lv_at hl 1 rfl) ?_
        refine lv_dup hx hb dX5_place_79 rfl ?_
        refine va_get (D := D) (ci := 5) (v := .int (nI mp.1)) (C := RX5) (T := TX5) (N := 25) hx hb hts (yy_tl inX5) hown hK hP 0 rfl rfl 20 (by decide) (hw _ wq_505) (fun _ h9 => h9) rfl dX5_place_80 ?_
        refine lv_iconst (v := (nI 1)) hx hb dX5_place_83 (by decide) ?_
        refine yr_iaddN hx hb dX5_place_84 ?_
        refine va_put (D := D) (ci := 5) (v := .int (nI (mp.1 + 1))) (ty := .int) (C := RX5) (T := TX5) (N := 25) hx hb hts (yy_tl inX5) tyX5 tyX5_ok nX5 hown hK hP hD hS 0 rfl rfl 20 (by decide) (hw _ wq_505) (fun _ h9 => h9) rfl (by decide +kernel) rfl rfl (Nat.le_of_ble_eq_true rfl) dX5_place_85 (fun H locs hP hD hS => ?_)
        have hP : va_P D vwCl (mW cI cJ cZ ma mo mn mw mt mv (mp.1 + 1, yupN mp.2.1 mp.1 x, upd mp.2.2.1 mp.1 (-4), upd mp.2.2.2.1 mp.1 0, upd mp.2.2.2.2 mp.1 ((2 + 0) + 0))) H := hP
        have hD : va_D A (mW cI cJ cZ ma mo mn mw mt mv (mp.1 + 1, yupN mp.2.1 mp.1 x, upd mp.2.2.1 mp.1 (-4), upd mp.2.2.2.1 mp.1 0, upd mp.2.2.2.2 mp.1 ((2 + 0) + 0))) := hD
        refine lv_iload_n hx hb dX5_place_88 rfl (lv_at hl 0 rfl) ?_
        refine lv_iconst (v := 1) hx hb dX5_place_89 (by decide) ?_
        refine lv_isub hx hb dX5_place_90 ?_
        refine lv_istore_n (lv' := [(3, .int (nI mp.1 - 1)), (2, .int (nI mp.1)), (0, .ref (ma 0)), (1, .int (nI x))]) hx hb dX5_place_91 rfl hl (by decide) rfl (fun ls hl => ?_)
        exact hL92 mp.1 mp.1 (mp.1 + 1, yupN mp.2.1 mp.1 x, upd mp.2.2.1 mp.1 (-4), upd mp.2.2.2.1 mp.1 0, upd mp.2.2.2.2 mp.1 ((2 + 0) + 0)) _ _ _ (by omega) (by omega) hf (lv_sub hl [2, 3, 1, 0] rfl) hP hD hS
      · have hf := yf h9 hf
        refine lv_iconst (v := 1) hx hb dX5_place_71 (by decide) ?_
        refine lv_goto (tgt := 76) hx hb dX5_place_72 (by decide) ?_
        refine lv_iadd hx hb dX5_place_76 ?_
        refine yr_iast hx hb hK hP hD hS 19 0 (f := mp.2.2.2.2) (j := mp.1) rfl rfl rfl (by omega) (by decide) dX5_place_77 (fun H locs hP hD hS => ?_)
        have hP : va_P D vwCl (mW cI cJ cZ ma mo mn mw mt mv (mp.1, yupN mp.2.1 mp.1 x, upd mp.2.2.1 mp.1 (-4), upd mp.2.2.2.1 mp.1 0, upd mp.2.2.2.2 mp.1 ((2 + 0) + 1))) H := hP
        have hD : va_D A (mW cI cJ cZ ma mo mn mw mt mv (mp.1, yupN mp.2.1 mp.1 x, upd mp.2.2.1 mp.1 (-4), upd mp.2.2.2.1 mp.1 0, upd mp.2.2.2.2 mp.1 ((2 + 0) + 1))) := hD
        refine lv_aload_n hx hb dX5_place_78 rfl (lv_at hl 1 rfl) ?_
        refine lv_dup hx hb dX5_place_79 rfl ?_
        refine va_get (D := D) (ci := 5) (v := .int (nI mp.1)) (C := RX5) (T := TX5) (N := 25) hx hb hts (yy_tl inX5) hown hK hP 0 rfl rfl 20 (by decide) (hw _ wq_505) (fun _ h9 => h9) rfl dX5_place_80 ?_
        refine lv_iconst (v := (nI 1)) hx hb dX5_place_83 (by decide) ?_
        refine yr_iaddN hx hb dX5_place_84 ?_
        refine va_put (D := D) (ci := 5) (v := .int (nI (mp.1 + 1))) (ty := .int) (C := RX5) (T := TX5) (N := 25) hx hb hts (yy_tl inX5) tyX5 tyX5_ok nX5 hown hK hP hD hS 0 rfl rfl 20 (by decide) (hw _ wq_505) (fun _ h9 => h9) rfl (by decide +kernel) rfl rfl (Nat.le_of_ble_eq_true rfl) dX5_place_85 (fun H locs hP hD hS => ?_)
        have hP : va_P D vwCl (mW cI cJ cZ ma mo mn mw mt mv (mp.1 + 1, yupN mp.2.1 mp.1 x, upd mp.2.2.1 mp.1 (-4), upd mp.2.2.2.1 mp.1 0, upd mp.2.2.2.2 mp.1 ((2 + 0) + 1))) H := hP
        have hD : va_D A (mW cI cJ cZ ma mo mn mw mt mv (mp.1 + 1, yupN mp.2.1 mp.1 x, upd mp.2.2.1 mp.1 (-4), upd mp.2.2.2.1 mp.1 0, upd mp.2.2.2.2 mp.1 ((2 + 0) + 1))) := hD
        refine lv_iload_n hx hb dX5_place_88 rfl (lv_at hl 0 rfl) ?_
        refine lv_iconst (v := 1) hx hb dX5_place_89 (by decide) ?_
        refine lv_isub hx hb dX5_place_90 ?_
        refine lv_istore_n (lv' := [(3, .int (nI mp.1 - 1)), (2, .int (nI mp.1)), (0, .ref (ma 0)), (1, .int (nI x))]) hx hb dX5_place_91 rfl hl (by decide) rfl (fun ls hl => ?_)
        exact hL92 mp.1 mp.1 (mp.1 + 1, yupN mp.2.1 mp.1 x, upd mp.2.2.1 mp.1 (-4), upd mp.2.2.2.1 mp.1 0, upd mp.2.2.2.2 mp.1 ((2 + 0) + 1)) _ _ _ (by omega) (by omega) hf (lv_sub hl [2, 3, 1, 0] rfl) hP hD hS
    · have hf := yf h8 hf
      refine lv_iconst (v := 1) hx hb dX5_place_56 (by decide) ?_
      refine lv_goto (tgt := 61) hx hb dX5_place_57 (by decide) ?_
      refine lv_iadd hx hb dX5_place_61 ?_
      refine lv_aload_n hx hb dX5_place_62 rfl (lv_at hl 1 rfl) ?_
      refine va_get (D := D) (ci := 5) (v := .ref (ma 4)) (C := RX5) (T := TX5) (N := 25) hx hb hts (yy_tl inX5) hown hK hP 0 rfl rfl 4 (by decide) (hw _ wq_489) (fun _ h9 => h9) rfl dX5_place_63 ?_
      refine lv_iload_n hx hb dX5_place_66 rfl (lv_at hl 2 rfl) ?_
      refine yr_iald hx hb hK hP 4 0 (f := mo.2.2.2.2) (j := x) rfl rfl rfl (by omega) (by decide) dX5_place_67 ?_
      refine lv_if_lt (tgt := 75) hx hb dX5_place_68 (by decide) (fun h10 => ?_) (fun h10 => ?_)
      · have hf := yt h10 hf
        refine lv_iconst (v := 0) hx hb dX5_place_75 (by decide) ?_
        refine lv_iadd hx hb dX5_place_76 ?_
        refine yr_iast hx hb hK hP hD hS 19 0 (f := mp.2.2.2.2) (j := mp.1) rfl rfl rfl (by omega) (by decide) dX5_place_77 (fun H locs hP hD hS => ?_)
        have hP : va_P D vwCl (mW cI cJ cZ ma mo mn mw mt mv (mp.1, yupN mp.2.1 mp.1 x, upd mp.2.2.1 mp.1 (-4), upd mp.2.2.2.1 mp.1 0, upd mp.2.2.2.2 mp.1 ((2 + 1) + 0))) H := hP
        have hD : va_D A (mW cI cJ cZ ma mo mn mw mt mv (mp.1, yupN mp.2.1 mp.1 x, upd mp.2.2.1 mp.1 (-4), upd mp.2.2.2.1 mp.1 0, upd mp.2.2.2.2 mp.1 ((2 + 1) + 0))) := hD
        refine lv_aload_n hx hb dX5_place_78 rfl (lv_at hl 1 rfl) ?_
        refine lv_dup hx hb dX5_place_79 rfl ?_
        refine va_get (D := D) (ci := 5) (v := .int (nI mp.1)) (C := RX5) (T := TX5) (N := 25) hx hb hts (yy_tl inX5) hown hK hP 0 rfl rfl 20 (by decide) (hw _ wq_505) (fun _ h9 => h9) rfl dX5_place_80 ?_
        refine lv_iconst (v := (nI 1)) hx hb dX5_place_83 (by decide) ?_
        refine yr_iaddN hx hb dX5_place_84 ?_
        refine va_put (D := D) (ci := 5) (v := .int (nI (mp.1 + 1))) (ty := .int) (C := RX5) (T := TX5) (N := 25) hx hb hts (yy_tl inX5) tyX5 tyX5_ok nX5 hown hK hP hD hS 0 rfl rfl 20 (by decide) (hw _ wq_505) (fun _ h9 => h9) rfl (by decide +kernel) rfl rfl (Nat.le_of_ble_eq_true rfl) dX5_place_85 (fun H locs hP hD hS => ?_)
        have hP : va_P D vwCl (mW cI cJ cZ ma mo mn mw mt mv (mp.1 + 1, yupN mp.2.1 mp.1 x, upd mp.2.2.1 mp.1 (-4), upd mp.2.2.2.1 mp.1 0, upd mp.2.2.2.2 mp.1 ((2 + 1) + 0))) H := hP
        have hD : va_D A (mW cI cJ cZ ma mo mn mw mt mv (mp.1 + 1, yupN mp.2.1 mp.1 x, upd mp.2.2.1 mp.1 (-4), upd mp.2.2.2.1 mp.1 0, upd mp.2.2.2.2 mp.1 ((2 + 1) + 0))) := hD
        refine lv_iload_n hx hb dX5_place_88 rfl (lv_at hl 0 rfl) ?_
        refine lv_iconst (v := 1) hx hb dX5_place_89 (by decide) ?_
        refine lv_isub hx hb dX5_place_90 ?_
        refine lv_istore_n (lv' := [(3, .int (nI mp.1 - 1)), (2, .int (nI mp.1)), (0, .ref (ma 0)), (1, .int (nI x))]) hx hb dX5_place_91 rfl hl (by decide) rfl (fun ls hl => ?_)
        exact hL92 mp.1 mp.1 (mp.1 + 1, yupN mp.2.1 mp.1 x, upd mp.2.2.1 mp.1 (-4), upd mp.2.2.2.1 mp.1 0, upd mp.2.2.2.2 mp.1 ((2 + 1) + 0)) _ _ _ (by omega) (by omega) hf (lv_sub hl [2, 3, 1, 0] rfl) hP hD hS
      · have hf := yf h10 hf
        refine lv_iconst (v := 1) hx hb dX5_place_71 (by decide) ?_
        refine lv_goto (tgt := 76) hx hb dX5_place_72 (by decide) ?_
        refine lv_iadd hx hb dX5_place_76 ?_
        refine yr_iast hx hb hK hP hD hS 19 0 (f := mp.2.2.2.2) (j := mp.1) rfl rfl rfl (by omega) (by decide) dX5_place_77 (fun H locs hP hD hS => ?_)
        have hP : va_P D vwCl (mW cI cJ cZ ma mo mn mw mt mv (mp.1, yupN mp.2.1 mp.1 x, upd mp.2.2.1 mp.1 (-4), upd mp.2.2.2.1 mp.1 0, upd mp.2.2.2.2 mp.1 ((2 + 1) + 1))) H := hP
        have hD : va_D A (mW cI cJ cZ ma mo mn mw mt mv (mp.1, yupN mp.2.1 mp.1 x, upd mp.2.2.1 mp.1 (-4), upd mp.2.2.2.1 mp.1 0, upd mp.2.2.2.2 mp.1 ((2 + 1) + 1))) := hD
        refine lv_aload_n hx hb dX5_place_78 rfl (lv_at hl 1 rfl) ?_
        refine lv_dup hx hb dX5_place_79 rfl ?_
        refine va_get (D := D) (ci := 5) (v := .int (nI mp.1)) (C := RX5) (T := TX5) (N := 25) hx hb hts (yy_tl inX5) hown hK hP 0 rfl rfl 20 (by decide) (hw _ wq_505) (fun _ h9 => h9) rfl dX5_place_80 ?_
        refine lv_iconst (v := (nI 1)) hx hb dX5_place_83 (by decide) ?_
        refine yr_iaddN hx hb dX5_place_84 ?_
        refine va_put (D := D) (ci := 5) (v := .int (nI (mp.1 + 1))) (ty := .int) (C := RX5) (T := TX5) (N := 25) hx hb hts (yy_tl inX5) tyX5 tyX5_ok nX5 hown hK hP hD hS 0 rfl rfl 20 (by decide) (hw _ wq_505) (fun _ h9 => h9) rfl (by decide +kernel) rfl rfl (Nat.le_of_ble_eq_true rfl) dX5_place_85 (fun H locs hP hD hS => ?_)
        have hP : va_P D vwCl (mW cI cJ cZ ma mo mn mw mt mv (mp.1 + 1, yupN mp.2.1 mp.1 x, upd mp.2.2.1 mp.1 (-4), upd mp.2.2.2.1 mp.1 0, upd mp.2.2.2.2 mp.1 ((2 + 1) + 1))) H := hP
        have hD : va_D A (mW cI cJ cZ ma mo mn mw mt mv (mp.1 + 1, yupN mp.2.1 mp.1 x, upd mp.2.2.1 mp.1 (-4), upd mp.2.2.2.1 mp.1 0, upd mp.2.2.2.2 mp.1 ((2 + 1) + 1))) := hD
        refine lv_iload_n hx hb dX5_place_88 rfl (lv_at hl 0 rfl) ?_
        refine lv_iconst (v := 1) hx hb dX5_place_89 (by decide) ?_
        refine lv_isub hx hb dX5_place_90 ?_
        refine lv_istore_n (lv' := [(3, .int (nI mp.1 - 1)), (2, .int (nI mp.1)), (0, .ref (ma 0)), (1, .int (nI x))]) hx hb dX5_place_91 rfl hl (by decide) rfl (fun ls hl => ?_)
        exact hL92 mp.1 mp.1 (mp.1 + 1, yupN mp.2.1 mp.1 x, upd mp.2.2.1 mp.1 (-4), upd mp.2.2.2.1 mp.1 0, upd mp.2.2.2.2 mp.1 ((2 + 1) + 1)) _ _ _ (by omega) (by omega) hf (lv_sub hl [2, 3, 1, 0] rfl) hP hD hS
  · have hf := yt h7 hf
    refine lv_bipush (v := 8) hx hb dX5_place_41 (by decide) ?_
    refine lv_goto (tgt := 77) hx hb dX5_place_43 (by decide) ?_
    refine yr_iast hx hb hK hP hD hS 19 0 (f := mp.2.2.2.2) (j := mp.1) rfl rfl rfl (by omega) (by decide) dX5_place_77 (fun H locs hP hD hS => ?_)
    have hP : va_P D vwCl (mW cI cJ cZ ma mo mn mw mt mv (mp.1, yupN mp.2.1 mp.1 x, upd mp.2.2.1 mp.1 (-4), upd mp.2.2.2.1 mp.1 0, upd mp.2.2.2.2 mp.1 8)) H := hP
    have hD : va_D A (mW cI cJ cZ ma mo mn mw mt mv (mp.1, yupN mp.2.1 mp.1 x, upd mp.2.2.1 mp.1 (-4), upd mp.2.2.2.1 mp.1 0, upd mp.2.2.2.2 mp.1 8)) := hD
    refine lv_aload_n hx hb dX5_place_78 rfl (lv_at hl 1 rfl) ?_
    refine lv_dup hx hb dX5_place_79 rfl ?_
    refine va_get (D := D) (ci := 5) (v := .int (nI mp.1)) (C := RX5) (T := TX5) (N := 25) hx hb hts (yy_tl inX5) hown hK hP 0 rfl rfl 20 (by decide) (hw _ wq_505) (fun _ h9 => h9) rfl dX5_place_80 ?_
    refine lv_iconst (v := (nI 1)) hx hb dX5_place_83 (by decide) ?_
    refine yr_iaddN hx hb dX5_place_84 ?_
    refine va_put (D := D) (ci := 5) (v := .int (nI (mp.1 + 1))) (ty := .int) (C := RX5) (T := TX5) (N := 25) hx hb hts (yy_tl inX5) tyX5 tyX5_ok nX5 hown hK hP hD hS 0 rfl rfl 20 (by decide) (hw _ wq_505) (fun _ h9 => h9) rfl (by decide +kernel) rfl rfl (Nat.le_of_ble_eq_true rfl) dX5_place_85 (fun H locs hP hD hS => ?_)
    have hP : va_P D vwCl (mW cI cJ cZ ma mo mn mw mt mv (mp.1 + 1, yupN mp.2.1 mp.1 x, upd mp.2.2.1 mp.1 (-4), upd mp.2.2.2.1 mp.1 0, upd mp.2.2.2.2 mp.1 8)) H := hP
    have hD : va_D A (mW cI cJ cZ ma mo mn mw mt mv (mp.1 + 1, yupN mp.2.1 mp.1 x, upd mp.2.2.1 mp.1 (-4), upd mp.2.2.2.1 mp.1 0, upd mp.2.2.2.2 mp.1 8)) := hD
    refine lv_iload_n hx hb dX5_place_88 rfl (lv_at hl 0 rfl) ?_
    refine lv_iconst (v := 1) hx hb dX5_place_89 (by decide) ?_
    refine lv_isub hx hb dX5_place_90 ?_
    refine lv_istore_n (lv' := [(3, .int (nI mp.1 - 1)), (2, .int (nI mp.1)), (0, .ref (ma 0)), (1, .int (nI x))]) hx hb dX5_place_91 rfl hl (by decide) rfl (fun ls hl => ?_)
    exact hL92 mp.1 mp.1 (mp.1 + 1, yupN mp.2.1 mp.1 x, upd mp.2.2.1 mp.1 (-4), upd mp.2.2.2.1 mp.1 0, upd mp.2.2.2.2 mp.1 8) _ _ _ (by omega) (by omega) hf (lv_sub hl [2, 3, 1, 0] rfl) hP hD hS

set_option maxHeartbeats 4000000 in
set_option maxRecDepth 100000 in
theorem c_md_pack (l : Launch) (D : va_G) (cI cJ cZ cN : ClassId) (ma : Nat → Nat) (set : Int64) (mo : MO) (mn : MN) (mw : MW) (mt : MT) (mv : (Nat → Int32)) (mp : MP) (ho : mo.1 ≤ 60) (res : MP) (hf : res = md_pack set mo mp) : yy_Met l yX5_pack wsX5_pack { frames := 1, cells := 0, slots := 0, locals := 25 } D vwCl (yT cI cJ cZ cN) [.ref (ma 0), .long set] (mW cI cJ cZ ma mo mn mw mt mv mp) none (mW cI cJ cZ ma mo mn mw mt mv res) := by
  intro sz
  refine Met.ofW (cc := cX5_pack) (maxL := 5) (ret := none) (by decide) rfl ?_
  intro p e s m args below meth c s₁ B hml hv
  obtain ⟨rfl, hsz, hP, hK, hD0, hN⟩ := hv
  have hx := B.exec
  have hb := B.bytes
  have hr := B.returns
  have hts := atoms_spec (ws := wsX5_pack) B.pre
  have hw : ∀ w ∈ yW, w.before _ s = true := fun w h => hts w (List.mem_cons_of_mem _ h)
  have hown : s.vm.findClass RX5 = some m.cls := findClass_of_methodNamed B.named
  have hlocks := B.notSynchronized
  subst hsz
  have hD := hD0.self (sz := s.heap.size)
  generalize hAe : va_A (mW cI cJ cZ ma mo mn mw mt mv mp) s.heap.size = A at hD ⊢
  have hA : ∀ q : Nat, s.heap.size ≤ q → A q := fun q h => by rw [← hAe]; exact Or.inr h
  have hS : va_S A s.heap s.heap [] := va_S.rf
  have hl := lv_entry ([.ref (ma 0), .long set]) (n := 5) (Nat.le_of_ble_eq_true rfl)
  rw [lg_entry_eq]
  generalize (lg_sl ([.ref (ma 0), .long set]) ++ List.replicate (5 - (lg_sl ([.ref (ma 0), .long set])).length) Slot.unset).toArray = ls at hl ⊢
  have hl : lv_has ls 5 [(0, .ref (ma 0)), (1, .long set)] := hl
  have hL19 : ∀ (kk : Nat)  (K : MP → MP) (hK0 : ∀ (mp : MP) (ls : Array Slot) (H : Heap) (locs : List Loc), (yc7 mo kk mp.1) → res = K mp → lv_has ls 5 [(0, .ref (ma 0)), (1, .long set), (3, .int (nI kk))] → va_P D vwCl (mW cI cJ cZ ma mo mn mw mt mv mp) H → va_D A (mW cI cJ cZ ma mo mn mw mt mv mp) → va_S A s.heap H locs → W p l e (headSpec wsX5_pack { frames := 1, cells := 0, slots := 0, locals := 25 }).room s m ([.ref (ma 0), .long set] : List Value).toArray below meth c H locs 0 0 (MQ below (yy_Q A D vwCl (yT cI cJ cZ cN) (mW cI cJ cZ ma mo mn mw mt mv res) none) ([.ref (ma 0), .long set] : List Value).toArray s 0 0 A) (F0 m 58 ls [])) (k : Nat) (mp : MP) (ls : Array Slot) (H : Heap) (locs : List Loc), k ≤ mo.1 → yc19 mo kk k mp.1 → res = md_pack_L19 set kk mo K k mp → lv_has ls 5 [(0, .ref (ma 0)), (1, .long set), (3, .int (nI kk)), (4, .int (nI k - 1))] → va_P D vwCl (mW cI cJ cZ ma mo mn mw mt mv mp) H → va_D A (mW cI cJ cZ ma mo mn mw mt mv mp) → va_S A s.heap H locs → W p l e (headSpec wsX5_pack { frames := 1, cells := 0, slots := 0, locals := 25 }).room s m ([.ref (ma 0), .long set] : List Value).toArray below meth c H locs 0 0 (MQ below (yy_Q A D vwCl (yT cI cJ cZ cN) (mW cI cJ cZ ma mo mn mw mt mv res) none) ([.ref (ma 0), .long set] : List Value).toArray s 0 0 A) (F0 m 19 ls []) := by
    intro kk K hK0
    intro k
    induction k with
    | zero =>
      intro mp ls H locs hi hv0 hf hl hP hD hS
      rw [md_pack_L19] at hf
      refine lv_iload hx hb dX5_pack_19 (lv_at hl 3 rfl) ?_
      refine lv_if_lt (tgt := 58) hx hb dX5_pack_21 (by decide) (fun _ => ?_) (fun h => absurd (by decide) h)
      exact hK0 mp _ _ _ (yc19_7 hv0) hf (lv_sub hl [0, 1, 2] rfl) hP hD hS
    | succ x ih =>
      intro mp ls H locs hi hv0 hf hl hP hD hS
      rw [md_pack_L19] at hf
      rw [nI_pred] at hl
      refine lv_iload hx hb dX5_pack_19 (lv_at hl 3 rfl) ?_
      refine lv_if_lt (tgt := 58) hx hb dX5_pack_21 (by decide) (fun h => absurd h (nI_pos (by omega))) (fun _ => ?_)
      refine lv_lload_n hx hb dX5_pack_24 rfl (lv_at hl 1 rfl) ?_
      refine lv_iload hx hb dX5_pack_25 (lv_at hl 3 rfl) ?_
      refine lv_lshr (v := ylshr set (nI x)) hx hb dX5_pack_27 rfl ?_
      refine lv_lconst (v := 1) hx hb dX5_pack_28 (by decide) ?_
      refine lv_land hx hb dX5_pack_29 ?_
      refine lv_lconst (v := 1) hx hb dX5_pack_30 (by decide) ?_
      refine W.lcmp hx hb dX5_pack_31 ?_
      refine lv_if_ne (tgt := 52) hx hb dX5_pack_32 (by decide) (fun h1 => ?_) (fun h1 => ?_)
      · have h1 := yy_cmp1 h1
        have hf := yf h1 hf
        refine lv_iinc (k := 3) (v := (nI x - 1)) (lv' := [(4, .int (nI x - 1)), (0, .ref (ma 0)), (1, .long set), (3, .int (nI kk))]) hx hb dX5_pack_52 hl rfl (yy_dec _) (by decide) rfl (fun ls hl => ?_)
        refine lv_goto (tgt := 19) hx hb dX5_pack_55 (by decide) ?_
        exact ih mp _ _ _ (by omega) (by first | exact yc19_s hv0 | exact yc19_q hv0 ‹_› ‹_ = md_place _ _ _›) hf (lv_sub hl [1, 2, 3, 0] rfl) hP hD hS
      · have h1 := yy_cmp0 h1
        have hf := yt h1 hf
        refine lv_aload_n hx hb dX5_pack_35 rfl (lv_at hl 0 rfl) ?_
        refine va_get (D := D) (ci := 5) (v := .ref (ma 1)) (C := RX5) (T := TX5) (N := 25) hx hb hts (yy_tl inX5) hown hK hP 0 rfl rfl 1 (by decide) (hw _ wq_486) (fun _ h9 => h9) rfl dX5_pack_36 ?_
        refine lv_iload hx hb dX5_pack_39 (lv_at hl 3 rfl) ?_
        refine yr_iald hx hb hK hP 1 0 (f := mo.2.1) (j := x) rfl rfl rfl (by omega) (by decide) dX5_pack_41 ?_
        refine lv_iload_n hx hb dX5_pack_42 rfl (lv_at hl 2 rfl) ?_
        refine lv_icmp_ne (tgt := 52) hx hb dX5_pack_43 (by decide) (fun h2 => ?_) (fun h2 => ?_)
        · have hf := yf h2 hf
          refine lv_iinc (k := 3) (v := (nI x - 1)) (lv' := [(4, .int (nI x - 1)), (0, .ref (ma 0)), (1, .long set), (3, .int (nI kk))]) hx hb dX5_pack_52 hl rfl (yy_dec _) (by decide) rfl (fun ls hl => ?_)
          refine lv_goto (tgt := 19) hx hb dX5_pack_55 (by decide) ?_
          exact ih mp _ _ _ (by omega) (by first | exact yc19_s hv0 | exact yc19_q hv0 ‹_› ‹_ = md_place _ _ _›) hf (lv_sub hl [1, 2, 3, 0] rfl) hP hD hS
        · have hf := yt h2 hf
          refine lv_aload_n hx hb dX5_pack_46 rfl (lv_at hl 0 rfl) ?_
          refine lv_iload hx hb dX5_pack_47 (lv_at hl 3 rfl) ?_
          obtain ⟨r3, er3⟩ : ∃ r, r = md_place x mo mp := ⟨_, rfl⟩
          have hf := yb_e er3 hf
          refine yz_callV (As := [.int (nI x)]) (rest := []) ⟨hx, hb, hml, hown, hts⟩ (c_md_place l D cI cJ cZ cN ma x mo mn mw mt mv mp ho (by omega) (yc19_p hv0 ‹_›).1 r3 er3) ⟨callB_of 1 hts (yy_good wq_644) rfl rfl rfl (hw _ wq_39) (hw _ wq_641) (by decide +kernel) ⟨Nat.le_of_ble_eq_true rfl, Nat.le_of_ble_eq_true rfl⟩, hw _ wq_643, hw _ wq_29⟩ hK hN hP hD hS hA [0, 1, 2, 3, 4, 5, 6, 7, 8, 9, 10, 11, 12, 13, 14, 15, 16, 17, 18, 19] rfl (by decide) rfl 20 rfl (w2 := (mW cI cJ cZ ma mo mn mw mt mv r3)) rfl 0 rfl rfl rfl hl.1 rfl (Nat.le_of_ble_eq_true rfl) dX5_pack_49 ⟨Nat.zero_le _, Nat.zero_le _⟩ (fun H locs hP hD hS => ?_)
          refine W.eq (g2 := F0 m 52 ls []) rfl ?_
          refine lv_iinc (k := 3) (v := (nI x - 1)) (lv' := [(4, .int (nI x - 1)), (0, .ref (ma 0)), (1, .long set), (3, .int (nI kk))]) hx hb dX5_pack_52 hl rfl (yy_dec _) (by decide) rfl (fun ls hl => ?_)
          refine lv_goto (tgt := 19) hx hb dX5_pack_55 (by decide) ?_
          exact ih r3 _ _ _ (by omega) (by first | exact yc19_s hv0 | exact yc19_q hv0 ‹_› ‹_ = md_place _ _ _›) hf (lv_sub hl [1, 2, 3, 0] rfl) hP hD hS
  have hL7 : ∀ (k : Nat) (mp : MP) (ls : Array Slot) (H : Heap) (locs : List Loc), k ≤ 3 → yc7 mo k mp.1 → res = md_pack_L7 set mo k mp → lv_has ls 5 [(0, .ref (ma 0)), (1, .long set), (3, .int (nI k - 1))] → va_P D vwCl (mW cI cJ cZ ma mo mn mw mt mv mp) H → va_D A (mW cI cJ cZ ma mo mn mw mt mv mp) → va_S A s.heap H locs → W p l e (headSpec wsX5_pack { frames := 1, cells := 0, slots := 0, locals := 25 }).room s m ([.ref (ma 0), .long set] : List Value).toArray below meth c H locs 0 0 (MQ below (yy_Q A D vwCl (yT cI cJ cZ cN) (mW cI cJ cZ ma mo mn mw mt mv res) none) ([.ref (ma 0), .long set] : List Value).toArray s 0 0 A) (F0 m 7 ls []) := by
    intro k
    induction k with
    | zero =>
      intro mp ls H locs hi hv0 hf hl hP hD hS
      rw [md_pack_L7] at hf
      refine lv_iload_n hx hb dX5_pack_7 rfl (lv_at hl 2 rfl) ?_
      refine lv_if_lt (tgt := 64) hx hb dX5_pack_8 (by decide) (fun _ => ?_) (fun h => absurd (by decide) h)
      subst hf
      exact yy_vret hx hb hr hP hK hS hlocks dX5_pack_64
    | succ kk ih =>
      intro mp ls H locs hi hv0 hf hl hP hD hS
      rw [md_pack_L7] at hf
      rw [nI_pred] at hl
      refine lv_iload_n hx hb dX5_pack_7 rfl (lv_at hl 2 rfl) ?_
      refine lv_if_lt (tgt := 64) hx hb dX5_pack_8 (by decide) (fun h => absurd h (nI_pos (by omega))) (fun _ => ?_)
      refine lv_aload_n hx hb dX5_pack_11 rfl (lv_at hl 0 rfl) ?_
      refine va_get (D := D) (ci := 5) (v := .int (nI mo.1)) (C := RX5) (T := TX5) (N := 25) hx hb hts (yy_tl inX5) hown hK hP 0 rfl rfl 0 (by decide) (hw _ wq_485) (fun _ h9 => h9) rfl dX5_pack_12 ?_
      refine lv_iconst (v := 1) hx hb dX5_pack_15 (by decide) ?_
      refine lv_isub hx hb dX5_pack_16 ?_
      refine lv_istore (lv' := [(4, .int (nI mo.1 - 1)), (0, .ref (ma 0)), (1, .long set), (3, .int (nI kk))]) hx hb dX5_pack_17 hl (by decide) rfl (fun ls hl => ?_)
      refine hL19 kk _ (fun mp ls H locs hz0 hf hl hP hD hS => ?_) mo.1 mp _ _ _ (by omega) (yc7_19 hv0) hf (lv_sub hl [1, 2, 3, 0] rfl) hP hD hS
      refine lv_iinc (k := 2) (v := (nI kk - 1)) (lv' := [(3, .int (nI kk - 1)), (0, .ref (ma 0)), (1, .long set)]) hx hb dX5_pack_58 hl rfl (yy_dec _) (by decide) rfl (fun ls hl => ?_)
      refine lv_goto (tgt := 7) hx hb dX5_pack_61 (by decide) ?_
      exact ih mp _ _ _ (by omega) hz0 hf (lv_sub hl [1, 2, 0] rfl) hP hD hS
  rw [md_pack] at hf
  refine lv_aload_n hx hb dX5_pack_0 rfl (lv_at hl 0 rfl) ?_
  refine lv_iconst (v := (nI 0)) hx hb dX5_pack_1 (by decide) ?_
  refine va_put (D := D) (ci := 5) (v := .int (nI 0)) (ty := .int) (C := RX5) (T := TX5) (N := 25) hx hb hts (yy_tl inX5) tyX5 tyX5_ok nX5 hown hK hP hD hS 0 rfl rfl 20 (by decide) (hw _ wq_505) (fun _ h9 => h9) rfl (by decide +kernel) rfl rfl (Nat.le_of_ble_eq_true rfl) dX5_pack_2 (fun H locs hP hD hS => ?_)
  have hP : va_P D vwCl (mW cI cJ cZ ma mo mn mw mt mv (0, mp.2.1, mp.2.2.1, mp.2.2.2.1, mp.2.2.2.2)) H := hP
  have hD : va_D A (mW cI cJ cZ ma mo mn mw mt mv (0, mp.2.1, mp.2.2.1, mp.2.2.2.1, mp.2.2.2.2)) := hD
  refine lv_iconst (v := (nI 3 - 1)) hx hb dX5_pack_5 (by decide) ?_
  refine lv_istore_n (lv' := [(3, .int (nI 3 - 1)), (0, .ref (ma 0)), (1, .long set)]) hx hb dX5_pack_6 rfl hl (by decide) rfl (fun ls hl => ?_)
  exact hL7 3 (0, mp.2.1, mp.2.2.1, mp.2.2.2.1, mp.2.2.2.2) _ _ _ (by omega) (yc7_0 ho) hf (lv_sub hl [1, 2, 0] rfl) hP hD hS

set_option maxHeartbeats 4000000 in
set_option maxRecDepth 100000 in
theorem c_md_allReach (l : Launch) (D : va_G) (cI cJ cZ cN : ClassId) (ma : Nat → Nat) (from_ : Int64) (to_ : Int64) (mo : MO) (mn : MN) (mw : MW) (mt : MT) (mv : (Nat → Int32)) (mp : MP) (ho : mo.1 ≤ 60) (res : Bool) (hf : res = md_allReach from_ to_ mo) : yy_Met l yX5_allReach wsX5_allReach { frames := 1, cells := 0, slots := 0, locals := 25 } D vwCl (yT cI cJ cZ cN) [.ref (ma 0), .long from_, .long to_] (mW cI cJ cZ ma mo mn mw mt mv mp) (some (.int (yB res))) (mW cI cJ cZ ma mo mn mw mt mv mp) := by
  intro sz
  refine Met.ofW (cc := cX5_allReach) (maxL := 6) (ret := (some .boolean)) (by decide) rfl ?_
  intro p e s m args below meth c s₁ B hml hv
  obtain ⟨rfl, hsz, hP, hK, hD0, hN⟩ := hv
  have hx := B.exec
  have hb := B.bytes
  have hr := B.returns
  have hts := atoms_spec (ws := wsX5_allReach) B.pre
  have hw : ∀ w ∈ yW, w.before _ s = true := fun w h => hts w (List.mem_cons_of_mem _ h)
  have hown : s.vm.findClass RX5 = some m.cls := findClass_of_methodNamed B.named
  have hlocks := B.notSynchronized
  subst hsz
  have hD := hD0.self (sz := s.heap.size)
  generalize hAe : va_A (mW cI cJ cZ ma mo mn mw mt mv mp) s.heap.size = A at hD ⊢
  have hA : ∀ q : Nat, s.heap.size ≤ q → A q := fun q h => by rw [← hAe]; exact Or.inr h
  have hS : va_S A s.heap s.heap [] := va_S.rf
  have hl := lv_entry ([.ref (ma 0), .long from_, .long to_]) (n := 6) (Nat.le_of_ble_eq_true rfl)
  rw [lg_entry_eq]
  generalize (lg_sl ([.ref (ma 0), .long from_, .long to_]) ++ List.replicate (6 - (lg_sl ([.ref (ma 0), .long from_, .long to_])).length) Slot.unset).toArray = ls at hl ⊢
  have hl : lv_has ls 6 [(0, .ref (ma 0)), (1, .long from_), (3, .long to_)] := hl
  have hL3 : ∀ (k : Nat) (i : Nat) (ls : Array Slot) (H : Heap) (locs : List Loc), i + k = mo.1 → res = md_allReach_L3 from_ to_ mo k i → lv_has ls 6 [(0, .ref (ma 0)), (1, .long from_), (3, .long to_), (5, .int (nI i))] → va_P D vwCl (mW cI cJ cZ ma mo mn mw mt mv mp) H → va_D A (mW cI cJ cZ ma mo mn mw mt mv mp) → va_S A s.heap H locs → W p l e (headSpec wsX5_allReach { frames := 1, cells := 0, slots := 0, locals := 25 }).room s m ([.ref (ma 0), .long from_, .long to_] : List Value).toArray below meth c H locs 0 0 (MQ below (yy_Q A D vwCl (yT cI cJ cZ cN) (mW cI cJ cZ ma mo mn mw mt mv mp) (some (.int (yB res)))) ([.ref (ma 0), .long from_, .long to_] : List Value).toArray s 0 0 A) (F0 m 3 ls []) := by
    intro k
    induction k with
    | zero =>
      intro i ls H locs hi hf hl hP hD hS
      rw [md_allReach_L3] at hf
      refine lv_iload hx hb dX5_allReach_3 (lv_at hl 3 rfl) ?_
      refine lv_aload_n hx hb dX5_allReach_5 rfl (lv_at hl 0 rfl) ?_
      refine va_get (D := D) (ci := 5) (v := .int (nI mo.1)) (C := RX5) (T := TX5) (N := 25) hx hb hts (yy_tl inX5) hown hK hP 0 rfl rfl 0 (by decide) (hw _ wq_485) (fun _ h9 => h9) rfl dX5_allReach_6 ?_
      refine lv_icmp_ge (tgt := 46) hx hb dX5_allReach_9 (by decide) (fun _ => ?_) (fun h => absurd (nI_le (by omega) (by omega)) h)
      refine lv_iconst (v := 1) hx hb dX5_allReach_46 (by decide) ?_
      subst hf
      exact yy_zret (v := yB true) hx hb hr (yB_n _) hP hK hS hlocks dX5_allReach_47
    | succ k ih =>
      intro i ls H locs hi hf hl hP hD hS
      rw [md_allReach_L3] at hf
      refine lv_iload hx hb dX5_allReach_3 (lv_at hl 3 rfl) ?_
      refine lv_aload_n hx hb dX5_allReach_5 rfl (lv_at hl 0 rfl) ?_
      refine va_get (D := D) (ci := 5) (v := .int (nI mo.1)) (C := RX5) (T := TX5) (N := 25) hx hb hts (yy_tl inX5) hown hK hP 0 rfl rfl 0 (by decide) (hw _ wq_485) (fun _ h9 => h9) rfl dX5_allReach_6 ?_
      refine lv_icmp_ge (tgt := 46) hx hb dX5_allReach_9 (by decide) (fun h => absurd h (nI_ge (by omega) (by omega))) (fun _ => ?_)
      refine lv_lload_n hx hb dX5_allReach_12 rfl (lv_at hl 1 rfl) ?_
      refine lv_iload hx hb dX5_allReach_13 (lv_at hl 3 rfl) ?_
      refine lv_lshr (v := ylshr from_ (nI i)) hx hb dX5_allReach_15 rfl ?_
      refine lv_lconst (v := 1) hx hb dX5_allReach_16 (by decide) ?_
      refine lv_land hx hb dX5_allReach_17 ?_
      refine lv_lconst (v := 1) hx hb dX5_allReach_18 (by decide) ?_
      refine W.lcmp hx hb dX5_allReach_19 ?_
      refine lv_if_ne (tgt := 40) hx hb dX5_allReach_20 (by decide) (fun h1 => ?_) (fun h1 => ?_)
      · have h1 := yy_cmp1 h1
        have hf := yf h1 hf
        refine lv_iinc (k := 3) (v := (nI (i + 1))) (lv' := [(5, .int (nI (i + 1))), (0, .ref (ma 0)), (1, .long from_), (3, .long to_)]) hx hb dX5_allReach_40 hl rfl (yy_inc _) (by decide) rfl (fun ls hl => ?_)
        refine lv_goto (tgt := 3) hx hb dX5_allReach_43 (by decide) ?_
        exact ih (i + 1) _ _ _ (by omega) hf (lv_sub hl [1, 2, 3, 0] rfl) hP hD hS
      · have h1 := yy_cmp0 h1
        have hf := yt h1 hf
        refine lv_aload_n hx hb dX5_allReach_23 rfl (lv_at hl 0 rfl) ?_
        refine lv_lconst (v := 1) hx hb dX5_allReach_24 (by decide) ?_
        refine lv_iload hx hb dX5_allReach_25 (lv_at hl 3 rfl) ?_
        refine lv_lshl (v := ylshl 1 (nI i)) hx hb dX5_allReach_27 rfl ?_
        obtain ⟨r2, er2⟩ : ∃ r, r = md_reach (ylshl 1 (nI i)) mo := ⟨_, rfl⟩
        have hf := yb_e er2 hf
        refine yz_callV (As := [.long (ylshl 1 (nI i))]) (rest := []) ⟨hx, hb, hml, hown, hts⟩ (c_md_reach l D cI cJ cZ cN ma (ylshl 1 (nI i)) mo mn mw mt mv mp (by (try dsimp only) <;> omega) r2 er2) ⟨callB_of 1 hts (yy_good wq_628) rfl rfl rfl (hw _ wq_39) (hw _ wq_625) (by decide +kernel) ⟨Nat.le_of_ble_eq_true rfl, Nat.le_of_ble_eq_true rfl⟩, hw _ wq_627, hw _ wq_26⟩ hK hN hP hD hS hA [0, 1, 2, 3, 4, 5, 6, 7, 8, 9, 10, 11, 12, 13, 14, 15, 16, 17, 18, 19] rfl (by decide) rfl 20 rfl (w2 := (mW cI cJ cZ ma mo mn mw mt mv mp)) rfl 0 rfl rfl rfl hl.1 rfl (Nat.le_of_ble_eq_true rfl) dX5_allReach_28 ⟨Nat.zero_le _, Nat.zero_le _⟩ (fun H locs hP hD hS => ?_)
        refine W.eq (g2 := F0 m 31 ls [.long r2]) rfl ?_
        refine lv_lload_n hx hb dX5_allReach_31 rfl (lv_at hl 2 rfl) ?_
        refine lv_land hx hb dX5_allReach_32 ?_
        refine lv_lconst (v := 0) hx hb dX5_allReach_33 (by decide) ?_
        refine W.lcmp hx hb dX5_allReach_34 ?_
        refine lv_if_ne (tgt := 40) hx hb dX5_allReach_35 (by decide) (fun h3 => ?_) (fun h3 => ?_)
        · have h3 := yy_cmp1 h3
          have hf := yf h3 hf
          refine lv_iinc (k := 3) (v := (nI (i + 1))) (lv' := [(5, .int (nI (i + 1))), (0, .ref (ma 0)), (1, .long from_), (3, .long to_)]) hx hb dX5_allReach_40 hl rfl (yy_inc _) (by decide) rfl (fun ls hl => ?_)
          refine lv_goto (tgt := 3) hx hb dX5_allReach_43 (by decide) ?_
          exact ih (i + 1) _ _ _ (by omega) hf (lv_sub hl [1, 2, 3, 0] rfl) hP hD hS
        · have h3 := yy_cmp0 h3
          have hf := yt h3 hf
          refine lv_iconst (v := 0) hx hb dX5_allReach_38 (by decide) ?_
          subst hf
          exact yy_zret (v := yB false) hx hb hr (yB_n _) hP hK hS hlocks dX5_allReach_39
  rw [md_allReach] at hf
  refine lv_iconst (v := (nI 0)) hx hb dX5_allReach_0 (by decide) ?_
  refine lv_istore (lv' := [(5, .int (nI 0)), (0, .ref (ma 0)), (1, .long from_), (3, .long to_)]) hx hb dX5_allReach_1 hl (by decide) rfl (fun ls hl => ?_)
  exact hL3 mo.1 0 _ _ _ (by omega) hf (lv_sub hl [1, 2, 3, 0] rfl) hP hD hS

set_option maxHeartbeats 4000000 in
set_option maxRecDepth 100000 in
theorem c_md_converse (l : Launch) (D : va_G) (cI cJ cZ cN : ClassId) (ma : Nat → Nat) (nk : Nat) (wants : Int64) (mo : MO) (mn : MN) (mw : MW) (mt : MT) (mv : (Nat → Int32)) (mp : MP) (hk3 : nk < 3) (ho : mo.1 ≤ 60) (res : Int64 × MT) (hf : res = md_converse nk wants mo mn mt) : yy_Met l yX5_converse wsX5_converse { frames := 2, cells := 0, slots := 0, locals := 50 } D vwCl (yT cI cJ cZ cN) [.ref (ma 0), .int (nI nk), .long wants] (mW cI cJ cZ ma mo mn mw mt mv mp) (some (.long res.1)) (mW cI cJ cZ ma mo mn mw res.2 mv mp) := by
  intro sz
  refine Met.ofW (cc := cX5_converse) (maxL := 15) (ret := (some .long)) (by decide) rfl ?_
  intro p e s m args below meth c s₁ B hml hv
  obtain ⟨rfl, hsz, hP, hK, hD0, hN⟩ := hv
  have hx := B.exec
  have hb := B.bytes
  have hr := B.returns
  have hts := atoms_spec (ws := wsX5_converse) B.pre
  have hw : ∀ w ∈ yW, w.before _ s = true := fun w h => hts w (List.mem_cons_of_mem _ h)
  have hown : s.vm.findClass RX5 = some m.cls := findClass_of_methodNamed B.named
  have hlocks := B.notSynchronized
  subst hsz
  have hD := hD0.self (sz := s.heap.size)
  generalize hAe : va_A (mW cI cJ cZ ma mo mn mw mt mv mp) s.heap.size = A at hD ⊢
  have hA : ∀ q : Nat, s.heap.size ≤ q → A q := fun q h => by rw [← hAe]; exact Or.inr h
  have hS : va_S A s.heap s.heap [] := va_S.rf
  have hl := lv_entry ([.ref (ma 0), .int (nI nk), .long wants]) (n := 15) (Nat.le_of_ble_eq_true rfl)
  rw [lg_entry_eq]
  generalize (lg_sl ([.ref (ma 0), .int (nI nk), .long wants]) ++ List.replicate (15 - (lg_sl ([.ref (ma 0), .int (nI nk), .long wants])).length) Slot.unset).toArray = ls at hl ⊢
  have hl : lv_has ls 15 [(0, .ref (ma 0)), (1, .int (nI nk)), (2, .long wants)] := hl
  have hL97 : ∀ (known : Int64) (i : Nat) (mt : MT) (K : Int64 → Int32 → Int64 → (Int64 × MT)) (hK0 : ∀ (opn : Int64) (sent : Int32) (now : Int64) (ls : Array Slot) (H : Heap) (locs : List Loc), res = K opn sent now → lv_has ls 15 [(0, .ref (ma 0)), (1, .int (nI nk)), (2, .long wants), (4, .long known), (6, .long opn), (10, .int (nI i)), (11, .int sent), (12, .long now)] → va_P D vwCl (mW cI cJ cZ ma mo mn mw mt mv mp) H → va_D A (mW cI cJ cZ ma mo mn mw mt mv mp) → va_S A s.heap H locs → W p l e (headSpec wsX5_converse { frames := 2, cells := 0, slots := 0, locals := 50 }).room s m ([.ref (ma 0), .int (nI nk), .long wants] : List Value).toArray below meth c H locs 0 0 (MQ below (yy_Q A D vwCl (yT cI cJ cZ cN) (mW cI cJ cZ ma mo mn mw res.2 mv mp) (some (.long res.1))) ([.ref (ma 0), .int (nI nk), .long wants] : List Value).toArray s 0 0 A) (F0 m 166 ls [])) (k : Nat) (opn : Int64) (sent : Int32) (now : Int64) (ls : Array Slot) (H : Heap) (locs : List Loc), k ≤ mo.1 → res = md_converse_L97 mo mn K k opn sent now → lv_has ls 15 [(0, .ref (ma 0)), (1, .int (nI nk)), (2, .long wants), (4, .long known), (6, .long opn), (10, .int (nI i)), (11, .int sent), (12, .long now), (14, .int (nI k - 1))] → va_P D vwCl (mW cI cJ cZ ma mo mn mw mt mv mp) H → va_D A (mW cI cJ cZ ma mo mn mw mt mv mp) → va_S A s.heap H locs → W p l e (headSpec wsX5_converse { frames := 2, cells := 0, slots := 0, locals := 50 }).room s m ([.ref (ma 0), .int (nI nk), .long wants] : List Value).toArray below meth c H locs 0 0 (MQ below (yy_Q A D vwCl (yT cI cJ cZ cN) (mW cI cJ cZ ma mo mn mw res.2 mv mp) (some (.long res.1))) ([.ref (ma 0), .int (nI nk), .long wants] : List Value).toArray s 0 0 A) (F0 m 97 ls []) := by
    intro known i mt K hK0
    intro k
    induction k with
    | zero =>
      intro opn sent now ls H locs hi hf hl hP hD hS
      rw [md_converse_L97] at hf
      refine lv_iload hx hb dX5_converse_97 (lv_at hl 8 rfl) ?_
      refine lv_if_lt (tgt := 166) hx hb dX5_converse_99 (by decide) (fun _ => ?_) (fun h => absurd (by decide) h)
      exact hK0 opn sent now _ _ _ hf (lv_sub hl [0, 1, 2, 3, 4, 5, 6, 7] rfl) hP hD hS
    | succ x ih =>
      intro opn sent now ls H locs hi hf hl hP hD hS
      rw [md_converse_L97] at hf
      rw [nI_pred] at hl
      refine lv_iload hx hb dX5_converse_97 (lv_at hl 8 rfl) ?_
      refine lv_if_lt (tgt := 166) hx hb dX5_converse_99 (by decide) (fun h => absurd h (nI_pos (by omega))) (fun _ => ?_)
      refine lv_iload hx hb dX5_converse_102 (lv_at hl 6 rfl) ?_
      refine lv_iconst (v := 3) hx hb dX5_converse_104 (by decide) ?_
      refine lv_icmp_ge (tgt := 160) hx hb dX5_converse_105 (by decide) (fun h1 => ?_) (fun h1 => ?_)
      · have hf := yt h1 hf
        refine lv_iinc (k := 8) (v := (nI x - 1)) (lv' := [(14, .int (nI x - 1)), (0, .ref (ma 0)), (1, .int (nI nk)), (2, .long wants), (4, .long known), (6, .long opn), (10, .int (nI i)), (11, .int sent), (12, .long now)]) hx hb dX5_converse_160 hl rfl (yy_dec _) (by decide) rfl (fun ls hl => ?_)
        refine lv_goto (tgt := 97) hx hb dX5_converse_163 (by decide) ?_
        exact ih opn sent now _ _ _ (by omega) hf (lv_sub hl [1, 2, 3, 4, 5, 6, 7, 8, 0] rfl) hP hD hS
      · have hf := yf h1 hf
        refine lv_lload hx hb dX5_converse_108 (lv_at hl 4 rfl) ?_
        refine lv_iload hx hb dX5_converse_110 (lv_at hl 8 rfl) ?_
        refine lv_lshr (v := ylshr opn (nI x)) hx hb dX5_converse_112 rfl ?_
        refine lv_lconst (v := 1) hx hb dX5_converse_113 (by decide) ?_
        refine lv_land hx hb dX5_converse_114 ?_
        refine lv_lconst (v := 1) hx hb dX5_converse_115 (by decide) ?_
        refine W.lcmp hx hb dX5_converse_116 ?_
        refine lv_if_ne (tgt := 160) hx hb dX5_converse_117 (by decide) (fun h2 => ?_) (fun h2 => ?_)
        · have h2 := yy_cmp1 h2
          have hf := yf h2 hf
          refine lv_iinc (k := 8) (v := (nI x - 1)) (lv' := [(14, .int (nI x - 1)), (0, .ref (ma 0)), (1, .int (nI nk)), (2, .long wants), (4, .long known), (6, .long opn), (10, .int (nI i)), (11, .int sent), (12, .long now)]) hx hb dX5_converse_160 hl rfl (yy_dec _) (by decide) rfl (fun ls hl => ?_)
          refine lv_goto (tgt := 97) hx hb dX5_converse_163 (by decide) ?_
          exact ih opn sent now _ _ _ (by omega) hf (lv_sub hl [1, 2, 3, 4, 5, 6, 7, 8, 0] rfl) hP hD hS
        · have h2 := yy_cmp0 h2
          have hf := yt h2 hf
          refine lv_iinc (k := 6) (v := (sent + 1)) (lv' := [(11, .int (sent + 1)), (0, .ref (ma 0)), (1, .int (nI nk)), (2, .long wants), (4, .long known), (6, .long opn), (10, .int (nI i)), (12, .long now), (14, .int (nI x))]) hx hb dX5_converse_120 hl rfl (yy_incI _) (by decide) rfl (fun ls hl => ?_)
          refine lv_lload hx hb dX5_converse_123 (lv_at hl 5 rfl) ?_
          refine lv_lconst (v := 1) hx hb dX5_converse_125 (by decide) ?_
          refine lv_iload hx hb dX5_converse_126 (lv_at hl 8 rfl) ?_
          refine lv_lshl (v := ylshl 1 (nI x)) hx hb dX5_converse_128 rfl ?_
          refine lv_ldc2 (v := (-1)) hx hb hown (hw _ wq_629) dX5_converse_129 ?_
          refine lv_lxor hx hb dX5_converse_132 ?_
          refine lv_land hx hb dX5_converse_133 ?_
          refine lv_lstore (lv' := [(6, .long (opn &&& ((ylshl 1 (nI x)) ^^^ (-1)))), (11, .int (sent + 1)), (0, .ref (ma 0)), (1, .int (nI nk)), (2, .long wants), (4, .long known), (10, .int (nI i)), (12, .long now), (14, .int (nI x))]) hx hb dX5_converse_134 hl (by decide) rfl (fun ls hl => ?_)
          refine lv_aload_n hx hb dX5_converse_136 rfl (lv_at hl 2 rfl) ?_
          refine lv_iconst (v := (nI 0)) hx hb dX5_converse_137 (by decide) ?_
          refine lv_iload hx hb dX5_converse_138 (lv_at hl 8 rfl) ?_
          obtain ⟨r3, er3⟩ : ∃ r, r = md_has 0 (nI x) mo mn := ⟨_, rfl⟩
          have hf := yb_e er3 hf
          refine yz_callV (As := [.int (nI 0), .int (nI x)]) (rest := []) ⟨hx, hb, hml, hown, hts⟩ (c_md_has l D cI cJ cZ cN ma 0 (nI x) mo mn mw mt mv mp (by (try dsimp only) <;> omega) r3 er3) ⟨callB_of 2 hts (yy_good wq_576) rfl rfl rfl (hw _ wq_39) (hw _ wq_573) (by decide +kernel) ⟨Nat.le_of_ble_eq_true rfl, Nat.le_of_ble_eq_true rfl⟩, hw _ wq_575, hw _ wq_17⟩ hK hN hP hD hS hA [0, 1, 2, 3, 4, 5, 6, 7, 8, 9, 10, 11, 12, 13, 14, 15, 16, 17, 18, 19] rfl (by decide) rfl 20 rfl (w2 := (mW cI cJ cZ ma mo mn mw mt mv mp)) rfl 0 rfl rfl rfl hl.1 rfl (Nat.le_of_ble_eq_true rfl) dX5_converse_140 ⟨Nat.zero_le _, Nat.zero_le _⟩ (fun H locs hP hD hS => ?_)
          refine W.eq (g2 := F0 m 143 ls [.int (yB r3)]) rfl ?_
          refine lv_if_eq (tgt := 156) hx hb dX5_converse_143 (by decide) (fun h4 => ?_) (fun h4 => ?_)
          · have h4 := yB_0.mp h4
            have hf := yBf h4 hf
            refine lv_lload hx hb dX5_converse_156 (lv_at hl 7 rfl) ?_
            refine lv_lstore (lv' := [(12, .long now), (6, .long (opn &&& ((ylshl 1 (nI x)) ^^^ (-1)))), (11, .int (sent + 1)), (0, .ref (ma 0)), (1, .int (nI nk)), (2, .long wants), (4, .long known), (10, .int (nI i)), (14, .int (nI x))]) hx hb dX5_converse_158 hl (by decide) rfl (fun ls hl => ?_)
            refine lv_iinc (k := 8) (v := (nI x - 1)) (lv' := [(14, .int (nI x - 1)), (12, .long now), (6, .long (opn &&& ((ylshl 1 (nI x)) ^^^ (-1)))), (11, .int (sent + 1)), (0, .ref (ma 0)), (1, .int (nI nk)), (2, .long wants), (4, .long known), (10, .int (nI i))]) hx hb dX5_converse_160 hl rfl (yy_dec _) (by decide) rfl (fun ls hl => ?_)
            refine lv_goto (tgt := 97) hx hb dX5_converse_163 (by decide) ?_
            exact ih (opn &&& ((ylshl 1 (nI x)) ^^^ (-1))) (sent + 1) now _ _ _ (by omega) hf (lv_sub hl [4, 5, 6, 7, 2, 8, 3, 1, 0] rfl) hP hD hS
          · have h4 := yB_1 h4
            have hf := yBt h4 hf
            refine lv_lload hx hb dX5_converse_146 (lv_at hl 7 rfl) ?_
            refine lv_lconst (v := 1) hx hb dX5_converse_148 (by decide) ?_
            refine lv_iload hx hb dX5_converse_149 (lv_at hl 8 rfl) ?_
            refine lv_lshl (v := ylshl 1 (nI x)) hx hb dX5_converse_151 rfl ?_
            refine lv_lor hx hb dX5_converse_152 ?_
            refine lv_goto (tgt := 158) hx hb dX5_converse_153 (by decide) ?_
            refine lv_lstore (lv' := [(12, .long (now ||| (ylshl 1 (nI x)))), (6, .long (opn &&& ((ylshl 1 (nI x)) ^^^ (-1)))), (11, .int (sent + 1)), (0, .ref (ma 0)), (1, .int (nI nk)), (2, .long wants), (4, .long known), (10, .int (nI i)), (14, .int (nI x))]) hx hb dX5_converse_158 hl (by decide) rfl (fun ls hl => ?_)
            refine lv_iinc (k := 8) (v := (nI x - 1)) (lv' := [(14, .int (nI x - 1)), (12, .long (now ||| (ylshl 1 (nI x)))), (6, .long (opn &&& ((ylshl 1 (nI x)) ^^^ (-1)))), (11, .int (sent + 1)), (0, .ref (ma 0)), (1, .int (nI nk)), (2, .long wants), (4, .long known), (10, .int (nI i))]) hx hb dX5_converse_160 hl rfl (yy_dec _) (by decide) rfl (fun ls hl => ?_)
            refine lv_goto (tgt := 97) hx hb dX5_converse_163 (by decide) ?_
            exact ih (opn &&& ((ylshl 1 (nI x)) ^^^ (-1))) (sent + 1) (now ||| (ylshl 1 (nI x))) _ _ _ (by omega) hf (lv_sub hl [4, 5, 6, 7, 2, 8, 3, 1, 0] rfl) hP hD hS
  have hL69 : ∀ (k : Nat) (i : Nat) (known : Int64) (opn : Int64) (mt : MT) (ls : Array Slot) (H : Heap) (locs : List Loc), i + k = 60 → res = md_converse_L69 wants mo mn k i known opn mt → lv_has ls 15 [(0, .ref (ma 0)), (1, .int (nI nk)), (2, .long wants), (4, .long known), (6, .long opn), (10, .int (nI i))] → va_P D vwCl (mW cI cJ cZ ma mo mn mw mt mv mp) H → va_D A (mW cI cJ cZ ma mo mn mw mt mv mp) → va_S A s.heap H locs → W p l e (headSpec wsX5_converse { frames := 2, cells := 0, slots := 0, locals := 50 }).room s m ([.ref (ma 0), .int (nI nk), .long wants] : List Value).toArray below meth c H locs 0 0 (MQ below (yy_Q A D vwCl (yT cI cJ cZ cN) (mW cI cJ cZ ma mo mn mw res.2 mv mp) (some (.long res.1))) ([.ref (ma 0), .int (nI nk), .long wants] : List Value).toArray s 0 0 A) (F0 m 69 ls []) := by
    intro k
    induction k with
    | zero =>
      intro i known opn mt ls H locs hi hf hl hP hD hS
      rw [md_converse_L69] at hf
      refine lv_iload hx hb dX5_converse_69 (lv_at hl 5 rfl) ?_
      refine lv_bipush (v := (nI 60)) hx hb dX5_converse_71 (by decide) ?_
      refine lv_icmp_ge (tgt := 242) hx hb dX5_converse_73 (by decide) (fun _ => ?_) (fun h => absurd (nI_le (by omega) (by omega)) h)
      refine lv_lload hx hb dX5_converse_242 (lv_at hl 3 rfl) ?_
      subst hf
      exact yy_lret (v := known) hx hb hr hP hK hS hlocks dX5_converse_244
    | succ k ih =>
      intro i known opn mt ls H locs hi hf hl hP hD hS
      rw [md_converse_L69] at hf
      refine lv_iload hx hb dX5_converse_69 (lv_at hl 5 rfl) ?_
      refine lv_bipush (v := (nI 60)) hx hb dX5_converse_71 (by decide) ?_
      refine lv_icmp_ge (tgt := 242) hx hb dX5_converse_73 (by decide) (fun h => absurd h (nI_ge (by omega) (by omega))) (fun _ => ?_)
      refine lv_lload hx hb dX5_converse_76 (lv_at hl 4 rfl) ?_
      refine lv_lconst (v := 0) hx hb dX5_converse_78 (by decide) ?_
      refine W.lcmp hx hb dX5_converse_79 ?_
      refine lv_if_eq (tgt := 242) hx hb dX5_converse_80 (by decide) (fun h5 => ?_) (fun h5 => ?_)
      · have h5 := yy_cmp0 h5
        have hf := yt h5 hf
        refine lv_lload hx hb dX5_converse_242 (lv_at hl 3 rfl) ?_
        subst hf
        exact yy_lret (v := known) hx hb hr hP hK hS hlocks dX5_converse_244
      · have h5 := yy_cmp1 h5
        have hf := yf h5 hf
        refine lv_iconst (v := 0) hx hb dX5_converse_83 (by decide) ?_
        refine lv_istore (lv' := [(11, .int 0), (0, .ref (ma 0)), (1, .int (nI nk)), (2, .long wants), (4, .long known), (6, .long opn), (10, .int (nI i))]) hx hb dX5_converse_84 hl (by decide) rfl (fun ls hl => ?_)
        refine lv_lconst (v := 0) hx hb dX5_converse_86 (by decide) ?_
        refine lv_lstore (lv' := [(12, .long 0), (11, .int 0), (0, .ref (ma 0)), (1, .int (nI nk)), (2, .long wants), (4, .long known), (6, .long opn), (10, .int (nI i))]) hx hb dX5_converse_87 hl (by decide) rfl (fun ls hl => ?_)
        refine lv_aload_n hx hb dX5_converse_89 rfl (lv_at hl 2 rfl) ?_
        refine va_get (D := D) (ci := 5) (v := .int (nI mo.1)) (C := RX5) (T := TX5) (N := 25) hx hb hts (yy_tl inX5) hown hK hP 0 rfl rfl 0 (by decide) (hw _ wq_485) (fun _ h9 => h9) rfl dX5_converse_90 ?_
        refine lv_iconst (v := 1) hx hb dX5_converse_93 (by decide) ?_
        refine lv_isub hx hb dX5_converse_94 ?_
        refine lv_istore (lv' := [(14, .int (nI mo.1 - 1)), (12, .long 0), (11, .int 0), (0, .ref (ma 0)), (1, .int (nI nk)), (2, .long wants), (4, .long known), (6, .long opn), (10, .int (nI i))]) hx hb dX5_converse_95 hl (by decide) rfl (fun ls hl => ?_)
        refine hL97 known i mt _ (fun opn sent now ls H locs hf hl hP hD hS => ?_) mo.1 opn 0 0 _ _ _ (by omega) hf (lv_sub hl [3, 4, 5, 6, 7, 8, 2, 1, 0] rfl) hP hD hS
        refine lv_aload_n hx hb dX5_converse_166 rfl (lv_at hl 0 rfl) ?_
        refine lv_dup hx hb dX5_converse_167 rfl ?_
        refine va_get (D := D) (ci := 5) (v := .int mt.2.2) (C := RX5) (T := TX5) (N := 25) hx hb hts (yy_tl inX5) hown hK hP 0 rfl rfl 18 (by decide) (hw _ wq_503) (fun _ h9 => h9) rfl dX5_converse_168 ?_
        refine lv_iconst (v := 1) hx hb dX5_converse_171 (by decide) ?_
        refine lv_iadd hx hb dX5_converse_172 ?_
        refine va_put (D := D) (ci := 5) (v := .int (mt.2.2 + 1)) (ty := .int) (C := RX5) (T := TX5) (N := 25) hx hb hts (yy_tl inX5) tyX5 tyX5_ok nX5 hown hK hP hD hS 0 rfl rfl 18 (by decide) (hw _ wq_503) (fun _ h9 => h9) rfl (by decide +kernel) rfl rfl (Nat.le_of_ble_eq_true rfl) dX5_converse_173 (fun H locs hP hD hS => ?_)
        have hP : va_P D vwCl (mW cI cJ cZ ma mo mn mw (mt.1, mt.2.1, (mt.2.2 + 1)) mv mp) H := hP
        have hD : va_D A (mW cI cJ cZ ma mo mn mw (mt.1, mt.2.1, (mt.2.2 + 1)) mv mp) := hD
        refine lv_aload_n hx hb dX5_converse_176 rfl (lv_at hl 0 rfl) ?_
        refine lv_aload_n hx hb dX5_converse_177 rfl (lv_at hl 0 rfl) ?_
        refine va_get (D := D) (ci := 5) (v := .int mt.1) (C := RX5) (T := TX5) (N := 25) hx hb hts (yy_tl inX5) hown hK hP 0 rfl rfl 16 (by decide) (hw _ wq_501) (fun _ h9 => h9) rfl dX5_converse_178 ?_
        refine lv_iload hx hb dX5_converse_181 (lv_at hl 6 rfl) ?_
        refine lv_iadd hx hb dX5_converse_183 ?_
        refine va_put (D := D) (ci := 5) (v := .int (mt.1 + sent)) (ty := .int) (C := RX5) (T := TX5) (N := 25) hx hb hts (yy_tl inX5) tyX5 tyX5_ok nX5 hown hK hP hD hS 0 rfl rfl 16 (by decide) (hw _ wq_501) (fun _ h9 => h9) rfl (by decide +kernel) rfl rfl (Nat.le_of_ble_eq_true rfl) dX5_converse_184 (fun H locs hP hD hS => ?_)
        have hP : va_P D vwCl (mW cI cJ cZ ma mo mn mw ((mt.1 + sent), mt.2.1, (mt.2.2 + 1)) mv mp) H := hP
        have hD : va_D A (mW cI cJ cZ ma mo mn mw ((mt.1 + sent), mt.2.1, (mt.2.2 + 1)) mv mp) := hD
        refine lv_aload_n hx hb dX5_converse_187 rfl (lv_at hl 0 rfl) ?_
        refine lv_aload_n hx hb dX5_converse_188 rfl (lv_at hl 0 rfl) ?_
        refine va_get (D := D) (ci := 5) (v := .int mt.2.1) (C := RX5) (T := TX5) (N := 25) hx hb hts (yy_tl inX5) hown hK hP 0 rfl rfl 17 (by decide) (hw _ wq_502) (fun _ h9 => h9) rfl dX5_converse_189 ?_
        refine lv_lload hx hb dX5_converse_192 (lv_at hl 7 rfl) ?_
        obtain ⟨r6, er6⟩ : ∃ r, r = md_many now := ⟨_, rfl⟩
        have hf := yb_e er6 hf
        refine yz_callS (As := [.long now]) (rest := [.int mt.2.1, .ref (ma 0)]) ⟨hx, hb, hml, hown, hts⟩ (c_md_many l D cI cJ cZ cN now  r6 er6) ⟨callB_of 1 hts (yy_good wq_632) rfl rfl rfl (hw _ wq_39) (hw _ wq_630) (by decide +kernel) ⟨Nat.le_of_ble_eq_true rfl, Nat.le_of_ble_eq_true rfl⟩, hw _ wq_631⟩ hK hN hP hD hS hA [] rfl (by decide) rfl 0 rfl (w2 := (mW cI cJ cZ ma mo mn mw ((mt.1 + sent), mt.2.1, (mt.2.2 + 1)) mv mp)) rfl rfl hl.1 rfl (Nat.le_of_ble_eq_true rfl) dX5_converse_194 ⟨Nat.zero_le _, Nat.zero_le _⟩ (fun H locs hP hD hS => ?_)
        refine W.eq (g2 := F0 m 197 ls [.int r6, .int mt.2.1, .ref (ma 0)]) rfl ?_
        refine lv_iadd hx hb dX5_converse_197 ?_
        refine va_put (D := D) (ci := 5) (v := .int (mt.2.1 + r6)) (ty := .int) (C := RX5) (T := TX5) (N := 25) hx hb hts (yy_tl inX5) tyX5 tyX5_ok nX5 hown hK hP hD hS 0 rfl rfl 17 (by decide) (hw _ wq_502) (fun _ h9 => h9) rfl (by decide +kernel) rfl rfl (Nat.le_of_ble_eq_true rfl) dX5_converse_198 (fun H locs hP hD hS => ?_)
        have hP : va_P D vwCl (mW cI cJ cZ ma mo mn mw ((mt.1 + sent), (mt.2.1 + r6), (mt.2.2 + 1)) mv mp) H := hP
        have hD : va_D A (mW cI cJ cZ ma mo mn mw ((mt.1 + sent), (mt.2.1 + r6), (mt.2.2 + 1)) mv mp) := hD
        refine lv_lload hx hb dX5_converse_201 (lv_at hl 3 rfl) ?_
        refine lv_lload hx hb dX5_converse_203 (lv_at hl 7 rfl) ?_
        refine lv_lor hx hb dX5_converse_205 ?_
        refine lv_lstore (lv' := [(4, .long (known ||| now)), (0, .ref (ma 0)), (1, .int (nI nk)), (2, .long wants), (6, .long opn), (10, .int (nI i)), (11, .int sent), (12, .long now)]) hx hb dX5_converse_206 hl (by decide) rfl (fun ls hl => ?_)
        refine lv_aload_n hx hb dX5_converse_208 rfl (lv_at hl 1 rfl) ?_
        refine lv_lload_n hx hb dX5_converse_209 rfl (lv_at hl 3 rfl) ?_
        refine lv_lload hx hb dX5_converse_210 (lv_at hl 0 rfl) ?_
        obtain ⟨r7, er7⟩ : ∃ r, r = md_allReach wants (known ||| now) mo := ⟨_, rfl⟩
        have hf := yb_e er7 hf
        refine yz_callV (As := [.long wants, .long (known ||| now)]) (rest := []) ⟨hx, hb, hml, hown, hts⟩ (c_md_allReach l D cI cJ cZ cN ma wants (known ||| now) mo mn mw ((mt.1 + sent), (mt.2.1 + r6), (mt.2.2 + 1)) mv mp (by (try dsimp only) <;> omega) r7 er7) ⟨callB_of 2 hts (yy_good wq_636) rfl rfl rfl (hw _ wq_39) (hw _ wq_633) (by decide +kernel) ⟨Nat.le_of_ble_eq_true rfl, Nat.le_of_ble_eq_true rfl⟩, hw _ wq_635, hw _ wq_27⟩ hK hN hP hD hS hA [0, 1, 2, 3, 4, 5, 6, 7, 8, 9, 10, 11, 12, 13, 14, 15, 16, 17, 18, 19] rfl (by decide) rfl 20 rfl (w2 := (mW cI cJ cZ ma mo mn mw ((mt.1 + sent), (mt.2.1 + r6), (mt.2.2 + 1)) mv mp)) rfl 0 rfl rfl rfl hl.1 rfl (Nat.le_of_ble_eq_true rfl) dX5_converse_212 ⟨Nat.zero_le _, Nat.zero_le _⟩ (fun H locs hP hD hS => ?_)
        refine W.eq (g2 := F0 m 215 ls [.int (yB r7)]) rfl ?_
        refine lv_if_eq (tgt := 221) hx hb dX5_converse_215 (by decide) (fun h8 => ?_) (fun h8 => ?_)
        · have h8 := yB_0.mp h8
          have hf := yBf h8 hf
          refine lv_lload hx hb dX5_converse_221 (lv_at hl 4 rfl) ?_
          refine lv_aload_n hx hb dX5_converse_223 rfl (lv_at hl 1 rfl) ?_
          refine lv_lload hx hb dX5_converse_224 (lv_at hl 0 rfl) ?_
          obtain ⟨r9, er9⟩ : ∃ r, r = md_reach (known ||| now) mo := ⟨_, rfl⟩
          have hf := yb_e er9 hf
          refine yz_callV (As := [.long (known ||| now)]) (rest := [.long opn]) ⟨hx, hb, hml, hown, hts⟩ (c_md_reach l D cI cJ cZ cN ma (known ||| now) mo mn mw ((mt.1 + sent), (mt.2.1 + r6), (mt.2.2 + 1)) mv mp (by (try dsimp only) <;> omega) r9 er9) ⟨callB_of 1 hts (yy_good wq_628) rfl rfl rfl (hw _ wq_39) (hw _ wq_625) (by decide +kernel) ⟨Nat.le_of_ble_eq_true rfl, Nat.le_of_ble_eq_true rfl⟩, hw _ wq_627, hw _ wq_26⟩ hK hN hP hD hS hA [0, 1, 2, 3, 4, 5, 6, 7, 8, 9, 10, 11, 12, 13, 14, 15, 16, 17, 18, 19] rfl (by decide) rfl 20 rfl (w2 := (mW cI cJ cZ ma mo mn mw ((mt.1 + sent), (mt.2.1 + r6), (mt.2.2 + 1)) mv mp)) rfl 0 rfl rfl rfl hl.1 rfl (Nat.le_of_ble_eq_true rfl) dX5_converse_226 ⟨Nat.zero_le _, Nat.zero_le _⟩ (fun H locs hP hD hS => ?_)
          refine W.eq (g2 := F0 m 229 ls [.long r9, .long opn]) rfl ?_
          refine lv_ldc2 (v := (-1)) hx hb hown (hw _ wq_629) dX5_converse_229 ?_
          refine lv_lxor hx hb dX5_converse_232 ?_
          refine lv_land hx hb dX5_converse_233 ?_
          refine lv_lstore (lv' := [(6, .long (opn &&& (r9 ^^^ (-1)))), (4, .long (known ||| now)), (0, .ref (ma 0)), (1, .int (nI nk)), (2, .long wants), (10, .int (nI i)), (11, .int sent), (12, .long now)]) hx hb dX5_converse_234 hl (by decide) rfl (fun ls hl => ?_)
          refine lv_iinc (k := 5) (v := (nI (i + 1))) (lv' := [(10, .int (nI (i + 1))), (6, .long (opn &&& (r9 ^^^ (-1)))), (4, .long (known ||| now)), (0, .ref (ma 0)), (1, .int (nI nk)), (2, .long wants), (11, .int sent), (12, .long now)]) hx hb dX5_converse_236 hl rfl (yy_inc _) (by decide) rfl (fun ls hl => ?_)
          refine lv_goto (tgt := 69) hx hb dX5_converse_239 (by decide) ?_
          exact ih (i + 1) (known ||| now) (opn &&& (r9 ^^^ (-1))) ((mt.1 + sent), (mt.2.1 + r6), (mt.2.2 + 1)) _ _ _ (by omega) hf (lv_sub hl [3, 4, 5, 2, 1, 0] rfl) hP hD hS
        · have h8 := yB_1 h8
          have hf := yBt h8 hf
          refine lv_lload hx hb dX5_converse_218 (lv_at hl 0 rfl) ?_
          subst hf
          exact yy_lret (v := known ||| now) hx hb hr hP hK hS hlocks dX5_converse_220
  have hL23 : ∀ (k : Nat) (i : Nat) (known : Int64) (opn : Int64) (set : Int64) (ls : Array Slot) (H : Heap) (locs : List Loc), i + k = mo.1 → res = md_converse_L23 wants mo mn mt k i known opn set → lv_has ls 15 [(0, .ref (ma 0)), (1, .int (nI nk)), (2, .long wants), (4, .long known), (6, .long opn), (8, .long set), (10, .int (nI i))] → va_P D vwCl (mW cI cJ cZ ma mo mn mw mt mv mp) H → va_D A (mW cI cJ cZ ma mo mn mw mt mv mp) → va_S A s.heap H locs → W p l e (headSpec wsX5_converse { frames := 2, cells := 0, slots := 0, locals := 50 }).room s m ([.ref (ma 0), .int (nI nk), .long wants] : List Value).toArray below meth c H locs 0 0 (MQ below (yy_Q A D vwCl (yT cI cJ cZ cN) (mW cI cJ cZ ma mo mn mw res.2 mv mp) (some (.long res.1))) ([.ref (ma 0), .int (nI nk), .long wants] : List Value).toArray s 0 0 A) (F0 m 23 ls []) := by
    intro k
    induction k with
    | zero =>
      intro i known opn set ls H locs hi hf hl hP hD hS
      rw [md_converse_L23] at hf
      refine lv_iload hx hb dX5_converse_23 (lv_at hl 6 rfl) ?_
      refine lv_aload_n hx hb dX5_converse_25 rfl (lv_at hl 0 rfl) ?_
      refine va_get (D := D) (ci := 5) (v := .int (nI mo.1)) (C := RX5) (T := TX5) (N := 25) hx hb hts (yy_tl inX5) hown hK hP 0 rfl rfl 0 (by decide) (hw _ wq_485) (fun _ h9 => h9) rfl dX5_converse_26 ?_
      refine lv_icmp_ge (tgt := 66) hx hb dX5_converse_29 (by decide) (fun _ => ?_) (fun h => absurd (nI_le (by omega) (by omega)) h)
      refine lv_iconst (v := (nI 0)) hx hb dX5_converse_66 (by decide) ?_
      refine lv_istore (lv' := [(10, .int (nI 0)), (0, .ref (ma 0)), (1, .int (nI nk)), (2, .long wants), (4, .long known), (6, .long opn), (8, .long set)]) hx hb dX5_converse_67 hl (by decide) rfl (fun ls hl => ?_)
      exact hL69 60 0 known opn mt _ _ _ (by omega) hf (lv_sub hl [1, 2, 3, 4, 5, 0] rfl) hP hD hS
    | succ k ih =>
      intro i known opn set ls H locs hi hf hl hP hD hS
      rw [md_converse_L23] at hf
      refine lv_iload hx hb dX5_converse_23 (lv_at hl 6 rfl) ?_
      refine lv_aload_n hx hb dX5_converse_25 rfl (lv_at hl 0 rfl) ?_
      refine va_get (D := D) (ci := 5) (v := .int (nI mo.1)) (C := RX5) (T := TX5) (N := 25) hx hb hts (yy_tl inX5) hown hK hP 0 rfl rfl 0 (by decide) (hw _ wq_485) (fun _ h9 => h9) rfl dX5_converse_26 ?_
      refine lv_icmp_ge (tgt := 66) hx hb dX5_converse_29 (by decide) (fun h => absurd h (nI_ge (by omega) (by omega))) (fun _ => ?_)
      refine lv_aload_n hx hb dX5_converse_32 rfl (lv_at hl 0 rfl) ?_
      refine va_get (D := D) (ci := 5) (v := .ref (ma 1)) (C := RX5) (T := TX5) (N := 25) hx hb hts (yy_tl inX5) hown hK hP 0 rfl rfl 1 (by decide) (hw _ wq_486) (fun _ h9 => h9) rfl dX5_converse_33 ?_
      refine lv_iload hx hb dX5_converse_36 (lv_at hl 6 rfl) ?_
      refine yr_iald hx hb hK hP 1 0 (f := mo.2.1) (j := i) rfl rfl rfl (by omega) (by decide) dX5_converse_38 ?_
      refine lv_iconst (v := 2) hx hb dX5_converse_39 (by decide) ?_
      refine lv_icmp_ne (tgt := 56) hx hb dX5_converse_40 (by decide) (fun h10 => ?_) (fun h10 => ?_)
      · have hf := yf h10 hf
        refine lv_lload hx hb dX5_converse_56 (lv_at hl 4 rfl) ?_
        refine lv_lstore (lv' := [(6, .long opn), (0, .ref (ma 0)), (1, .int (nI nk)), (2, .long wants), (4, .long known), (8, .long set), (10, .int (nI i))]) hx hb dX5_converse_58 hl (by decide) rfl (fun ls hl => ?_)
        refine lv_iinc (k := 6) (v := (nI (i + 1))) (lv' := [(10, .int (nI (i + 1))), (6, .long opn), (0, .ref (ma 0)), (1, .int (nI nk)), (2, .long wants), (4, .long known), (8, .long set)]) hx hb dX5_converse_60 hl rfl (yy_inc _) (by decide) rfl (fun ls hl => ?_)
        refine lv_goto (tgt := 23) hx hb dX5_converse_63 (by decide) ?_
        exact ih (i + 1) known opn set _ _ _ (by omega) hf (lv_sub hl [2, 3, 4, 5, 1, 6, 0] rfl) hP hD hS
      · have hf := yt h10 hf
        refine lv_lload hx hb dX5_converse_43 (lv_at hl 4 rfl) ?_
        refine lv_lload hx hb dX5_converse_45 (lv_at hl 5 rfl) ?_
        refine lv_lconst (v := 1) hx hb dX5_converse_47 (by decide) ?_
        refine lv_iload hx hb dX5_converse_48 (lv_at hl 6 rfl) ?_
        refine lv_lshl (v := ylshl 1 (nI i)) hx hb dX5_converse_50 rfl ?_
        refine lv_land hx hb dX5_converse_51 ?_
        refine lv_lor hx hb dX5_converse_52 ?_
        refine lv_goto (tgt := 58) hx hb dX5_converse_53 (by decide) ?_
        refine lv_lstore (lv' := [(6, .long (opn ||| (set &&& (ylshl 1 (nI i))))), (0, .ref (ma 0)), (1, .int (nI nk)), (2, .long wants), (4, .long known), (8, .long set), (10, .int (nI i))]) hx hb dX5_converse_58 hl (by decide) rfl (fun ls hl => ?_)
        refine lv_iinc (k := 6) (v := (nI (i + 1))) (lv' := [(10, .int (nI (i + 1))), (6, .long (opn ||| (set &&& (ylshl 1 (nI i))))), (0, .ref (ma 0)), (1, .int (nI nk)), (2, .long wants), (4, .long known), (8, .long set)]) hx hb dX5_converse_60 hl rfl (yy_inc _) (by decide) rfl (fun ls hl => ?_)
        refine lv_goto (tgt := 23) hx hb dX5_converse_63 (by decide) ?_
        exact ih (i + 1) known (opn ||| (set &&& (ylshl 1 (nI i)))) set _ _ _ (by omega) hf (lv_sub hl [2, 3, 4, 5, 1, 6, 0] rfl) hP hD hS
  rw [md_converse] at hf
  refine lv_lconst (v := 0) hx hb dX5_converse_0 (by decide) ?_
  refine lv_lstore (lv' := [(4, .long 0), (0, .ref (ma 0)), (1, .int (nI nk)), (2, .long wants)]) hx hb dX5_converse_1 hl (by decide) rfl (fun ls hl => ?_)
  refine lv_lconst (v := 0) hx hb dX5_converse_3 (by decide) ?_
  refine lv_lstore (lv' := [(6, .long 0), (4, .long 0), (0, .ref (ma 0)), (1, .int (nI nk)), (2, .long wants)]) hx hb dX5_converse_4 hl (by decide) rfl (fun ls hl => ?_)
  refine lv_aload_n hx hb dX5_converse_6 rfl (lv_at hl 2 rfl) ?_
  refine lv_aload_n hx hb dX5_converse_7 rfl (lv_at hl 2 rfl) ?_
  refine lv_iload_n hx hb dX5_converse_8 rfl (lv_at hl 3 rfl) ?_
  refine lv_iconst (v := (nI 0)) hx hb dX5_converse_9 (by decide) ?_
  refine lv_bipush (v := (nI 7)) hx hb dX5_converse_10 (by decide) ?_
  obtain ⟨r11, er11⟩ : ∃ r, r = md_tips nk 0 7 mn := ⟨_, rfl⟩
  have hf := yb_e er11 hf
  refine yz_callV (As := [.int (nI nk), .int (nI 0), .int (nI 7)]) (rest := [.ref (ma 0)]) ⟨hx, hb, hml, hown, hts⟩ (c_md_tips l D cI cJ cZ cN ma nk 0 7 mo mn mw mt mv mp (by (try dsimp only) <;> omega) (by (try dsimp only) <;> omega) (by (try dsimp only) <;> omega) r11 er11) ⟨callB_of 3 hts (yy_good wq_624) rfl rfl rfl (hw _ wq_39) (hw _ wq_621) (by decide +kernel) ⟨Nat.le_of_ble_eq_true rfl, Nat.le_of_ble_eq_true rfl⟩, hw _ wq_623, hw _ wq_25⟩ hK hN hP hD hS hA [0, 1, 2, 3, 4, 5, 6, 7, 8, 9, 10, 11, 12, 13, 14, 15, 16, 17, 18, 19] rfl (by decide) rfl 20 rfl (w2 := (mW cI cJ cZ ma mo mn mw mt mv mp)) rfl 0 rfl rfl rfl hl.1 rfl (Nat.le_of_ble_eq_true rfl) dX5_converse_12 ⟨Nat.zero_le _, Nat.zero_le _⟩ (fun H locs hP hD hS => ?_)
  refine W.eq (g2 := F0 m 15 ls [.long r11, .ref (ma 0)]) rfl ?_
  obtain ⟨r12, er12⟩ : ∃ r, r = md_reach r11 mo := ⟨_, rfl⟩
  have hf := yb_e er12 hf
  refine yz_callV (As := [.long r11]) (rest := []) ⟨hx, hb, hml, hown, hts⟩ (c_md_reach l D cI cJ cZ cN ma r11 mo mn mw mt mv mp (by (try dsimp only) <;> omega) r12 er12) ⟨callB_of 1 hts (yy_good wq_628) rfl rfl rfl (hw _ wq_39) (hw _ wq_625) (by decide +kernel) ⟨Nat.le_of_ble_eq_true rfl, Nat.le_of_ble_eq_true rfl⟩, hw _ wq_627, hw _ wq_26⟩ hK hN hP hD hS hA [0, 1, 2, 3, 4, 5, 6, 7, 8, 9, 10, 11, 12, 13, 14, 15, 16, 17, 18, 19] rfl (by decide) rfl 20 rfl (w2 := (mW cI cJ cZ ma mo mn mw mt mv mp)) rfl 0 rfl rfl rfl hl.1 rfl (Nat.le_of_ble_eq_true rfl) dX5_converse_15 ⟨Nat.zero_le _, Nat.zero_le _⟩ (fun H locs hP hD hS => ?_)
  refine W.eq (g2 := F0 m 18 ls [.long r12]) rfl ?_
  refine lv_lstore (lv' := [(8, .long r12), (6, .long 0), (4, .long 0), (0, .ref (ma 0)), (1, .int (nI nk)), (2, .long wants)]) hx hb dX5_converse_18 hl (by decide) rfl (fun ls hl => ?_)
  refine lv_iconst (v := (nI 0)) hx hb dX5_converse_20 (by decide) ?_
  refine lv_istore (lv' := [(10, .int (nI 0)), (8, .long r12), (6, .long 0), (4, .long 0), (0, .ref (ma 0)), (1, .int (nI nk)), (2, .long wants)]) hx hb dX5_converse_21 hl (by decide) rfl (fun ls hl => ?_)
  exact hL23 mo.1 0 0 0 r12 _ _ _ (by omega) hf (lv_sub hl [4, 5, 6, 3, 2, 1, 0] rfl) hP hD hS

set_option maxHeartbeats 4000000 in
set_option maxRecDepth 100000 in
theorem c_md_fetch (l : Launch) (D : va_G) (cI cJ cZ cN : ClassId) (ma : Nat → Nat) (node : Int32) (set : Int32) (mo : MO) (mn : MN) (mw : MW) (mt : MT) (mv : (Nat → Int32)) (mp : MP) (ho : mo.1 ≤ 60) (hp : mp.1 ≤ 60) (res : Int32 × MN × MW × MT × MP) (hf : res = md_fetch node set mo mn mw mt mp) : yy_Met l yX5_fetch wsX5_fetch { frames := 4, cells := 0, slots := 0, locals := 87 } D vwCl (yT cI cJ cZ cN) [.ref (ma 0), .int node, .int set] (mW cI cJ cZ ma mo mn mw mt mv mp) (some (.int res.1)) (mW cI cJ cZ ma mo res.2.1 res.2.2.1 res.2.2.2.1 mv res.2.2.2.2) := by
  intro sz
  refine Met.ofW (cc := cX5_fetch) (maxL := 9) (ret := (some .int)) (by decide) rfl ?_
  intro p e s m args below meth c s₁ B hml hv
  obtain ⟨rfl, hsz, hP, hK, hD0, hN⟩ := hv
  have hx := B.exec
  have hb := B.bytes
  have hr := B.returns
  have hts := atoms_spec (ws := wsX5_fetch) B.pre
  have hw : ∀ w ∈ yW, w.before _ s = true := fun w h => hts w (List.mem_cons_of_mem _ h)
  have hown : s.vm.findClass RX5 = some m.cls := findClass_of_methodNamed B.named
  have hlocks := B.notSynchronized
  subst hsz
  have hD := hD0.self (sz := s.heap.size)
  generalize hAe : va_A (mW cI cJ cZ ma mo mn mw mt mv mp) s.heap.size = A at hD ⊢
  have hA : ∀ q : Nat, s.heap.size ≤ q → A q := fun q h => by rw [← hAe]; exact Or.inr h
  have hS : va_S A s.heap s.heap [] := va_S.rf
  have hl := lv_entry ([.ref (ma 0), .int node, .int set]) (n := 9) (Nat.le_of_ble_eq_true rfl)
  rw [lg_entry_eq]
  generalize (lg_sl ([.ref (ma 0), .int node, .int set]) ++ List.replicate (9 - (lg_sl ([.ref (ma 0), .int node, .int set])).length) Slot.unset).toArray = ls at hl ⊢
  have hl : lv_has ls 9 [(0, .ref (ma 0)), (1, .int node), (2, .int set)] := hl
  have hL54 : ∀ (k : Nat) (i : Nat) (nk : Nat) (wants : Int64) (mw : MW) (ls : Array Slot) (H : Heap) (locs : List Loc), i + k = 4 → nk < 3 → mw.1 ≤ i → res = md_fetch_L54 set mo mn mp k i nk wants mw → lv_has ls 9 [(0, .ref (ma 0)), (1, .int (nI nk)), (2, .int set), (3, .long wants), (5, .int (nI i))] → va_P D vwCl (mW cI cJ cZ ma mo mn mw mt mv mp) H → va_D A (mW cI cJ cZ ma mo mn mw mt mv mp) → va_S A s.heap H locs → W p l e (headSpec wsX5_fetch { frames := 4, cells := 0, slots := 0, locals := 87 }).room s m ([.ref (ma 0), .int node, .int set] : List Value).toArray below meth c H locs 0 0 (MQ below (yy_Q A D vwCl (yT cI cJ cZ cN) (mW cI cJ cZ ma mo res.2.1 res.2.2.1 res.2.2.2.1 mv res.2.2.2.2) (some (.int res.1))) ([.ref (ma 0), .int node, .int set] : List Value).toArray s 0 0 A) (F0 m 54 ls []) := by
    intro k
    induction k with
    | zero =>
      intro i nk wants mw ls H locs hi hv0 hv1 hf hl hP hD hS
      rw [md_fetch_L54] at hf
      refine lv_iload hx hb dX5_fetch_54 (lv_at hl 4 rfl) ?_
      refine lv_iconst (v := (nI 4)) hx hb dX5_fetch_56 (by decide) ?_
      refine lv_icmp_ge (tgt := 136) hx hb dX5_fetch_57 (by decide) (fun _ => ?_) (fun h => absurd (nI_le (by omega) (by omega)) h)
      refine lv_aload_n hx hb dX5_fetch_136 rfl (lv_at hl 0 rfl) ?_
      refine lv_iconst (v := 0) hx hb dX5_fetch_137 (by decide) ?_
      refine va_put (D := D) (ci := 5) (v := .int 0) (ty := .int) (C := RX5) (T := TX5) (N := 25) hx hb hts (yy_tl inX5) tyX5 tyX5_ok nX5 hown hK hP hD hS 0 rfl rfl 16 (by decide) (hw _ wq_501) (fun _ h9 => h9) rfl (by decide +kernel) rfl rfl (Nat.le_of_ble_eq_true rfl) dX5_fetch_138 (fun H locs hP hD hS => ?_)
      have hP : va_P D vwCl (mW cI cJ cZ ma mo mn mw (0, mt.2.1, mt.2.2) mv mp) H := hP
      have hD : va_D A (mW cI cJ cZ ma mo mn mw (0, mt.2.1, mt.2.2) mv mp) := hD
      refine lv_aload_n hx hb dX5_fetch_141 rfl (lv_at hl 0 rfl) ?_
      refine lv_iconst (v := 0) hx hb dX5_fetch_142 (by decide) ?_
      refine va_put (D := D) (ci := 5) (v := .int 0) (ty := .int) (C := RX5) (T := TX5) (N := 25) hx hb hts (yy_tl inX5) tyX5 tyX5_ok nX5 hown hK hP hD hS 0 rfl rfl 17 (by decide) (hw _ wq_502) (fun _ h9 => h9) rfl (by decide +kernel) rfl rfl (Nat.le_of_ble_eq_true rfl) dX5_fetch_143 (fun H locs hP hD hS => ?_)
      have hP : va_P D vwCl (mW cI cJ cZ ma mo mn mw (0, 0, mt.2.2) mv mp) H := hP
      have hD : va_D A (mW cI cJ cZ ma mo mn mw (0, 0, mt.2.2) mv mp) := hD
      refine lv_aload_n hx hb dX5_fetch_146 rfl (lv_at hl 0 rfl) ?_
      refine lv_iconst (v := 0) hx hb dX5_fetch_147 (by decide) ?_
      refine va_put (D := D) (ci := 5) (v := .int 0) (ty := .int) (C := RX5) (T := TX5) (N := 25) hx hb hts (yy_tl inX5) tyX5 tyX5_ok nX5 hown hK hP hD hS 0 rfl rfl 18 (by decide) (hw _ wq_503) (fun _ h9 => h9) rfl (by decide +kernel) rfl rfl (Nat.le_of_ble_eq_true rfl) dX5_fetch_148 (fun H locs hP hD hS => ?_)
      have hP : va_P D vwCl (mW cI cJ cZ ma mo mn mw (0, 0, 0) mv mp) H := hP
      have hD : va_D A (mW cI cJ cZ ma mo mn mw (0, 0, 0) mv mp) := hD
      refine lv_lload_n hx hb dX5_fetch_151 rfl (lv_at hl 3 rfl) ?_
      refine lv_lconst (v := 0) hx hb dX5_fetch_152 (by decide) ?_
      refine W.lcmp hx hb dX5_fetch_153 ?_
      refine lv_if_ne (tgt := 161) hx hb dX5_fetch_154 (by decide) (fun h1 => ?_) (fun h1 => ?_)
      · have h1 := yy_cmp1 h1
        have hf := yf h1 hf
        refine lv_aload_n hx hb dX5_fetch_161 rfl (lv_at hl 0 rfl) ?_
        refine lv_iload_n hx hb dX5_fetch_162 rfl (lv_at hl 1 rfl) ?_
        refine lv_lload_n hx hb dX5_fetch_163 rfl (lv_at hl 3 rfl) ?_
        obtain ⟨r2, er2⟩ : ∃ r, r = md_converse nk wants mo mn (0, 0, 0) := ⟨_, rfl⟩
        have hf := yb_e er2 hf
        refine yz_callV (As := [.int (nI nk), .long wants]) (rest := []) ⟨hx, hb, hml, hown, hts⟩ (c_md_converse l D cI cJ cZ cN ma nk wants mo mn mw (0, 0, 0) mv mp (by (try dsimp only) <;> omega) (by (try dsimp only) <;> omega) r2 er2) ⟨callB_of 2 hts (yy_good wq_620) rfl rfl rfl (hw _ wq_39) (hw _ wq_617) (by decide +kernel) ⟨Nat.le_of_ble_eq_true rfl, Nat.le_of_ble_eq_true rfl⟩, hw _ wq_619, hw _ wq_24⟩ hK hN hP hD hS hA [0, 1, 2, 3, 4, 5, 6, 7, 8, 9, 10, 11, 12, 13, 14, 15, 16, 17, 18, 19] rfl (by decide) rfl 20 rfl (w2 := (mW cI cJ cZ ma mo mn mw r2.2 mv mp)) rfl 0 rfl rfl rfl hl.1 rfl (Nat.le_of_ble_eq_true rfl) dX5_fetch_164 ⟨Nat.zero_le _, Nat.zero_le _⟩ (fun H locs hP hD hS => ?_)
        refine W.eq (g2 := F0 m 167 ls [.long r2.1]) rfl ?_
        refine lv_lstore (lv' := [(5, .long r2.1), (0, .ref (ma 0)), (1, .int (nI nk)), (2, .int set), (3, .long wants)]) hx hb dX5_fetch_167 hl (by decide) rfl (fun ls hl => ?_)
        refine lv_aload_n hx hb dX5_fetch_169 rfl (lv_at hl 1 rfl) ?_
        refine lv_lload_n hx hb dX5_fetch_170 rfl (lv_at hl 4 rfl) ?_
        obtain ⟨r3, er3⟩ : ∃ r, r = md_reach wants mo := ⟨_, rfl⟩
        have hf := yb_e er3 hf
        refine yz_callV (As := [.long wants]) (rest := []) ⟨hx, hb, hml, hown, hts⟩ (c_md_reach l D cI cJ cZ cN ma wants mo mn mw r2.2 mv mp (by (try dsimp only) <;> omega) r3 er3) ⟨callB_of 1 hts (yy_good wq_628) rfl rfl rfl (hw _ wq_39) (hw _ wq_625) (by decide +kernel) ⟨Nat.le_of_ble_eq_true rfl, Nat.le_of_ble_eq_true rfl⟩, hw _ wq_627, hw _ wq_26⟩ hK hN hP hD hS hA [0, 1, 2, 3, 4, 5, 6, 7, 8, 9, 10, 11, 12, 13, 14, 15, 16, 17, 18, 19] rfl (by decide) rfl 20 rfl (w2 := (mW cI cJ cZ ma mo mn mw r2.2 mv mp)) rfl 0 rfl rfl rfl hl.1 rfl (Nat.le_of_ble_eq_true rfl) dX5_fetch_171 ⟨Nat.zero_le _, Nat.zero_le _⟩ (fun H locs hP hD hS => ?_)
        refine W.eq (g2 := F0 m 174 ls [.long r3]) rfl ?_
        refine lv_aload_n hx hb dX5_fetch_174 rfl (lv_at hl 1 rfl) ?_
        refine lv_lload hx hb dX5_fetch_175 (lv_at hl 0 rfl) ?_
        obtain ⟨r4, er4⟩ : ∃ r, r = md_reach r2.1 mo := ⟨_, rfl⟩
        have hf := yb_e er4 hf
        refine yz_callV (As := [.long r2.1]) (rest := [.long r3]) ⟨hx, hb, hml, hown, hts⟩ (c_md_reach l D cI cJ cZ cN ma r2.1 mo mn mw r2.2 mv mp (by (try dsimp only) <;> omega) r4 er4) ⟨callB_of 1 hts (yy_good wq_628) rfl rfl rfl (hw _ wq_39) (hw _ wq_625) (by decide +kernel) ⟨Nat.le_of_ble_eq_true rfl, Nat.le_of_ble_eq_true rfl⟩, hw _ wq_627, hw _ wq_26⟩ hK hN hP hD hS hA [0, 1, 2, 3, 4, 5, 6, 7, 8, 9, 10, 11, 12, 13, 14, 15, 16, 17, 18, 19] rfl (by decide) rfl 20 rfl (w2 := (mW cI cJ cZ ma mo mn mw r2.2 mv mp)) rfl 0 rfl rfl rfl hl.1 rfl (Nat.le_of_ble_eq_true rfl) dX5_fetch_177 ⟨Nat.zero_le _, Nat.zero_le _⟩ (fun H locs hP hD hS => ?_)
        refine W.eq (g2 := F0 m 180 ls [.long r4, .long r3]) rfl ?_
        refine lv_ldc2 (v := (-1)) hx hb hown (hw _ wq_629) dX5_fetch_180 ?_
        refine lv_lxor hx hb dX5_fetch_183 ?_
        refine lv_land hx hb dX5_fetch_184 ?_
        refine lv_lstore (lv' := [(7, .long (r3 &&& (r4 ^^^ (-1)))), (5, .long r2.1), (0, .ref (ma 0)), (1, .int (nI nk)), (2, .int set), (3, .long wants)]) hx hb dX5_fetch_185 hl (by decide) rfl (fun ls hl => ?_)
        refine lv_aload_n hx hb dX5_fetch_187 rfl (lv_at hl 2 rfl) ?_
        refine lv_lload hx hb dX5_fetch_188 (lv_at hl 0 rfl) ?_
        obtain ⟨r5, er5⟩ : ∃ r, r = md_pack (r3 &&& (r4 ^^^ (-1))) mo mp := ⟨_, rfl⟩
        have hf := yb_e er5 hf
        refine yz_callV (As := [.long (r3 &&& (r4 ^^^ (-1)))]) (rest := []) ⟨hx, hb, hml, hown, hts⟩ (c_md_pack l D cI cJ cZ cN ma (r3 &&& (r4 ^^^ (-1))) mo mn mw r2.2 mv mp (by (try dsimp only) <;> omega) r5 er5) ⟨callB_of 1 hts (yy_good wq_640) rfl rfl rfl (hw _ wq_39) (hw _ wq_637) (by decide +kernel) ⟨Nat.le_of_ble_eq_true rfl, Nat.le_of_ble_eq_true rfl⟩, hw _ wq_639, hw _ wq_28⟩ hK hN hP hD hS hA [0, 1, 2, 3, 4, 5, 6, 7, 8, 9, 10, 11, 12, 13, 14, 15, 16, 17, 18, 19] rfl (by decide) rfl 20 rfl (w2 := (mW cI cJ cZ ma mo mn mw r2.2 mv r5)) rfl 0 rfl rfl rfl hl.1 rfl (Nat.le_of_ble_eq_true rfl) dX5_fetch_190 ⟨Nat.zero_le _, Nat.zero_le _⟩ (fun H locs hP hD hS => ?_)
        refine W.eq (g2 := F0 m 193 ls []) rfl ?_
        refine lv_aload_n hx hb dX5_fetch_193 rfl (lv_at hl 2 rfl) ?_
        refine lv_iload_n hx hb dX5_fetch_194 rfl (lv_at hl 3 rfl) ?_
        refine lv_lload hx hb dX5_fetch_195 (lv_at hl 0 rfl) ?_
        obtain ⟨r6, er6⟩ : ∃ r, r = md_store nk (r3 &&& (r4 ^^^ (-1))) mo mn := ⟨_, rfl⟩
        have hf := yb_e er6 hf
        refine yz_callV (As := [.int (nI nk), .long (r3 &&& (r4 ^^^ (-1)))]) (rest := []) ⟨hx, hb, hml, hown, hts⟩ (c_md_store l D cI cJ cZ cN ma nk (r3 &&& (r4 ^^^ (-1))) mo mn mw r2.2 mv r5 (by (try dsimp only) <;> omega) (by (try dsimp only) <;> omega) r6 er6) ⟨callB_of 2 hts (yy_good wq_648) rfl rfl rfl (hw _ wq_39) (hw _ wq_645) (by decide +kernel) ⟨Nat.le_of_ble_eq_true rfl, Nat.le_of_ble_eq_true rfl⟩, hw _ wq_647, hw _ wq_30⟩ hK hN hP hD hS hA [0, 1, 2, 3, 4, 5, 6, 7, 8, 9, 10, 11, 12, 13, 14, 15, 16, 17, 18, 19] rfl (by decide) rfl 20 rfl (w2 := (mW cI cJ cZ ma mo r6.2 mw r2.2 mv r5)) rfl 0 rfl rfl rfl hl.1 rfl (Nat.le_of_ble_eq_true rfl) dX5_fetch_197 ⟨Nat.zero_le _, Nat.zero_le _⟩ (fun H locs hP hD hS => ?_)
        refine W.eq (g2 := F0 m 200 ls [.int (yB r6.1)]) rfl ?_
        refine lv_if_eq (tgt := 218) hx hb dX5_fetch_200 (by decide) (fun h7 => ?_) (fun h7 => ?_)
        · have h7 := yB_0.mp h7
          have hf := yBf h7 hf
          refine lv_bipush (v := (-2)) hx hb dX5_fetch_218 (by decide) ?_
          subst hf
          exact yy_iret (v := (-2)) hx hb hr hP hK hS hlocks dX5_fetch_220
        · have h7 := yB_1 h7
          have hf := yBt h7 hf
          refine lv_aload_n hx hb dX5_fetch_203 rfl (lv_at hl 2 rfl) ?_
          refine lv_iload_n hx hb dX5_fetch_204 rfl (lv_at hl 3 rfl) ?_
          obtain ⟨r8, er8⟩ : ∃ r, r = md_transact nk r6.2 mw := ⟨_, rfl⟩
          have hf := yb_e er8 hf
          refine yz_callV (As := [.int (nI nk)]) (rest := []) ⟨hx, hb, hml, hown, hts⟩ (c_md_transact l D cI cJ cZ cN ma nk mo r6.2 mw r2.2 mv r5 (by omega) (by first | omega | exact md_wish_le ‹_ = md_wish _ _ _› (by (try dsimp only) <;> omega)) r8 er8) ⟨callB_of 1 hts (yy_good wq_600) rfl rfl rfl (hw _ wq_39) (hw _ wq_597) (by decide +kernel) ⟨Nat.le_of_ble_eq_true rfl, Nat.le_of_ble_eq_true rfl⟩, hw _ wq_599, hw _ wq_21⟩ hK hN hP hD hS hA [0, 1, 2, 3, 4, 5, 6, 7, 8, 9, 10, 11, 12, 13, 14, 15, 16, 17, 18, 19] rfl (by decide) rfl 20 rfl (w2 := (mW cI cJ cZ ma mo r8.2 mw r2.2 mv r5)) rfl 0 rfl rfl rfl hl.1 rfl (Nat.le_of_ble_eq_true rfl) dX5_fetch_205 ⟨Nat.zero_le _, Nat.zero_le _⟩ (fun H locs hP hD hS => ?_)
          refine W.eq (g2 := F0 m 208 ls [.int (yB r8.1)]) rfl ?_
          refine lv_if_eq (tgt := 218) hx hb dX5_fetch_208 (by decide) (fun h9 => ?_) (fun h9 => ?_)
          · have h9 := yB_0.mp h9
            have hf := yBf h9 hf
            refine lv_bipush (v := (-2)) hx hb dX5_fetch_218 (by decide) ?_
            subst hf
            exact yy_iret (v := (-2)) hx hb hr hP hK hS hlocks dX5_fetch_220
          · have h9 := yB_1 h9
            have hf := yBt h9 hf
            refine lv_aload_n hx hb dX5_fetch_211 rfl (lv_at hl 2 rfl) ?_
            refine va_get (D := D) (ci := 5) (v := .int (nI r5.1)) (C := RX5) (T := TX5) (N := 25) hx hb hts (yy_tl inX5) hown hK hP 0 rfl rfl 20 (by decide) (hw _ wq_505) (fun _ h9 => h9) rfl dX5_fetch_212 ?_
            refine lv_goto (tgt := 220) hx hb dX5_fetch_215 (by decide) ?_
            subst hf
            exact yy_iret (v := (nI r5.1)) hx hb hr hP hK hS hlocks dX5_fetch_220
      · have h1 := yy_cmp0 h1
        have hf := yt h1 hf
        refine lv_lconst (v := 0) hx hb dX5_fetch_157 (by decide) ?_
        refine lv_goto (tgt := 167) hx hb dX5_fetch_158 (by decide) ?_
        refine lv_lstore (lv' := [(5, .long 0), (0, .ref (ma 0)), (1, .int (nI nk)), (2, .int set), (3, .long wants)]) hx hb dX5_fetch_167 hl (by decide) rfl (fun ls hl => ?_)
        refine lv_aload_n hx hb dX5_fetch_169 rfl (lv_at hl 1 rfl) ?_
        refine lv_lload_n hx hb dX5_fetch_170 rfl (lv_at hl 4 rfl) ?_
        obtain ⟨r10, er10⟩ : ∃ r, r = md_reach wants mo := ⟨_, rfl⟩
        have hf := yb_e er10 hf
        refine yz_callV (As := [.long wants]) (rest := []) ⟨hx, hb, hml, hown, hts⟩ (c_md_reach l D cI cJ cZ cN ma wants mo mn mw (0, 0, 0) mv mp (by (try dsimp only) <;> omega) r10 er10) ⟨callB_of 1 hts (yy_good wq_628) rfl rfl rfl (hw _ wq_39) (hw _ wq_625) (by decide +kernel) ⟨Nat.le_of_ble_eq_true rfl, Nat.le_of_ble_eq_true rfl⟩, hw _ wq_627, hw _ wq_26⟩ hK hN hP hD hS hA [0, 1, 2, 3, 4, 5, 6, 7, 8, 9, 10, 11, 12, 13, 14, 15, 16, 17, 18, 19] rfl (by decide) rfl 20 rfl (w2 := (mW cI cJ cZ ma mo mn mw (0, 0, 0) mv mp)) rfl 0 rfl rfl rfl hl.1 rfl (Nat.le_of_ble_eq_true rfl) dX5_fetch_171 ⟨Nat.zero_le _, Nat.zero_le _⟩ (fun H locs hP hD hS => ?_)
        refine W.eq (g2 := F0 m 174 ls [.long r10]) rfl ?_
        refine lv_aload_n hx hb dX5_fetch_174 rfl (lv_at hl 1 rfl) ?_
        refine lv_lload hx hb dX5_fetch_175 (lv_at hl 0 rfl) ?_
        obtain ⟨r11, er11⟩ : ∃ r, r = md_reach 0 mo := ⟨_, rfl⟩
        have hf := yb_e er11 hf
        refine yz_callV (As := [.long 0]) (rest := [.long r10]) ⟨hx, hb, hml, hown, hts⟩ (c_md_reach l D cI cJ cZ cN ma 0 mo mn mw (0, 0, 0) mv mp (by (try dsimp only) <;> omega) r11 er11) ⟨callB_of 1 hts (yy_good wq_628) rfl rfl rfl (hw _ wq_39) (hw _ wq_625) (by decide +kernel) ⟨Nat.le_of_ble_eq_true rfl, Nat.le_of_ble_eq_true rfl⟩, hw _ wq_627, hw _ wq_26⟩ hK hN hP hD hS hA [0, 1, 2, 3, 4, 5, 6, 7, 8, 9, 10, 11, 12, 13, 14, 15, 16, 17, 18, 19] rfl (by decide) rfl 20 rfl (w2 := (mW cI cJ cZ ma mo mn mw (0, 0, 0) mv mp)) rfl 0 rfl rfl rfl hl.1 rfl (Nat.le_of_ble_eq_true rfl) dX5_fetch_177 ⟨Nat.zero_le _, Nat.zero_le _⟩ (fun H locs hP hD hS => ?_)
        refine W.eq (g2 := F0 m 180 ls [.long r11, .long r10]) rfl ?_
        refine lv_ldc2 (v := (-1)) hx hb hown (hw _ wq_629) dX5_fetch_180 ?_
        refine lv_lxor hx hb dX5_fetch_183 ?_
        refine lv_land hx hb dX5_fetch_184 ?_
        refine lv_lstore (lv' := [(7, .long (r10 &&& (r11 ^^^ (-1)))), (5, .long 0), (0, .ref (ma 0)), (1, .int (nI nk)), (2, .int set), (3, .long wants)]) hx hb dX5_fetch_185 hl (by decide) rfl (fun ls hl => ?_)
        refine lv_aload_n hx hb dX5_fetch_187 rfl (lv_at hl 2 rfl) ?_
        refine lv_lload hx hb dX5_fetch_188 (lv_at hl 0 rfl) ?_
        obtain ⟨r12, er12⟩ : ∃ r, r = md_pack (r10 &&& (r11 ^^^ (-1))) mo mp := ⟨_, rfl⟩
        have hf := yb_e er12 hf
        refine yz_callV (As := [.long (r10 &&& (r11 ^^^ (-1)))]) (rest := []) ⟨hx, hb, hml, hown, hts⟩ (c_md_pack l D cI cJ cZ cN ma (r10 &&& (r11 ^^^ (-1))) mo mn mw (0, 0, 0) mv mp (by (try dsimp only) <;> omega) r12 er12) ⟨callB_of 1 hts (yy_good wq_640) rfl rfl rfl (hw _ wq_39) (hw _ wq_637) (by decide +kernel) ⟨Nat.le_of_ble_eq_true rfl, Nat.le_of_ble_eq_true rfl⟩, hw _ wq_639, hw _ wq_28⟩ hK hN hP hD hS hA [0, 1, 2, 3, 4, 5, 6, 7, 8, 9, 10, 11, 12, 13, 14, 15, 16, 17, 18, 19] rfl (by decide) rfl 20 rfl (w2 := (mW cI cJ cZ ma mo mn mw (0, 0, 0) mv r12)) rfl 0 rfl rfl rfl hl.1 rfl (Nat.le_of_ble_eq_true rfl) dX5_fetch_190 ⟨Nat.zero_le _, Nat.zero_le _⟩ (fun H locs hP hD hS => ?_)
        refine W.eq (g2 := F0 m 193 ls []) rfl ?_
        refine lv_aload_n hx hb dX5_fetch_193 rfl (lv_at hl 2 rfl) ?_
        refine lv_iload_n hx hb dX5_fetch_194 rfl (lv_at hl 3 rfl) ?_
        refine lv_lload hx hb dX5_fetch_195 (lv_at hl 0 rfl) ?_
        obtain ⟨r13, er13⟩ : ∃ r, r = md_store nk (r10 &&& (r11 ^^^ (-1))) mo mn := ⟨_, rfl⟩
        have hf := yb_e er13 hf
        refine yz_callV (As := [.int (nI nk), .long (r10 &&& (r11 ^^^ (-1)))]) (rest := []) ⟨hx, hb, hml, hown, hts⟩ (c_md_store l D cI cJ cZ cN ma nk (r10 &&& (r11 ^^^ (-1))) mo mn mw (0, 0, 0) mv r12 (by (try dsimp only) <;> omega) (by (try dsimp only) <;> omega) r13 er13) ⟨callB_of 2 hts (yy_good wq_648) rfl rfl rfl (hw _ wq_39) (hw _ wq_645) (by decide +kernel) ⟨Nat.le_of_ble_eq_true rfl, Nat.le_of_ble_eq_true rfl⟩, hw _ wq_647, hw _ wq_30⟩ hK hN hP hD hS hA [0, 1, 2, 3, 4, 5, 6, 7, 8, 9, 10, 11, 12, 13, 14, 15, 16, 17, 18, 19] rfl (by decide) rfl 20 rfl (w2 := (mW cI cJ cZ ma mo r13.2 mw (0, 0, 0) mv r12)) rfl 0 rfl rfl rfl hl.1 rfl (Nat.le_of_ble_eq_true rfl) dX5_fetch_197 ⟨Nat.zero_le _, Nat.zero_le _⟩ (fun H locs hP hD hS => ?_)
        refine W.eq (g2 := F0 m 200 ls [.int (yB r13.1)]) rfl ?_
        refine lv_if_eq (tgt := 218) hx hb dX5_fetch_200 (by decide) (fun h14 => ?_) (fun h14 => ?_)
        · have h14 := yB_0.mp h14
          have hf := yBf h14 hf
          refine lv_bipush (v := (-2)) hx hb dX5_fetch_218 (by decide) ?_
          subst hf
          exact yy_iret (v := (-2)) hx hb hr hP hK hS hlocks dX5_fetch_220
        · have h14 := yB_1 h14
          have hf := yBt h14 hf
          refine lv_aload_n hx hb dX5_fetch_203 rfl (lv_at hl 2 rfl) ?_
          refine lv_iload_n hx hb dX5_fetch_204 rfl (lv_at hl 3 rfl) ?_
          obtain ⟨r15, er15⟩ : ∃ r, r = md_transact nk r13.2 mw := ⟨_, rfl⟩
          have hf := yb_e er15 hf
          refine yz_callV (As := [.int (nI nk)]) (rest := []) ⟨hx, hb, hml, hown, hts⟩ (c_md_transact l D cI cJ cZ cN ma nk mo r13.2 mw (0, 0, 0) mv r12 (by omega) (by first | omega | exact md_wish_le ‹_ = md_wish _ _ _› (by (try dsimp only) <;> omega)) r15 er15) ⟨callB_of 1 hts (yy_good wq_600) rfl rfl rfl (hw _ wq_39) (hw _ wq_597) (by decide +kernel) ⟨Nat.le_of_ble_eq_true rfl, Nat.le_of_ble_eq_true rfl⟩, hw _ wq_599, hw _ wq_21⟩ hK hN hP hD hS hA [0, 1, 2, 3, 4, 5, 6, 7, 8, 9, 10, 11, 12, 13, 14, 15, 16, 17, 18, 19] rfl (by decide) rfl 20 rfl (w2 := (mW cI cJ cZ ma mo r15.2 mw (0, 0, 0) mv r12)) rfl 0 rfl rfl rfl hl.1 rfl (Nat.le_of_ble_eq_true rfl) dX5_fetch_205 ⟨Nat.zero_le _, Nat.zero_le _⟩ (fun H locs hP hD hS => ?_)
          refine W.eq (g2 := F0 m 208 ls [.int (yB r15.1)]) rfl ?_
          refine lv_if_eq (tgt := 218) hx hb dX5_fetch_208 (by decide) (fun h16 => ?_) (fun h16 => ?_)
          · have h16 := yB_0.mp h16
            have hf := yBf h16 hf
            refine lv_bipush (v := (-2)) hx hb dX5_fetch_218 (by decide) ?_
            subst hf
            exact yy_iret (v := (-2)) hx hb hr hP hK hS hlocks dX5_fetch_220
          · have h16 := yB_1 h16
            have hf := yBt h16 hf
            refine lv_aload_n hx hb dX5_fetch_211 rfl (lv_at hl 2 rfl) ?_
            refine va_get (D := D) (ci := 5) (v := .int (nI r12.1)) (C := RX5) (T := TX5) (N := 25) hx hb hts (yy_tl inX5) hown hK hP 0 rfl rfl 20 (by decide) (hw _ wq_505) (fun _ h9 => h9) rfl dX5_fetch_212 ?_
            refine lv_goto (tgt := 220) hx hb dX5_fetch_215 (by decide) ?_
            subst hf
            exact yy_iret (v := (nI r12.1)) hx hb hr hP hK hS hlocks dX5_fetch_220
    | succ k ih =>
      intro i nk wants mw ls H locs hi hv0 hv1 hf hl hP hD hS
      rw [md_fetch_L54] at hf
      refine lv_iload hx hb dX5_fetch_54 (lv_at hl 4 rfl) ?_
      refine lv_iconst (v := (nI 4)) hx hb dX5_fetch_56 (by decide) ?_
      refine lv_icmp_ge (tgt := 136) hx hb dX5_fetch_57 (by decide) (fun h => absurd h (nI_ge (by omega) (by omega))) (fun _ => ?_)
      refine lv_iload_n hx hb dX5_fetch_60 rfl (lv_at hl 2 rfl) ?_
      refine lv_iload hx hb dX5_fetch_61 (lv_at hl 4 rfl) ?_
      refine yr_ishr hx hb dX5_fetch_63 ?_
      refine lv_iconst (v := 1) hx hb dX5_fetch_64 (by decide) ?_
      refine lv_iand hx hb dX5_fetch_65 ?_
      refine lv_iconst (v := 1) hx hb dX5_fetch_66 (by decide) ?_
      refine lv_icmp_ne (tgt := 130) hx hb dX5_fetch_67 (by decide) (fun h17 => ?_) (fun h17 => ?_)
      · have hf := yf h17 hf
        refine lv_iinc (k := 4) (v := (nI (i + 1))) (lv' := [(5, .int (nI (i + 1))), (0, .ref (ma 0)), (1, .int (nI nk)), (2, .int set), (3, .long wants)]) hx hb dX5_fetch_130 hl rfl (yy_inc _) (by decide) rfl (fun ls hl => ?_)
        refine lv_goto (tgt := 54) hx hb dX5_fetch_133 (by decide) ?_
        exact ih (i + 1) nk wants mw _ _ _ (by omega) ‹_› (by first | omega | exact md_wish_le ‹_ = md_wish _ _ _› (by omega)) hf (lv_sub hl [1, 2, 3, 4, 0] rfl) hP hD hS
      · have hf := yt h17 hf
        refine lv_aload_n hx hb dX5_fetch_70 rfl (lv_at hl 0 rfl) ?_
        refine va_get (D := D) (ci := 5) (v := .ref (ma 6)) (C := RX5) (T := TX5) (N := 25) hx hb hts (yy_tl inX5) hown hK hP 0 rfl rfl 6 (by decide) (hw _ wq_491) (fun _ h9 => h9) rfl dX5_fetch_71 ?_
        refine lv_iload hx hb dX5_fetch_74 (lv_at hl 4 rfl) ?_
        refine yr_iald hx hb hK hP 6 0 (f := mn.2.1) (j := i) rfl rfl rfl (by omega) (by decide) dX5_fetch_76 ?_
        refine lv_if_le (tgt := 130) hx hb dX5_fetch_77 (by decide) (fun h18 => ?_) (fun h18 => ?_)
        · have hf := yt h18 hf
          refine lv_iinc (k := 4) (v := (nI (i + 1))) (lv' := [(5, .int (nI (i + 1))), (0, .ref (ma 0)), (1, .int (nI nk)), (2, .int set), (3, .long wants)]) hx hb dX5_fetch_130 hl rfl (yy_inc _) (by decide) rfl (fun ls hl => ?_)
          refine lv_goto (tgt := 54) hx hb dX5_fetch_133 (by decide) ?_
          exact ih (i + 1) nk wants mw _ _ _ (by omega) ‹_› (by first | omega | exact md_wish_le ‹_ = md_wish _ _ _› (by omega)) hf (lv_sub hl [1, 2, 3, 4, 0] rfl) hP hD hS
        · have hf := yf h18 hf
          refine lv_aload_n hx hb dX5_fetch_80 rfl (lv_at hl 0 rfl) ?_
          refine lv_iconst (v := (nI 4)) hx hb dX5_fetch_81 (by decide) ?_
          refine lv_iload hx hb dX5_fetch_82 (lv_at hl 4 rfl) ?_
          refine yr_iaddN hx hb dX5_fetch_84 ?_
          refine lv_aload_n hx hb dX5_fetch_85 rfl (lv_at hl 0 rfl) ?_
          refine va_get (D := D) (ci := 5) (v := .ref (ma 6)) (C := RX5) (T := TX5) (N := 25) hx hb hts (yy_tl inX5) hown hK hP 0 rfl rfl 6 (by decide) (hw _ wq_491) (fun _ h9 => h9) rfl dX5_fetch_86 ?_
          refine lv_iload hx hb dX5_fetch_89 (lv_at hl 4 rfl) ?_
          refine yr_iald hx hb hK hP 6 0 (f := mn.2.1) (j := i) rfl rfl rfl (by omega) (by decide) dX5_fetch_91 ?_
          obtain ⟨r19, er19⟩ : ∃ r, r = md_wish (4 + i) (mn.2.1 i) mw := ⟨_, rfl⟩
          have hf := yb_e er19 hf
          refine yz_callV (As := [.int (nI (4 + i)), .int (mn.2.1 i)]) (rest := []) ⟨hx, hb, hml, hown, hts⟩ (c_md_wish l D cI cJ cZ cN ma (4 + i) (mn.2.1 i) mo mn mw mt mv mp (by (try dsimp only) <;> omega) (by (try dsimp only) <;> omega) r19 er19) ⟨callB_of 2 hts (yy_good wq_596) rfl rfl rfl (hw _ wq_39) (hw _ wq_593) (by decide +kernel) ⟨Nat.le_of_ble_eq_true rfl, Nat.le_of_ble_eq_true rfl⟩, hw _ wq_595, hw _ wq_20⟩ hK hN hP hD hS hA [0, 1, 2, 3, 4, 5, 6, 7, 8, 9, 10, 11, 12, 13, 14, 15, 16, 17, 18, 19] rfl (by decide) rfl 20 rfl (w2 := (mW cI cJ cZ ma mo mn r19 mt mv mp)) rfl 0 rfl rfl rfl hl.1 rfl (Nat.le_of_ble_eq_true rfl) dX5_fetch_92 ⟨Nat.zero_le _, Nat.zero_le _⟩ (fun H locs hP hD hS => ?_)
          refine W.eq (g2 := F0 m 95 ls []) rfl ?_
          refine lv_aload_n hx hb dX5_fetch_95 rfl (lv_at hl 0 rfl) ?_
          refine lv_iload_n hx hb dX5_fetch_96 rfl (lv_at hl 1 rfl) ?_
          refine lv_aload_n hx hb dX5_fetch_97 rfl (lv_at hl 0 rfl) ?_
          refine va_get (D := D) (ci := 5) (v := .ref (ma 6)) (C := RX5) (T := TX5) (N := 25) hx hb hts (yy_tl inX5) hown hK hP 0 rfl rfl 6 (by decide) (hw _ wq_491) (fun _ h9 => h9) rfl dX5_fetch_98 ?_
          refine lv_iload hx hb dX5_fetch_101 (lv_at hl 4 rfl) ?_
          refine yr_iald hx hb hK hP 6 0 (f := mn.2.1) (j := i) rfl rfl rfl (by omega) (by decide) dX5_fetch_103 ?_
          refine lv_iconst (v := 1) hx hb dX5_fetch_104 (by decide) ?_
          refine lv_isub hx hb dX5_fetch_105 ?_
          obtain ⟨r20, er20⟩ : ∃ r, r = md_has nk ((mn.2.1 i) - 1) mo mn := ⟨_, rfl⟩
          have hf := yb_e er20 hf
          refine yz_callV (As := [.int (nI nk), .int ((mn.2.1 i) - 1)]) (rest := []) ⟨hx, hb, hml, hown, hts⟩ (c_md_has l D cI cJ cZ cN ma nk ((mn.2.1 i) - 1) mo mn r19 mt mv mp (by (try dsimp only) <;> omega) r20 er20) ⟨callB_of 2 hts (yy_good wq_576) rfl rfl rfl (hw _ wq_39) (hw _ wq_573) (by decide +kernel) ⟨Nat.le_of_ble_eq_true rfl, Nat.le_of_ble_eq_true rfl⟩, hw _ wq_575, hw _ wq_17⟩ hK hN hP hD hS hA [0, 1, 2, 3, 4, 5, 6, 7, 8, 9, 10, 11, 12, 13, 14, 15, 16, 17, 18, 19] rfl (by decide) rfl 20 rfl (w2 := (mW cI cJ cZ ma mo mn r19 mt mv mp)) rfl 0 rfl rfl rfl hl.1 rfl (Nat.le_of_ble_eq_true rfl) dX5_fetch_106 ⟨Nat.zero_le _, Nat.zero_le _⟩ (fun H locs hP hD hS => ?_)
          refine W.eq (g2 := F0 m 109 ls [.int (yB r20)]) rfl ?_
          refine lv_if_eq (tgt := 116) hx hb dX5_fetch_109 (by decide) (fun h21 => ?_) (fun h21 => ?_)
          · have h21 := yB_0.mp h21
            have hf := yBf h21 hf
            refine lv_lload_n hx hb dX5_fetch_116 rfl (lv_at hl 3 rfl) ?_
            refine lv_lconst (v := 1) hx hb dX5_fetch_117 (by decide) ?_
            refine lv_aload_n hx hb dX5_fetch_118 rfl (lv_at hl 0 rfl) ?_
            refine va_get (D := D) (ci := 5) (v := .ref (ma 6)) (C := RX5) (T := TX5) (N := 25) hx hb hts (yy_tl inX5) hown hK hP 0 rfl rfl 6 (by decide) (hw _ wq_491) (fun _ h9 => h9) rfl dX5_fetch_119 ?_
            refine lv_iload hx hb dX5_fetch_122 (lv_at hl 4 rfl) ?_
            refine yr_iald hx hb hK hP 6 0 (f := mn.2.1) (j := i) rfl rfl rfl (by omega) (by decide) dX5_fetch_124 ?_
            refine lv_iconst (v := 1) hx hb dX5_fetch_125 (by decide) ?_
            refine lv_isub hx hb dX5_fetch_126 ?_
            refine lv_lshl (v := ylshl 1 ((mn.2.1 i) - 1)) hx hb dX5_fetch_127 rfl ?_
            refine lv_lor hx hb dX5_fetch_128 ?_
            refine lv_lstore_n (lv' := [(3, .long (wants ||| (ylshl 1 ((mn.2.1 i) - 1)))), (0, .ref (ma 0)), (1, .int (nI nk)), (2, .int set), (5, .int (nI i))]) hx hb dX5_fetch_129 rfl hl (by decide) rfl (fun ls hl => ?_)
            refine lv_iinc (k := 4) (v := (nI (i + 1))) (lv' := [(5, .int (nI (i + 1))), (3, .long (wants ||| (ylshl 1 ((mn.2.1 i) - 1)))), (0, .ref (ma 0)), (1, .int (nI nk)), (2, .int set)]) hx hb dX5_fetch_130 hl rfl (yy_inc _) (by decide) rfl (fun ls hl => ?_)
            refine lv_goto (tgt := 54) hx hb dX5_fetch_133 (by decide) ?_
            exact ih (i + 1) nk (wants ||| (ylshl 1 ((mn.2.1 i) - 1))) r19 _ _ _ (by omega) ‹_› (by first | omega | exact md_wish_le ‹_ = md_wish _ _ _› (by omega)) hf (lv_sub hl [2, 3, 4, 1, 0] rfl) hP hD hS
          · have h21 := yB_1 h21
            have hf := yBt h21 hf
            refine lv_lload_n hx hb dX5_fetch_112 rfl (lv_at hl 3 rfl) ?_
            refine lv_goto (tgt := 129) hx hb dX5_fetch_113 (by decide) ?_
            refine lv_lstore_n (lv' := [(3, .long wants), (0, .ref (ma 0)), (1, .int (nI nk)), (2, .int set), (5, .int (nI i))]) hx hb dX5_fetch_129 rfl hl (by decide) rfl (fun ls hl => ?_)
            refine lv_iinc (k := 4) (v := (nI (i + 1))) (lv' := [(5, .int (nI (i + 1))), (3, .long wants), (0, .ref (ma 0)), (1, .int (nI nk)), (2, .int set)]) hx hb dX5_fetch_130 hl rfl (yy_inc _) (by decide) rfl (fun ls hl => ?_)
            refine lv_goto (tgt := 54) hx hb dX5_fetch_133 (by decide) ?_
            exact ih (i + 1) nk wants r19 _ _ _ (by omega) ‹_› (by first | omega | exact md_wish_le ‹_ = md_wish _ _ _› (by omega)) hf (lv_sub hl [2, 3, 4, 1, 0] rfl) hP hD hS
  rw [md_fetch] at hf
  refine lv_iload_n hx hb dX5_fetch_0 rfl (lv_at hl 1 rfl) ?_
  refine lv_iconst (v := 1) hx hb dX5_fetch_1 (by decide) ?_
  refine lv_icmp_lt (tgt := 21) hx hb dX5_fetch_2 (by decide) (fun h22 => ?_) (fun h22 => ?_)
  · have hf := yt h22 hf
    refine lv_iconst (v := (-1)) hx hb dX5_fetch_21 (by decide) ?_
    subst hf
    exact yy_iret (v := (-1)) hx hb hr hP hK hS hlocks dX5_fetch_22
  · have hf := yf h22 hf
    refine lv_iload_n hx hb dX5_fetch_5 rfl (lv_at hl 1 rfl) ?_
    refine lv_iconst (v := 2) hx hb dX5_fetch_6 (by decide) ?_
    refine lv_icmp_gt (tgt := 21) hx hb dX5_fetch_7 (by decide) (fun h23 => ?_) (fun h23 => ?_)
    · have hf := yt h23 hf
      refine lv_iconst (v := (-1)) hx hb dX5_fetch_21 (by decide) ?_
      subst hf
      exact yy_iret (v := (-1)) hx hb hr hP hK hS hlocks dX5_fetch_22
    · have hf := yf h23 hf
      refine lv_iload_n hx hb dX5_fetch_10 rfl (lv_at hl 2 rfl) ?_
      refine lv_iconst (v := 1) hx hb dX5_fetch_11 (by decide) ?_
      refine lv_icmp_lt (tgt := 21) hx hb dX5_fetch_12 (by decide) (fun h24 => ?_) (fun h24 => ?_)
      · have hf := yt h24 hf
        refine lv_iconst (v := (-1)) hx hb dX5_fetch_21 (by decide) ?_
        subst hf
        exact yy_iret (v := (-1)) hx hb hr hP hK hS hlocks dX5_fetch_22
      · have hf := yf h24 hf
        refine lv_iload_n hx hb dX5_fetch_15 rfl (lv_at hl 2 rfl) ?_
        refine lv_bipush (v := 15) hx hb dX5_fetch_16 (by decide) ?_
        refine lv_icmp_le (tgt := 23) hx hb dX5_fetch_18 (by decide) (fun h25 => ?_) (fun h25 => ?_)
        · have hf := yt h25 hf
          obtain ⟨nk, hc_nk, h_nk, he_nk⟩ : ∃ k : Nat, node.toNatClampNeg = k ∧ k < 3 ∧ node = nI k := (yy_natC ‹¬ node < 1› ‹¬ 2 < node›)
          have hf_nk := yn_e hc_nk hf
          subst he_nk
          have hf := hf_nk
          refine lv_aload_n hx hb dX5_fetch_23 rfl (lv_at hl 0 rfl) ?_
          refine va_get (D := D) (ci := 5) (v := .ref (ma 7)) (C := RX5) (T := TX5) (N := 25) hx hb hts (yy_tl inX5) hown hK hP 0 rfl rfl 7 (by decide) (hw _ wq_492) (fun _ h9 => h9) rfl dX5_fetch_24 ?_
          refine lv_iload_n hx hb dX5_fetch_27 rfl (lv_at hl 1 rfl) ?_
          refine yr_zaldB hx hb hK hP 7 2 (g := mn.2.2.1) (j := nk) rfl rfl rfl (by omega) (by decide) dX5_fetch_28 ?_
          refine lv_if_ne (tgt := 41) hx hb dX5_fetch_29 (by decide) (fun h26 => ?_) (fun h26 => ?_)
          · have h26 := yB_1 h26
            have hf := yBt h26 hf
            refine lv_bipush (v := (-2)) hx hb dX5_fetch_41 (by decide) ?_
            subst hf
            exact yy_iret (v := (-2)) hx hb hr hP hK hS hlocks dX5_fetch_43
          · have h26 := yB_0.mp h26
            have hf := yBf h26 hf
            refine lv_aload_n hx hb dX5_fetch_32 rfl (lv_at hl 0 rfl) ?_
            refine va_get (D := D) (ci := 5) (v := .ref (ma 7)) (C := RX5) (T := TX5) (N := 25) hx hb hts (yy_tl inX5) hown hK hP 0 rfl rfl 7 (by decide) (hw _ wq_492) (fun _ h9 => h9) rfl dX5_fetch_33 ?_
            refine lv_iconst (v := (nI 0)) hx hb dX5_fetch_36 (by decide) ?_
            refine yr_zaldB hx hb hK hP 7 2 (g := mn.2.2.1) (j := 0) rfl rfl rfl (by omega) (by decide) dX5_fetch_37 ?_
            refine lv_if_eq (tgt := 44) hx hb dX5_fetch_38 (by decide) (fun h27 => ?_) (fun h27 => ?_)
            · have h27 := yB_0.mp h27
              have hf := yBf h27 hf
              refine lv_lconst (v := 0) hx hb dX5_fetch_44 (by decide) ?_
              refine lv_lstore_n (lv' := [(3, .long 0), (0, .ref (ma 0)), (1, .int (nI nk)), (2, .int set)]) hx hb dX5_fetch_45 rfl hl (by decide) rfl (fun ls hl => ?_)
              refine lv_aload_n hx hb dX5_fetch_46 rfl (lv_at hl 1 rfl) ?_
              refine lv_iconst (v := (nI 0)) hx hb dX5_fetch_47 (by decide) ?_
              refine va_put (D := D) (ci := 5) (v := .int (nI 0)) (ty := .int) (C := RX5) (T := TX5) (N := 25) hx hb hts (yy_tl inX5) tyX5 tyX5_ok nX5 hown hK hP hD hS 0 rfl rfl 13 (by decide) (hw _ wq_498) (fun _ h9 => h9) rfl (by decide +kernel) rfl rfl (Nat.le_of_ble_eq_true rfl) dX5_fetch_48 (fun H locs hP hD hS => ?_)
              have hP : va_P D vwCl (mW cI cJ cZ ma mo mn (0, mw.2.1, mw.2.2) mt mv mp) H := hP
              have hD : va_D A (mW cI cJ cZ ma mo mn (0, mw.2.1, mw.2.2) mt mv mp) := hD
              refine lv_iconst (v := (nI 0)) hx hb dX5_fetch_51 (by decide) ?_
              refine lv_istore (lv' := [(5, .int (nI 0)), (3, .long 0), (0, .ref (ma 0)), (1, .int (nI nk)), (2, .int set)]) hx hb dX5_fetch_52 hl (by decide) rfl (fun ls hl => ?_)
              exact hL54 4 0 nk 0 (0, mw.2.1, mw.2.2) _ _ _ (by omega) h_nk (by (try dsimp only) <;> omega) hf (lv_sub hl [2, 3, 4, 1, 0] rfl) hP hD hS
            · have h27 := yB_1 h27
              have hf := yBt h27 hf
              refine lv_bipush (v := (-2)) hx hb dX5_fetch_41 (by decide) ?_
              subst hf
              exact yy_iret (v := (-2)) hx hb hr hP hK hS hlocks dX5_fetch_43
        · have hf := yf h25 hf
          refine lv_iconst (v := (-1)) hx hb dX5_fetch_21 (by decide) ?_
          subst hf
          exact yy_iret (v := (-1)) hx hb hr hP hK hS hlocks dX5_fetch_22

set_option maxHeartbeats 4000000 in
set_option maxRecDepth 100000 in
theorem c_md_judge (l : Launch) (D : va_G) (cI cJ cZ cN : ClassId) (ma : Nat → Nat) (r : Nat) (old : Int32) (fresh : Int32) (mo : MO) (mn : MN) (mw : MW) (mt : MT) (mv : (Nat → Int32)) (mp : MP) (ho : mo.1 ≤ 60) (hr4 : r < 4) (res : Int32) (hf : res = md_judge r old fresh mo mn) : yy_Met l yX5_judge wsX5_judge { frames := 1, cells := 0, slots := 0, locals := 25 } D vwCl (yT cI cJ cZ cN) [.ref (ma 0), .int (nI r), .int old, .int fresh] (mW cI cJ cZ ma mo mn mw mt mv mp) (some (.int res)) (mW cI cJ cZ ma mo mn mw mt mv mp) := by
  intro sz
  refine Met.ofW (cc := cX5_judge) (maxL := 4) (ret := (some .int)) (by decide) rfl ?_
  intro p e s m args below meth c s₁ B hml hv
  obtain ⟨rfl, hsz, hP, hK, hD0, hN⟩ := hv
  have hx := B.exec
  have hb := B.bytes
  have hr := B.returns
  have hts := atoms_spec (ws := wsX5_judge) B.pre
  have hw : ∀ w ∈ yW, w.before _ s = true := fun w h => hts w (List.mem_cons_of_mem _ h)
  have hown : s.vm.findClass RX5 = some m.cls := findClass_of_methodNamed B.named
  have hlocks := B.notSynchronized
  subst hsz
  have hD := hD0.self (sz := s.heap.size)
  generalize hAe : va_A (mW cI cJ cZ ma mo mn mw mt mv mp) s.heap.size = A at hD ⊢
  have hA : ∀ q : Nat, s.heap.size ≤ q → A q := fun q h => by rw [← hAe]; exact Or.inr h
  have hS : va_S A s.heap s.heap [] := va_S.rf
  have hl := lv_entry ([.ref (ma 0), .int (nI r), .int old, .int fresh]) (n := 4) (Nat.le_of_ble_eq_true rfl)
  rw [lg_entry_eq]
  generalize (lg_sl ([.ref (ma 0), .int (nI r), .int old, .int fresh]) ++ List.replicate (4 - (lg_sl ([.ref (ma 0), .int (nI r), .int old, .int fresh])).length) Slot.unset).toArray = ls at hl ⊢
  have hl : lv_has ls 4 [(0, .ref (ma 0)), (1, .int (nI r)), (2, .int old), (3, .int fresh)] := hl
  rw [md_judge] at hf
  refine lv_aload_n hx hb dX5_judge_0 rfl (lv_at hl 0 rfl) ?_
  refine va_get (D := D) (ci := 5) (v := .ref (ma 6)) (C := RX5) (T := TX5) (N := 25) hx hb hts (yy_tl inX5) hown hK hP 0 rfl rfl 6 (by decide) (hw _ wq_491) (fun _ h9 => h9) rfl dX5_judge_1 ?_
  refine lv_iload_n hx hb dX5_judge_4 rfl (lv_at hl 1 rfl) ?_
  refine yr_iald hx hb hK hP 6 0 (f := mn.2.1) (j := r) rfl rfl rfl (by omega) (by decide) dX5_judge_5 ?_
  refine lv_iload_n hx hb dX5_judge_6 rfl (lv_at hl 2 rfl) ?_
  refine lv_icmp_eq (tgt := 12) hx hb dX5_judge_7 (by decide) (fun h1 => ?_) (fun h1 => ?_)
  · have hf := yt h1 hf
    refine lv_iload_n hx hb dX5_judge_12 rfl (lv_at hl 2 rfl) ?_
    refine lv_if_le (tgt := 40) hx hb dX5_judge_13 (by decide) (fun h2 => ?_) (fun h2 => ?_)
    · have hf := yt h2 hf
      refine lv_iconst (v := 1) hx hb dX5_judge_40 (by decide) ?_
      subst hf
      exact yy_iret (v := 1) hx hb hr hP hK hS hlocks dX5_judge_41
    · have hf := yf h2 hf
      refine lv_aload_n hx hb dX5_judge_16 rfl (lv_at hl 0 rfl) ?_
      refine lv_lconst (v := 1) hx hb dX5_judge_17 (by decide) ?_
      refine lv_iload_n hx hb dX5_judge_18 rfl (lv_at hl 3 rfl) ?_
      refine lv_iconst (v := 1) hx hb dX5_judge_19 (by decide) ?_
      refine lv_isub hx hb dX5_judge_20 ?_
      refine lv_lshl (v := ylshl 1 (fresh - 1)) hx hb dX5_judge_21 rfl ?_
      obtain ⟨r3, er3⟩ : ∃ r, r = md_reach (ylshl 1 (fresh - 1)) mo := ⟨_, rfl⟩
      have hf := yb_e er3 hf
      refine yz_callV (As := [.long (ylshl 1 (fresh - 1))]) (rest := []) ⟨hx, hb, hml, hown, hts⟩ (c_md_reach l D cI cJ cZ cN ma (ylshl 1 (fresh - 1)) mo mn mw mt mv mp (by (try dsimp only) <;> omega) r3 er3) ⟨callB_of 1 hts (yy_good wq_628) rfl rfl rfl (hw _ wq_39) (hw _ wq_625) (by decide +kernel) ⟨Nat.le_of_ble_eq_true rfl, Nat.le_of_ble_eq_true rfl⟩, hw _ wq_627, hw _ wq_26⟩ hK hN hP hD hS hA [0, 1, 2, 3, 4, 5, 6, 7, 8, 9, 10, 11, 12, 13, 14, 15, 16, 17, 18, 19] rfl (by decide) rfl 20 rfl (w2 := (mW cI cJ cZ ma mo mn mw mt mv mp)) rfl 0 rfl rfl rfl hl.1 rfl (Nat.le_of_ble_eq_true rfl) dX5_judge_22 ⟨Nat.zero_le _, Nat.zero_le _⟩ (fun H locs hP hD hS => ?_)
      refine W.eq (g2 := F0 m 25 ls [.long r3]) rfl ?_
      refine lv_iload_n hx hb dX5_judge_25 rfl (lv_at hl 2 rfl) ?_
      refine lv_iconst (v := 1) hx hb dX5_judge_26 (by decide) ?_
      refine lv_isub hx hb dX5_judge_27 ?_
      refine lv_lshr (v := ylshr r3 (old - 1)) hx hb dX5_judge_28 rfl ?_
      refine lv_lconst (v := 1) hx hb dX5_judge_29 (by decide) ?_
      refine lv_land hx hb dX5_judge_30 ?_
      refine lv_lconst (v := 0) hx hb dX5_judge_31 (by decide) ?_
      refine W.lcmp hx hb dX5_judge_32 ?_
      refine lv_if_ne (tgt := 40) hx hb dX5_judge_33 (by decide) (fun h4 => ?_) (fun h4 => ?_)
      · have h4 := yy_cmp1 h4
        have hf := yf h4 hf
        refine lv_iconst (v := 1) hx hb dX5_judge_40 (by decide) ?_
        subst hf
        exact yy_iret (v := 1) hx hb hr hP hK hS hlocks dX5_judge_41
      · have h4 := yy_cmp0 h4
        have hf := yt h4 hf
        refine lv_iconst (v := 3) hx hb dX5_judge_36 (by decide) ?_
        refine lv_goto (tgt := 41) hx hb dX5_judge_37 (by decide) ?_
        subst hf
        exact yy_iret (v := 3) hx hb hr hP hK hS hlocks dX5_judge_41
  · have hf := yf h1 hf
    refine lv_iconst (v := 2) hx hb dX5_judge_10 (by decide) ?_
    subst hf
    exact yy_iret (v := 2) hx hb hr hP hK hS hlocks dX5_judge_11

set_option maxHeartbeats 4000000 in
set_option maxRecDepth 100000 in
theorem c_md_carry (l : Launch) (D : va_G) (cI cJ cZ cN : ClassId) (ma : Nat → Nat) (nk : Nat) (set : Int32) (mo : MO) (mn : MN) (mw : MW) (mt : MT) (mv : (Nat → Int32)) (mp : MP) (hk3 : nk < 3) (ho : mo.1 ≤ 60) (res : Bool × MN × MW × MP) (hf : res = md_carry nk set mo mn mw mp) : yy_Met l yX5_carry wsX5_carry { frames := 4, cells := 0, slots := 0, locals := 87 } D vwCl (yT cI cJ cZ cN) [.ref (ma 0), .int (nI nk), .int set] (mW cI cJ cZ ma mo mn mw mt mv mp) (some (.int (yB res.1))) (mW cI cJ cZ ma mo res.2.1 res.2.2.1 mt mv res.2.2.2) := by
  intro sz
  refine Met.ofW (cc := cX5_carry) (maxL := 12) (ret := (some .boolean)) (by decide) rfl ?_
  intro p e s m args below meth c s₁ B hml hv
  obtain ⟨rfl, hsz, hP, hK, hD0, hN⟩ := hv
  have hx := B.exec
  have hb := B.bytes
  have hr := B.returns
  have hts := atoms_spec (ws := wsX5_carry) B.pre
  have hw : ∀ w ∈ yW, w.before _ s = true := fun w h => hts w (List.mem_cons_of_mem _ h)
  have hown : s.vm.findClass RX5 = some m.cls := findClass_of_methodNamed B.named
  have hlocks := B.notSynchronized
  subst hsz
  have hD := hD0.self (sz := s.heap.size)
  generalize hAe : va_A (mW cI cJ cZ ma mo mn mw mt mv mp) s.heap.size = A at hD ⊢
  have hA : ∀ q : Nat, s.heap.size ≤ q → A q := fun q h => by rw [← hAe]; exact Or.inr h
  have hS : va_S A s.heap s.heap [] := va_S.rf
  have hl := lv_entry ([.ref (ma 0), .int (nI nk), .int set]) (n := 12) (Nat.le_of_ble_eq_true rfl)
  rw [lg_entry_eq]
  generalize (lg_sl ([.ref (ma 0), .int (nI nk), .int set]) ++ List.replicate (12 - (lg_sl ([.ref (ma 0), .int (nI nk), .int set])).length) Slot.unset).toArray = ls at hl ⊢
  have hl : lv_has ls 12 [(0, .ref (ma 0)), (1, .int (nI nk)), (2, .int set)] := hl
  have hL119 : ∀ (packed : Int64) (sd : Nat) (nod : Nat) (mn : MN) (mp : MP) (K : MW → (Bool × MN × MW × MP)) (hK0 : ∀ (mw : MW) (ls : Array Slot) (H : Heap) (locs : List Loc), (mw.1 ≤ 4) → res = K mw → lv_has ls 12 [(0, .ref (ma 0)), (1, .int (nI nk)), (2, .int set), (7, .long packed), (9, .int (nI sd)), (10, .int (nI nod))] → va_P D vwCl (mW cI cJ cZ ma mo mn mw mt mv mp) H → va_D A (mW cI cJ cZ ma mo mn mw mt mv mp) → va_S A s.heap H locs → W p l e (headSpec wsX5_carry { frames := 4, cells := 0, slots := 0, locals := 87 }).room s m ([.ref (ma 0), .int (nI nk), .int set] : List Value).toArray below meth c H locs 0 0 (MQ below (yy_Q A D vwCl (yT cI cJ cZ cN) (mW cI cJ cZ ma mo res.2.1 res.2.2.1 mt mv res.2.2.2) (some (.int (yB res.1)))) ([.ref (ma 0), .int (nI nk), .int set] : List Value).toArray s 0 0 A) (F0 m 171 ls [])) (k : Nat) (i : Nat) (mw : MW) (ls : Array Slot) (H : Heap) (locs : List Loc), i + k = 4 → nod < 3 → mw.1 ≤ i → res = md_carry_L119 nk set sd mn K k i mw → lv_has ls 12 [(0, .ref (ma 0)), (1, .int (nI nk)), (2, .int set), (7, .long packed), (9, .int (nI sd)), (10, .int (nI nod)), (11, .int (nI i))] → va_P D vwCl (mW cI cJ cZ ma mo mn mw mt mv mp) H → va_D A (mW cI cJ cZ ma mo mn mw mt mv mp) → va_S A s.heap H locs → W p l e (headSpec wsX5_carry { frames := 4, cells := 0, slots := 0, locals := 87 }).room s m ([.ref (ma 0), .int (nI nk), .int set] : List Value).toArray below meth c H locs 0 0 (MQ below (yy_Q A D vwCl (yT cI cJ cZ cN) (mW cI cJ cZ ma mo res.2.1 res.2.2.1 mt mv res.2.2.2) (some (.int (yB res.1)))) ([.ref (ma 0), .int (nI nk), .int set] : List Value).toArray s 0 0 A) (F0 m 119 ls []) := by
    intro packed sd nod mn mp K hK0
    intro k
    induction k with
    | zero =>
      intro i mw ls H locs hi hv0 hv1 hf hl hP hD hS
      rw [md_carry_L119] at hf
      refine lv_iload hx hb dX5_carry_119 (lv_at hl 6 rfl) ?_
      refine lv_iconst (v := (nI 4)) hx hb dX5_carry_121 (by decide) ?_
      refine lv_icmp_ge (tgt := 171) hx hb dX5_carry_122 (by decide) (fun _ => ?_) (fun h => absurd (nI_le (by omega) (by omega)) h)
      exact hK0 mw _ _ _ (by omega) hf (lv_sub hl [0, 1, 2, 3, 4, 5] rfl) hP hD hS
    | succ k ih =>
      intro i mw ls H locs hi hv0 hv1 hf hl hP hD hS
      rw [md_carry_L119] at hf
      refine lv_iload hx hb dX5_carry_119 (lv_at hl 6 rfl) ?_
      refine lv_iconst (v := (nI 4)) hx hb dX5_carry_121 (by decide) ?_
      refine lv_icmp_ge (tgt := 171) hx hb dX5_carry_122 (by decide) (fun h => absurd h (nI_ge (by omega) (by omega))) (fun _ => ?_)
      refine lv_iload_n hx hb dX5_carry_125 rfl (lv_at hl 2 rfl) ?_
      refine lv_iload hx hb dX5_carry_126 (lv_at hl 6 rfl) ?_
      refine yr_ishr hx hb dX5_carry_128 ?_
      refine lv_iconst (v := 1) hx hb dX5_carry_129 (by decide) ?_
      refine lv_iand hx hb dX5_carry_130 ?_
      refine lv_iconst (v := 1) hx hb dX5_carry_131 (by decide) ?_
      refine lv_icmp_ne (tgt := 165) hx hb dX5_carry_132 (by decide) (fun h1 => ?_) (fun h1 => ?_)
      · have hf := yf h1 hf
        refine lv_iinc (k := 6) (v := (nI (i + 1))) (lv' := [(11, .int (nI (i + 1))), (0, .ref (ma 0)), (1, .int (nI nk)), (2, .int set), (7, .long packed), (9, .int (nI sd)), (10, .int (nI nod))]) hx hb dX5_carry_165 hl rfl (yy_inc _) (by decide) rfl (fun ls hl => ?_)
        refine lv_goto (tgt := 119) hx hb dX5_carry_168 (by decide) ?_
        exact ih (i + 1) mw _ _ _ (by omega) (by omega) (by first | omega | exact md_wish_le ‹_ = md_wish _ _ _› (by omega)) hf (lv_sub hl [1, 2, 3, 4, 5, 6, 0] rfl) hP hD hS
      · have hf := yt h1 hf
        refine lv_aload_n hx hb dX5_carry_135 rfl (lv_at hl 0 rfl) ?_
        refine lv_iload hx hb dX5_carry_136 (lv_at hl 4 rfl) ?_
        refine lv_if_ne (tgt := 146) hx hb dX5_carry_138 (by decide) (fun h2 => ?_) (fun h2 => ?_)
        · have hf := yf h2 hf
          refine lv_iconst (v := (nI 4)) hx hb dX5_carry_146 (by decide) ?_
          refine lv_iload hx hb dX5_carry_147 (lv_at hl 6 rfl) ?_
          refine yr_iaddN hx hb dX5_carry_149 ?_
          refine lv_aload_n hx hb dX5_carry_150 rfl (lv_at hl 0 rfl) ?_
          refine va_get (D := D) (ci := 5) (v := .ref (ma 6)) (C := RX5) (T := TX5) (N := 25) hx hb hts (yy_tl inX5) hown hK hP 0 rfl rfl 6 (by decide) (hw _ wq_491) (fun _ h9 => h9) rfl dX5_carry_151 ?_
          refine lv_bipush (v := (nI 8)) hx hb dX5_carry_154 (by decide) ?_
          refine lv_iload_n hx hb dX5_carry_156 rfl (lv_at hl 1 rfl) ?_
          refine yr_imulN hx hb dX5_carry_157 ?_
          refine lv_iload hx hb dX5_carry_158 (lv_at hl 6 rfl) ?_
          refine yr_iaddN hx hb dX5_carry_160 ?_
          refine yr_iald hx hb hK hP 6 0 (f := mn.2.1) (j := (8 * nk) + i) rfl rfl rfl (by omega) (by decide) dX5_carry_161 ?_
          obtain ⟨r3, er3⟩ : ∃ r, r = md_wish (4 + i) (mn.2.1 ((8 * nk) + i)) mw := ⟨_, rfl⟩
          have hf := yb_e er3 hf
          refine yz_callV (As := [.int (nI (4 + i)), .int (mn.2.1 ((8 * nk) + i))]) (rest := []) ⟨hx, hb, hml, hown, hts⟩ (c_md_wish l D cI cJ cZ cN ma (4 + i) (mn.2.1 ((8 * nk) + i)) mo mn mw mt mv mp (by (try dsimp only) <;> omega) (by (try dsimp only) <;> omega) r3 er3) ⟨callB_of 2 hts (yy_good wq_596) rfl rfl rfl (hw _ wq_39) (hw _ wq_593) (by decide +kernel) ⟨Nat.le_of_ble_eq_true rfl, Nat.le_of_ble_eq_true rfl⟩, hw _ wq_595, hw _ wq_20⟩ hK hN hP hD hS hA [0, 1, 2, 3, 4, 5, 6, 7, 8, 9, 10, 11, 12, 13, 14, 15, 16, 17, 18, 19] rfl (by decide) rfl 20 rfl (w2 := (mW cI cJ cZ ma mo mn r3 mt mv mp)) rfl 0 rfl rfl rfl hl.1 rfl (Nat.le_of_ble_eq_true rfl) dX5_carry_162 ⟨Nat.zero_le _, Nat.zero_le _⟩ (fun H locs hP hD hS => ?_)
          refine W.eq (g2 := F0 m 165 ls []) rfl ?_
          refine lv_iinc (k := 6) (v := (nI (i + 1))) (lv' := [(11, .int (nI (i + 1))), (0, .ref (ma 0)), (1, .int (nI nk)), (2, .int set), (7, .long packed), (9, .int (nI sd)), (10, .int (nI nod))]) hx hb dX5_carry_165 hl rfl (yy_inc _) (by decide) rfl (fun ls hl => ?_)
          refine lv_goto (tgt := 119) hx hb dX5_carry_168 (by decide) ?_
          exact ih (i + 1) r3 _ _ _ (by omega) (by omega) (by first | omega | exact md_wish_le ‹_ = md_wish _ _ _› (by omega)) hf (lv_sub hl [1, 2, 3, 4, 5, 6, 0] rfl) hP hD hS
        · have hf := yt h2 hf
          refine lv_iload hx hb dX5_carry_141 (lv_at hl 6 rfl) ?_
          refine lv_goto (tgt := 150) hx hb dX5_carry_143 (by decide) ?_
          refine lv_aload_n hx hb dX5_carry_150 rfl (lv_at hl 0 rfl) ?_
          refine va_get (D := D) (ci := 5) (v := .ref (ma 6)) (C := RX5) (T := TX5) (N := 25) hx hb hts (yy_tl inX5) hown hK hP 0 rfl rfl 6 (by decide) (hw _ wq_491) (fun _ h9 => h9) rfl dX5_carry_151 ?_
          refine lv_bipush (v := (nI 8)) hx hb dX5_carry_154 (by decide) ?_
          refine lv_iload_n hx hb dX5_carry_156 rfl (lv_at hl 1 rfl) ?_
          refine yr_imulN hx hb dX5_carry_157 ?_
          refine lv_iload hx hb dX5_carry_158 (lv_at hl 6 rfl) ?_
          refine yr_iaddN hx hb dX5_carry_160 ?_
          refine yr_iald hx hb hK hP 6 0 (f := mn.2.1) (j := (8 * nk) + i) rfl rfl rfl (by omega) (by decide) dX5_carry_161 ?_
          obtain ⟨r4, er4⟩ : ∃ r, r = md_wish i (mn.2.1 ((8 * nk) + i)) mw := ⟨_, rfl⟩
          have hf := yb_e er4 hf
          refine yz_callV (As := [.int (nI i), .int (mn.2.1 ((8 * nk) + i))]) (rest := []) ⟨hx, hb, hml, hown, hts⟩ (c_md_wish l D cI cJ cZ cN ma i (mn.2.1 ((8 * nk) + i)) mo mn mw mt mv mp (by (try dsimp only) <;> omega) (by (try dsimp only) <;> omega) r4 er4) ⟨callB_of 2 hts (yy_good wq_596) rfl rfl rfl (hw _ wq_39) (hw _ wq_593) (by decide +kernel) ⟨Nat.le_of_ble_eq_true rfl, Nat.le_of_ble_eq_true rfl⟩, hw _ wq_595, hw _ wq_20⟩ hK hN hP hD hS hA [0, 1, 2, 3, 4, 5, 6, 7, 8, 9, 10, 11, 12, 13, 14, 15, 16, 17, 18, 19] rfl (by decide) rfl 20 rfl (w2 := (mW cI cJ cZ ma mo mn r4 mt mv mp)) rfl 0 rfl rfl rfl hl.1 rfl (Nat.le_of_ble_eq_true rfl) dX5_carry_162 ⟨Nat.zero_le _, Nat.zero_le _⟩ (fun H locs hP hD hS => ?_)
          refine W.eq (g2 := F0 m 165 ls []) rfl ?_
          refine lv_iinc (k := 6) (v := (nI (i + 1))) (lv' := [(11, .int (nI (i + 1))), (0, .ref (ma 0)), (1, .int (nI nk)), (2, .int set), (7, .long packed), (9, .int (nI sd)), (10, .int (nI nod))]) hx hb dX5_carry_165 hl rfl (yy_inc _) (by decide) rfl (fun ls hl => ?_)
          refine lv_goto (tgt := 119) hx hb dX5_carry_168 (by decide) ?_
          exact ih (i + 1) r4 _ _ _ (by omega) (by omega) (by first | omega | exact md_wish_le ‹_ = md_wish _ _ _› (by omega)) hf (lv_sub hl [1, 2, 3, 4, 5, 6, 0] rfl) hP hD hS
  have hL93 : ∀ (k : Nat) (sd : Nat) (packed : Int64) (mn : MN) (mw : MW) (mp : MP) (ls : Array Slot) (H : Heap) (locs : List Loc), sd + k = 2 → res = md_carry_L93 nk set mo k sd packed mn mw mp → lv_has ls 12 [(0, .ref (ma 0)), (1, .int (nI nk)), (2, .int set), (7, .long packed), (9, .int (nI sd))] → va_P D vwCl (mW cI cJ cZ ma mo mn mw mt mv mp) H → va_D A (mW cI cJ cZ ma mo mn mw mt mv mp) → va_S A s.heap H locs → W p l e (headSpec wsX5_carry { frames := 4, cells := 0, slots := 0, locals := 87 }).room s m ([.ref (ma 0), .int (nI nk), .int set] : List Value).toArray below meth c H locs 0 0 (MQ below (yy_Q A D vwCl (yT cI cJ cZ cN) (mW cI cJ cZ ma mo res.2.1 res.2.2.1 mt mv res.2.2.2) (some (.int (yB res.1)))) ([.ref (ma 0), .int (nI nk), .int set] : List Value).toArray s 0 0 A) (F0 m 93 ls []) := by
    intro k
    induction k with
    | zero =>
      intro sd packed mn mw mp ls H locs hi hf hl hP hD hS
      rw [md_carry_L93] at hf
      refine lv_iload hx hb dX5_carry_93 (lv_at hl 4 rfl) ?_
      refine lv_iconst (v := (nI 2)) hx hb dX5_carry_95 (by decide) ?_
      refine lv_icmp_ge (tgt := 203) hx hb dX5_carry_96 (by decide) (fun _ => ?_) (fun h => absurd (nI_le (by omega) (by omega)) h)
      refine lv_iconst (v := 1) hx hb dX5_carry_203 (by decide) ?_
      subst hf
      exact yy_zret (v := yB true) hx hb hr (yB_n _) hP hK hS hlocks dX5_carry_204
    | succ k ih =>
      intro sd packed mn mw mp ls H locs hi hf hl hP hD hS
      rw [md_carry_L93] at hf
      refine lv_iload hx hb dX5_carry_93 (lv_at hl 4 rfl) ?_
      refine lv_iconst (v := (nI 2)) hx hb dX5_carry_95 (by decide) ?_
      refine lv_icmp_ge (tgt := 203) hx hb dX5_carry_96 (by decide) (fun h => absurd h (nI_ge (by omega) (by omega))) (fun _ => ?_)
      refine lv_iload hx hb dX5_carry_99 (lv_at hl 4 rfl) ?_
      refine lv_if_ne (tgt := 108) hx hb dX5_carry_101 (by decide) (fun h5 => ?_) (fun h5 => ?_)
      · have hf := yf h5 hf
        refine lv_iload_n hx hb dX5_carry_108 rfl (lv_at hl 1 rfl) ?_
        refine lv_istore (lv' := [(10, .int (nI nk)), (0, .ref (ma 0)), (1, .int (nI nk)), (2, .int set), (7, .long packed), (9, .int (nI sd))]) hx hb dX5_carry_109 hl (by decide) rfl (fun ls hl => ?_)
        refine lv_aload_n hx hb dX5_carry_111 rfl (lv_at hl 1 rfl) ?_
        refine lv_iconst (v := (nI 0)) hx hb dX5_carry_112 (by decide) ?_
        refine va_put (D := D) (ci := 5) (v := .int (nI 0)) (ty := .int) (C := RX5) (T := TX5) (N := 25) hx hb hts (yy_tl inX5) tyX5 tyX5_ok nX5 hown hK hP hD hS 0 rfl rfl 13 (by decide) (hw _ wq_498) (fun _ h9 => h9) rfl (by decide +kernel) rfl rfl (Nat.le_of_ble_eq_true rfl) dX5_carry_113 (fun H locs hP hD hS => ?_)
        have hP : va_P D vwCl (mW cI cJ cZ ma mo mn (0, mw.2.1, mw.2.2) mt mv mp) H := hP
        have hD : va_D A (mW cI cJ cZ ma mo mn (0, mw.2.1, mw.2.2) mt mv mp) := hD
        refine lv_iconst (v := (nI 0)) hx hb dX5_carry_116 (by decide) ?_
        refine lv_istore (lv' := [(11, .int (nI 0)), (10, .int (nI nk)), (0, .ref (ma 0)), (1, .int (nI nk)), (2, .int set), (7, .long packed), (9, .int (nI sd))]) hx hb dX5_carry_117 hl (by decide) rfl (fun ls hl => ?_)
        refine hL119 packed sd nk mn mp _ (fun mw ls H locs hz0 hf hl hP hD hS => ?_) 4 0 (0, mw.2.1, mw.2.2) _ _ _ (by omega) (by omega) (by (try dsimp only) <;> omega) hf (lv_sub hl [2, 3, 4, 5, 6, 1, 0] rfl) hP hD hS
        refine lv_iload hx hb dX5_carry_171 (lv_at hl 4 rfl) ?_
        refine lv_if_ne (tgt := 186) hx hb dX5_carry_173 (by decide) (fun _ => ?_) (fun h => absurd h h5)
        refine lv_aload_n hx hb dX5_carry_186 rfl (lv_at hl 0 rfl) ?_
        refine lv_iload hx hb dX5_carry_187 (lv_at hl 5 rfl) ?_
        obtain ⟨r7, er7⟩ : ∃ r, r = md_transact nk mn mw := ⟨_, rfl⟩
        have hf := yb_e er7 hf
        refine yz_callV (As := [.int (nI nk)]) (rest := []) ⟨hx, hb, hml, hown, hts⟩ (c_md_transact l D cI cJ cZ cN ma nk mo mn mw mt mv mp (by omega) (by first | omega | exact md_wish_le ‹_ = md_wish _ _ _› (by (try dsimp only) <;> omega)) r7 er7) ⟨callB_of 1 hts (yy_good wq_600) rfl rfl rfl (hw _ wq_39) (hw _ wq_597) (by decide +kernel) ⟨Nat.le_of_ble_eq_true rfl, Nat.le_of_ble_eq_true rfl⟩, hw _ wq_599, hw _ wq_21⟩ hK hN hP hD hS hA [0, 1, 2, 3, 4, 5, 6, 7, 8, 9, 10, 11, 12, 13, 14, 15, 16, 17, 18, 19] rfl (by decide) rfl 20 rfl (w2 := (mW cI cJ cZ ma mo r7.2 mw mt mv mp)) rfl 0 rfl rfl rfl hl.1 rfl (Nat.le_of_ble_eq_true rfl) dX5_carry_189 ⟨Nat.zero_le _, Nat.zero_le _⟩ (fun H locs hP hD hS => ?_)
        refine W.eq (g2 := F0 m 192 ls [.int (yB r7.1)]) rfl ?_
        refine lv_if_ne (tgt := 197) hx hb dX5_carry_192 (by decide) (fun h8 => ?_) (fun h8 => ?_)
        · have h8 := yB_1 h8
          have hf := yBt h8 hf
          refine lv_iinc (k := 4) (v := (nI (sd + 1))) (lv' := [(9, .int (nI (sd + 1))), (0, .ref (ma 0)), (1, .int (nI nk)), (2, .int set), (7, .long packed), (10, .int (nI nk))]) hx hb dX5_carry_197 hl rfl (yy_inc _) (by decide) rfl (fun ls hl => ?_)
          refine lv_goto (tgt := 93) hx hb dX5_carry_200 (by decide) ?_
          exact ih (sd + 1) packed r7.2 mw mp _ _ _ (by omega) hf (lv_sub hl [1, 2, 3, 4, 0] rfl) hP hD hS
        · have h8 := yB_0.mp h8
          have hf := yBf h8 hf
          refine lv_iconst (v := 0) hx hb dX5_carry_195 (by decide) ?_
          subst hf
          exact yy_zret (v := yB false) hx hb hr (yB_n _) hP hK hS hlocks dX5_carry_196
      · have hf := yt h5 hf
        refine lv_iconst (v := (nI 0)) hx hb dX5_carry_104 (by decide) ?_
        refine lv_goto (tgt := 109) hx hb dX5_carry_105 (by decide) ?_
        refine lv_istore (lv' := [(10, .int (nI 0)), (0, .ref (ma 0)), (1, .int (nI nk)), (2, .int set), (7, .long packed), (9, .int (nI sd))]) hx hb dX5_carry_109 hl (by decide) rfl (fun ls hl => ?_)
        refine lv_aload_n hx hb dX5_carry_111 rfl (lv_at hl 1 rfl) ?_
        refine lv_iconst (v := (nI 0)) hx hb dX5_carry_112 (by decide) ?_
        refine va_put (D := D) (ci := 5) (v := .int (nI 0)) (ty := .int) (C := RX5) (T := TX5) (N := 25) hx hb hts (yy_tl inX5) tyX5 tyX5_ok nX5 hown hK hP hD hS 0 rfl rfl 13 (by decide) (hw _ wq_498) (fun _ h9 => h9) rfl (by decide +kernel) rfl rfl (Nat.le_of_ble_eq_true rfl) dX5_carry_113 (fun H locs hP hD hS => ?_)
        have hP : va_P D vwCl (mW cI cJ cZ ma mo mn (0, mw.2.1, mw.2.2) mt mv mp) H := hP
        have hD : va_D A (mW cI cJ cZ ma mo mn (0, mw.2.1, mw.2.2) mt mv mp) := hD
        refine lv_iconst (v := (nI 0)) hx hb dX5_carry_116 (by decide) ?_
        refine lv_istore (lv' := [(11, .int (nI 0)), (10, .int (nI 0)), (0, .ref (ma 0)), (1, .int (nI nk)), (2, .int set), (7, .long packed), (9, .int (nI sd))]) hx hb dX5_carry_117 hl (by decide) rfl (fun ls hl => ?_)
        refine hL119 packed sd 0 mn mp _ (fun mw ls H locs hz0 hf hl hP hD hS => ?_) 4 0 (0, mw.2.1, mw.2.2) _ _ _ (by omega) (by omega) (by (try dsimp only) <;> omega) hf (lv_sub hl [2, 3, 4, 5, 6, 1, 0] rfl) hP hD hS
        refine lv_iload hx hb dX5_carry_171 (lv_at hl 4 rfl) ?_
        refine lv_if_ne (tgt := 186) hx hb dX5_carry_173 (by decide) (fun h => absurd h5 h) (fun _ => ?_)
        refine lv_aload_n hx hb dX5_carry_176 rfl (lv_at hl 0 rfl) ?_
        refine lv_iconst (v := (nI 0)) hx hb dX5_carry_177 (by decide) ?_
        refine lv_lload hx hb dX5_carry_178 (lv_at hl 3 rfl) ?_
        obtain ⟨r10, er10⟩ : ∃ r, r = md_store 0 packed mo mn := ⟨_, rfl⟩
        have hf := yb_e er10 hf
        refine yz_callV (As := [.int (nI 0), .long packed]) (rest := []) ⟨hx, hb, hml, hown, hts⟩ (c_md_store l D cI cJ cZ cN ma 0 packed mo mn mw mt mv mp (by (try dsimp only) <;> omega) (by (try dsimp only) <;> omega) r10 er10) ⟨callB_of 2 hts (yy_good wq_648) rfl rfl rfl (hw _ wq_39) (hw _ wq_645) (by decide +kernel) ⟨Nat.le_of_ble_eq_true rfl, Nat.le_of_ble_eq_true rfl⟩, hw _ wq_647, hw _ wq_30⟩ hK hN hP hD hS hA [0, 1, 2, 3, 4, 5, 6, 7, 8, 9, 10, 11, 12, 13, 14, 15, 16, 17, 18, 19] rfl (by decide) rfl 20 rfl (w2 := (mW cI cJ cZ ma mo r10.2 mw mt mv mp)) rfl 0 rfl rfl rfl hl.1 rfl (Nat.le_of_ble_eq_true rfl) dX5_carry_180 ⟨Nat.zero_le _, Nat.zero_le _⟩ (fun H locs hP hD hS => ?_)
        refine W.eq (g2 := F0 m 183 ls [.int (yB r10.1)]) rfl ?_
        refine lv_if_eq (tgt := 195) hx hb dX5_carry_183 (by decide) (fun h11 => ?_) (fun h11 => ?_)
        · have h11 := yB_0.mp h11
          have hf := yBf h11 hf
          refine lv_iconst (v := 0) hx hb dX5_carry_195 (by decide) ?_
          subst hf
          exact yy_zret (v := yB false) hx hb hr (yB_n _) hP hK hS hlocks dX5_carry_196
        · have h11 := yB_1 h11
          have hf := yBt h11 hf
          refine lv_aload_n hx hb dX5_carry_186 rfl (lv_at hl 0 rfl) ?_
          refine lv_iload hx hb dX5_carry_187 (lv_at hl 5 rfl) ?_
          obtain ⟨r12, er12⟩ : ∃ r, r = md_transact 0 r10.2 mw := ⟨_, rfl⟩
          have hf := yb_e er12 hf
          refine yz_callV (As := [.int (nI 0)]) (rest := []) ⟨hx, hb, hml, hown, hts⟩ (c_md_transact l D cI cJ cZ cN ma 0 mo r10.2 mw mt mv mp (by omega) (by first | omega | exact md_wish_le ‹_ = md_wish _ _ _› (by (try dsimp only) <;> omega)) r12 er12) ⟨callB_of 1 hts (yy_good wq_600) rfl rfl rfl (hw _ wq_39) (hw _ wq_597) (by decide +kernel) ⟨Nat.le_of_ble_eq_true rfl, Nat.le_of_ble_eq_true rfl⟩, hw _ wq_599, hw _ wq_21⟩ hK hN hP hD hS hA [0, 1, 2, 3, 4, 5, 6, 7, 8, 9, 10, 11, 12, 13, 14, 15, 16, 17, 18, 19] rfl (by decide) rfl 20 rfl (w2 := (mW cI cJ cZ ma mo r12.2 mw mt mv mp)) rfl 0 rfl rfl rfl hl.1 rfl (Nat.le_of_ble_eq_true rfl) dX5_carry_189 ⟨Nat.zero_le _, Nat.zero_le _⟩ (fun H locs hP hD hS => ?_)
          refine W.eq (g2 := F0 m 192 ls [.int (yB r12.1)]) rfl ?_
          refine lv_if_ne (tgt := 197) hx hb dX5_carry_192 (by decide) (fun h13 => ?_) (fun h13 => ?_)
          · have h13 := yB_1 h13
            have hf := yBt h13 hf
            refine lv_iinc (k := 4) (v := (nI (sd + 1))) (lv' := [(9, .int (nI (sd + 1))), (0, .ref (ma 0)), (1, .int (nI nk)), (2, .int set), (7, .long packed), (10, .int (nI 0))]) hx hb dX5_carry_197 hl rfl (yy_inc _) (by decide) rfl (fun ls hl => ?_)
            refine lv_goto (tgt := 93) hx hb dX5_carry_200 (by decide) ?_
            exact ih (sd + 1) packed r12.2 mw mp _ _ _ (by omega) hf (lv_sub hl [1, 2, 3, 4, 0] rfl) hP hD hS
          · have h13 := yB_0.mp h13
            have hf := yBf h13 hf
            refine lv_iconst (v := 0) hx hb dX5_carry_195 (by decide) ?_
            subst hf
            exact yy_zret (v := yB false) hx hb hr (yB_n _) hP hK hS hlocks dX5_carry_196
  have hL5 : ∀ (k : Nat) (i : Nat) (fresh : Int64) (ls : Array Slot) (H : Heap) (locs : List Loc), i + k = 4 → res = md_carry_L5 nk set mo mn mw mp k i fresh → lv_has ls 12 [(0, .ref (ma 0)), (1, .int (nI nk)), (2, .int set), (3, .long fresh), (5, .int (nI i))] → va_P D vwCl (mW cI cJ cZ ma mo mn mw mt mv mp) H → va_D A (mW cI cJ cZ ma mo mn mw mt mv mp) → va_S A s.heap H locs → W p l e (headSpec wsX5_carry { frames := 4, cells := 0, slots := 0, locals := 87 }).room s m ([.ref (ma 0), .int (nI nk), .int set] : List Value).toArray below meth c H locs 0 0 (MQ below (yy_Q A D vwCl (yT cI cJ cZ cN) (mW cI cJ cZ ma mo res.2.1 res.2.2.1 mt mv res.2.2.2) (some (.int (yB res.1)))) ([.ref (ma 0), .int (nI nk), .int set] : List Value).toArray s 0 0 A) (F0 m 5 ls []) := by
    intro k
    induction k with
    | zero =>
      intro i fresh ls H locs hi hf hl hP hD hS
      rw [md_carry_L5] at hf
      refine lv_iload hx hb dX5_carry_5 (lv_at hl 4 rfl) ?_
      refine lv_iconst (v := (nI 4)) hx hb dX5_carry_7 (by decide) ?_
      refine lv_icmp_ge (tgt := 50) hx hb dX5_carry_8 (by decide) (fun _ => ?_) (fun h => absurd (nI_le (by omega) (by omega)) h)
      refine lv_aload_n hx hb dX5_carry_50 rfl (lv_at hl 0 rfl) ?_
      refine lv_iconst (v := (nI 0)) hx hb dX5_carry_51 (by decide) ?_
      refine lv_iconst (v := (nI 0)) hx hb dX5_carry_52 (by decide) ?_
      refine lv_iconst (v := (nI 3)) hx hb dX5_carry_53 (by decide) ?_
      obtain ⟨r14, er14⟩ : ∃ r, r = md_tips 0 0 3 mn := ⟨_, rfl⟩
      have hf := yb_e er14 hf
      refine yz_callV (As := [.int (nI 0), .int (nI 0), .int (nI 3)]) (rest := []) ⟨hx, hb, hml, hown, hts⟩ (c_md_tips l D cI cJ cZ cN ma 0 0 3 mo mn mw mt mv mp (by (try dsimp only) <;> omega) (by (try dsimp only) <;> omega) (by (try dsimp only) <;> omega) r14 er14) ⟨callB_of 3 hts (yy_good wq_624) rfl rfl rfl (hw _ wq_39) (hw _ wq_621) (by decide +kernel) ⟨Nat.le_of_ble_eq_true rfl, Nat.le_of_ble_eq_true rfl⟩, hw _ wq_623, hw _ wq_25⟩ hK hN hP hD hS hA [0, 1, 2, 3, 4, 5, 6, 7, 8, 9, 10, 11, 12, 13, 14, 15, 16, 17, 18, 19] rfl (by decide) rfl 20 rfl (w2 := (mW cI cJ cZ ma mo mn mw mt mv mp)) rfl 0 rfl rfl rfl hl.1 rfl (Nat.le_of_ble_eq_true rfl) dX5_carry_54 ⟨Nat.zero_le _, Nat.zero_le _⟩ (fun H locs hP hD hS => ?_)
      refine W.eq (g2 := F0 m 57 ls [.long r14]) rfl ?_
      refine lv_aload_n hx hb dX5_carry_57 rfl (lv_at hl 0 rfl) ?_
      refine va_get (D := D) (ci := 5) (v := .ref (ma 5)) (C := RX5) (T := TX5) (N := 25) hx hb hts (yy_tl inX5) hown hK hP 0 rfl rfl 5 (by decide) (hw _ wq_490) (fun _ h9 => h9) rfl dX5_carry_58 ?_
      refine lv_iload_n hx hb dX5_carry_61 rfl (lv_at hl 1 rfl) ?_
      refine yr_lald hx hb hK hP 5 1 (f := mn.1) (j := nk) rfl rfl rfl (by omega) (by decide) dX5_carry_62 ?_
      refine lv_land hx hb dX5_carry_63 ?_
      refine lv_lstore (lv' := [(5, .long (r14 &&& (mn.1 nk))), (0, .ref (ma 0)), (1, .int (nI nk)), (2, .int set), (3, .long fresh)]) hx hb dX5_carry_64 hl (by decide) rfl (fun ls hl => ?_)
      refine lv_aload_n hx hb dX5_carry_66 rfl (lv_at hl 1 rfl) ?_
      refine lv_lload_n hx hb dX5_carry_67 rfl (lv_at hl 4 rfl) ?_
      obtain ⟨r15, er15⟩ : ∃ r, r = md_reach fresh mo := ⟨_, rfl⟩
      have hf := yb_e er15 hf
      refine yz_callV (As := [.long fresh]) (rest := []) ⟨hx, hb, hml, hown, hts⟩ (c_md_reach l D cI cJ cZ cN ma fresh mo mn mw mt mv mp (by (try dsimp only) <;> omega) r15 er15) ⟨callB_of 1 hts (yy_good wq_628) rfl rfl rfl (hw _ wq_39) (hw _ wq_625) (by decide +kernel) ⟨Nat.le_of_ble_eq_true rfl, Nat.le_of_ble_eq_true rfl⟩, hw _ wq_627, hw _ wq_26⟩ hK hN hP hD hS hA [0, 1, 2, 3, 4, 5, 6, 7, 8, 9, 10, 11, 12, 13, 14, 15, 16, 17, 18, 19] rfl (by decide) rfl 20 rfl (w2 := (mW cI cJ cZ ma mo mn mw mt mv mp)) rfl 0 rfl rfl rfl hl.1 rfl (Nat.le_of_ble_eq_true rfl) dX5_carry_68 ⟨Nat.zero_le _, Nat.zero_le _⟩ (fun H locs hP hD hS => ?_)
      refine W.eq (g2 := F0 m 71 ls [.long r15]) rfl ?_
      refine lv_aload_n hx hb dX5_carry_71 rfl (lv_at hl 1 rfl) ?_
      refine lv_lload hx hb dX5_carry_72 (lv_at hl 0 rfl) ?_
      obtain ⟨r16, er16⟩ : ∃ r, r = md_reach (r14 &&& (mn.1 nk)) mo := ⟨_, rfl⟩
      have hf := yb_e er16 hf
      refine yz_callV (As := [.long (r14 &&& (mn.1 nk))]) (rest := [.long r15]) ⟨hx, hb, hml, hown, hts⟩ (c_md_reach l D cI cJ cZ cN ma (r14 &&& (mn.1 nk)) mo mn mw mt mv mp (by (try dsimp only) <;> omega) r16 er16) ⟨callB_of 1 hts (yy_good wq_628) rfl rfl rfl (hw _ wq_39) (hw _ wq_625) (by decide +kernel) ⟨Nat.le_of_ble_eq_true rfl, Nat.le_of_ble_eq_true rfl⟩, hw _ wq_627, hw _ wq_26⟩ hK hN hP hD hS hA [0, 1, 2, 3, 4, 5, 6, 7, 8, 9, 10, 11, 12, 13, 14, 15, 16, 17, 18, 19] rfl (by decide) rfl 20 rfl (w2 := (mW cI cJ cZ ma mo mn mw mt mv mp)) rfl 0 rfl rfl rfl hl.1 rfl (Nat.le_of_ble_eq_true rfl) dX5_carry_74 ⟨Nat.zero_le _, Nat.zero_le _⟩ (fun H locs hP hD hS => ?_)
      refine W.eq (g2 := F0 m 77 ls [.long r16, .long r15]) rfl ?_
      refine lv_ldc2 (v := (-1)) hx hb hown (hw _ wq_629) dX5_carry_77 ?_
      refine lv_lxor hx hb dX5_carry_80 ?_
      refine lv_land hx hb dX5_carry_81 ?_
      refine lv_lstore (lv' := [(7, .long (r15 &&& (r16 ^^^ (-1)))), (5, .long (r14 &&& (mn.1 nk))), (0, .ref (ma 0)), (1, .int (nI nk)), (2, .int set), (3, .long fresh)]) hx hb dX5_carry_82 hl (by decide) rfl (fun ls hl => ?_)
      refine lv_aload_n hx hb dX5_carry_84 rfl (lv_at hl 2 rfl) ?_
      refine lv_lload hx hb dX5_carry_85 (lv_at hl 0 rfl) ?_
      obtain ⟨r17, er17⟩ : ∃ r, r = md_pack (r15 &&& (r16 ^^^ (-1))) mo mp := ⟨_, rfl⟩
      have hf := yb_e er17 hf
      refine yz_callV (As := [.long (r15 &&& (r16 ^^^ (-1)))]) (rest := []) ⟨hx, hb, hml, hown, hts⟩ (c_md_pack l D cI cJ cZ cN ma (r15 &&& (r16 ^^^ (-1))) mo mn mw mt mv mp (by (try dsimp only) <;> omega) r17 er17) ⟨callB_of 1 hts (yy_good wq_640) rfl rfl rfl (hw _ wq_39) (hw _ wq_637) (by decide +kernel) ⟨Nat.le_of_ble_eq_true rfl, Nat.le_of_ble_eq_true rfl⟩, hw _ wq_639, hw _ wq_28⟩ hK hN hP hD hS hA [0, 1, 2, 3, 4, 5, 6, 7, 8, 9, 10, 11, 12, 13, 14, 15, 16, 17, 18, 19] rfl (by decide) rfl 20 rfl (w2 := (mW cI cJ cZ ma mo mn mw mt mv r17)) rfl 0 rfl rfl rfl hl.1 rfl (Nat.le_of_ble_eq_true rfl) dX5_carry_87 ⟨Nat.zero_le _, Nat.zero_le _⟩ (fun H locs hP hD hS => ?_)
      refine W.eq (g2 := F0 m 90 ls []) rfl ?_
      refine lv_iconst (v := (nI 0)) hx hb dX5_carry_90 (by decide) ?_
      refine lv_istore (lv' := [(9, .int (nI 0)), (7, .long (r15 &&& (r16 ^^^ (-1)))), (5, .long (r14 &&& (mn.1 nk))), (0, .ref (ma 0)), (1, .int (nI nk)), (2, .int set), (3, .long fresh)]) hx hb dX5_carry_91 hl (by decide) rfl (fun ls hl => ?_)
      exact hL93 2 0 (r15 &&& (r16 ^^^ (-1))) mn mw r17 _ _ _ (by omega) hf (lv_sub hl [3, 4, 5, 1, 0] rfl) hP hD hS
    | succ k ih =>
      intro i fresh ls H locs hi hf hl hP hD hS
      rw [md_carry_L5] at hf
      refine lv_iload hx hb dX5_carry_5 (lv_at hl 4 rfl) ?_
      refine lv_iconst (v := (nI 4)) hx hb dX5_carry_7 (by decide) ?_
      refine lv_icmp_ge (tgt := 50) hx hb dX5_carry_8 (by decide) (fun h => absurd h (nI_ge (by omega) (by omega))) (fun _ => ?_)
      refine lv_iload_n hx hb dX5_carry_11 rfl (lv_at hl 2 rfl) ?_
      refine lv_iload hx hb dX5_carry_12 (lv_at hl 4 rfl) ?_
      refine yr_ishr hx hb dX5_carry_14 ?_
      refine lv_iconst (v := 1) hx hb dX5_carry_15 (by decide) ?_
      refine lv_iand hx hb dX5_carry_16 ?_
      refine lv_iconst (v := 1) hx hb dX5_carry_17 (by decide) ?_
      refine lv_icmp_ne (tgt := 42) hx hb dX5_carry_18 (by decide) (fun h18 => ?_) (fun h18 => ?_)
      · have hf := yf h18 hf
        refine lv_lload_n hx hb dX5_carry_42 rfl (lv_at hl 3 rfl) ?_
        refine lv_lstore_n (lv' := [(3, .long fresh), (0, .ref (ma 0)), (1, .int (nI nk)), (2, .int set), (5, .int (nI i))]) hx hb dX5_carry_43 rfl hl (by decide) rfl (fun ls hl => ?_)
        refine lv_iinc (k := 4) (v := (nI (i + 1))) (lv' := [(5, .int (nI (i + 1))), (3, .long fresh), (0, .ref (ma 0)), (1, .int (nI nk)), (2, .int set)]) hx hb dX5_carry_44 hl rfl (yy_inc _) (by decide) rfl (fun ls hl => ?_)
        refine lv_goto (tgt := 5) hx hb dX5_carry_47 (by decide) ?_
        exact ih (i + 1) fresh _ _ _ (by omega) hf (lv_sub hl [2, 3, 4, 1, 0] rfl) hP hD hS
      · have hf := yt h18 hf
        refine lv_lload_n hx hb dX5_carry_21 rfl (lv_at hl 3 rfl) ?_
        refine lv_lconst (v := 1) hx hb dX5_carry_22 (by decide) ?_
        refine lv_aload_n hx hb dX5_carry_23 rfl (lv_at hl 0 rfl) ?_
        refine va_get (D := D) (ci := 5) (v := .ref (ma 6)) (C := RX5) (T := TX5) (N := 25) hx hb hts (yy_tl inX5) hown hK hP 0 rfl rfl 6 (by decide) (hw _ wq_491) (fun _ h9 => h9) rfl dX5_carry_24 ?_
        refine lv_bipush (v := (nI 8)) hx hb dX5_carry_27 (by decide) ?_
        refine lv_iload_n hx hb dX5_carry_29 rfl (lv_at hl 1 rfl) ?_
        refine yr_imulN hx hb dX5_carry_30 ?_
        refine lv_iload hx hb dX5_carry_31 (lv_at hl 4 rfl) ?_
        refine yr_iaddN hx hb dX5_carry_33 ?_
        refine yr_iald hx hb hK hP 6 0 (f := mn.2.1) (j := (8 * nk) + i) rfl rfl rfl (by omega) (by decide) dX5_carry_34 ?_
        refine lv_iconst (v := 1) hx hb dX5_carry_35 (by decide) ?_
        refine lv_isub hx hb dX5_carry_36 ?_
        refine lv_lshl (v := ylshl 1 ((mn.2.1 ((8 * nk) + i)) - 1)) hx hb dX5_carry_37 rfl ?_
        refine lv_lor hx hb dX5_carry_38 ?_
        refine lv_goto (tgt := 43) hx hb dX5_carry_39 (by decide) ?_
        refine lv_lstore_n (lv' := [(3, .long (fresh ||| (ylshl 1 ((mn.2.1 ((8 * nk) + i)) - 1)))), (0, .ref (ma 0)), (1, .int (nI nk)), (2, .int set), (5, .int (nI i))]) hx hb dX5_carry_43 rfl hl (by decide) rfl (fun ls hl => ?_)
        refine lv_iinc (k := 4) (v := (nI (i + 1))) (lv' := [(5, .int (nI (i + 1))), (3, .long (fresh ||| (ylshl 1 ((mn.2.1 ((8 * nk) + i)) - 1)))), (0, .ref (ma 0)), (1, .int (nI nk)), (2, .int set)]) hx hb dX5_carry_44 hl rfl (yy_inc _) (by decide) rfl (fun ls hl => ?_)
        refine lv_goto (tgt := 5) hx hb dX5_carry_47 (by decide) ?_
        exact ih (i + 1) (fresh ||| (ylshl 1 ((mn.2.1 ((8 * nk) + i)) - 1))) _ _ _ (by omega) hf (lv_sub hl [2, 3, 4, 1, 0] rfl) hP hD hS
  rw [md_carry] at hf
  refine lv_lconst (v := 0) hx hb dX5_carry_0 (by decide) ?_
  refine lv_lstore_n (lv' := [(3, .long 0), (0, .ref (ma 0)), (1, .int (nI nk)), (2, .int set)]) hx hb dX5_carry_1 rfl hl (by decide) rfl (fun ls hl => ?_)
  refine lv_iconst (v := (nI 0)) hx hb dX5_carry_2 (by decide) ?_
  refine lv_istore (lv' := [(5, .int (nI 0)), (3, .long 0), (0, .ref (ma 0)), (1, .int (nI nk)), (2, .int set)]) hx hb dX5_carry_3 hl (by decide) rfl (fun ls hl => ?_)
  exact hL5 4 0 0 _ _ _ (by omega) hf (lv_sub hl [2, 3, 4, 1, 0] rfl) hP hD hS

set_option maxHeartbeats 4000000 in
set_option maxRecDepth 100000 in
theorem c_md_push (l : Launch) (D : va_G) (cI cJ cZ cN : ClassId) (ma : Nat → Nat) (node : Int32) (set : Int32) (mo : MO) (mn : MN) (mw : MW) (mt : MT) (mv : (Nat → Int32)) (mp : MP) (ho : mo.1 ≤ 60) (hp : mp.1 ≤ 60) (res : Int32 × MN × MW × (Nat → Int32) × MP) (hf : res = md_push node set mo mn mw mv mp) : yy_Met l yX5_push wsX5_push { frames := 5, cells := 0, slots := 0, locals := 118 } D vwCl (yT cI cJ cZ cN) [.ref (ma 0), .int node, .int set] (mW cI cJ cZ ma mo mn mw mt mv mp) (some (.int res.1)) (mW cI cJ cZ ma mo res.2.1 res.2.2.1 mt res.2.2.2.1 res.2.2.2.2) := by
  intro sz
  refine Met.ofW (cc := cX5_push) (maxL := 5) (ret := (some .int)) (by decide) rfl ?_
  intro p e s m args below meth c s₁ B hml hv
  obtain ⟨rfl, hsz, hP, hK, hD0, hN⟩ := hv
  have hx := B.exec
  have hb := B.bytes
  have hr := B.returns
  have hts := atoms_spec (ws := wsX5_push) B.pre
  have hw : ∀ w ∈ yW, w.before _ s = true := fun w h => hts w (List.mem_cons_of_mem _ h)
  have hown : s.vm.findClass RX5 = some m.cls := findClass_of_methodNamed B.named
  have hlocks := B.notSynchronized
  subst hsz
  have hD := hD0.self (sz := s.heap.size)
  generalize hAe : va_A (mW cI cJ cZ ma mo mn mw mt mv mp) s.heap.size = A at hD ⊢
  have hA : ∀ q : Nat, s.heap.size ≤ q → A q := fun q h => by rw [← hAe]; exact Or.inr h
  have hS : va_S A s.heap s.heap [] := va_S.rf
  have hl := lv_entry ([.ref (ma 0), .int node, .int set]) (n := 5) (Nat.le_of_ble_eq_true rfl)
  rw [lg_entry_eq]
  generalize (lg_sl ([.ref (ma 0), .int node, .int set]) ++ List.replicate (5 - (lg_sl ([.ref (ma 0), .int node, .int set])).length) Slot.unset).toArray = ls at hl ⊢
  have hl : lv_has ls 5 [(0, .ref (ma 0)), (1, .int node), (2, .int set)] := hl
  have hL87 : ∀ (k : Nat) (i : Nat) (nk : Nat) (fine : Bool) (mv : (Nat → Int32)) (ls : Array Slot) (H : Heap) (locs : List Loc), i + k = 4 → nk < 3 → res = md_push_L87 set mo mn mw mp k i nk fine mv → lv_has ls 5 [(0, .ref (ma 0)), (1, .int (nI nk)), (2, .int set), (3, .int (yB fine)), (4, .int (nI i))] → va_P D vwCl (mW cI cJ cZ ma mo mn mw mt mv mp) H → va_D A (mW cI cJ cZ ma mo mn mw mt mv mp) → va_S A s.heap H locs → W p l e (headSpec wsX5_push { frames := 5, cells := 0, slots := 0, locals := 118 }).room s m ([.ref (ma 0), .int node, .int set] : List Value).toArray below meth c H locs 0 0 (MQ below (yy_Q A D vwCl (yT cI cJ cZ cN) (mW cI cJ cZ ma mo res.2.1 res.2.2.1 mt res.2.2.2.1 res.2.2.2.2) (some (.int res.1))) ([.ref (ma 0), .int node, .int set] : List Value).toArray s 0 0 A) (F0 m 87 ls []) := by
    intro k
    induction k with
    | zero =>
      intro i nk fine mv ls H locs hi hv0 hf hl hP hD hS
      rw [md_push_L87] at hf
      refine lv_iload hx hb dX5_push_87 (lv_at hl 4 rfl) ?_
      refine lv_iconst (v := (nI 4)) hx hb dX5_push_89 (by decide) ?_
      refine lv_icmp_ge (tgt := 172) hx hb dX5_push_90 (by decide) (fun _ => ?_) (fun h => absurd (nI_le (by omega) (by omega)) h)
      refine lv_iload_n hx hb dX5_push_172 rfl (lv_at hl 3 rfl) ?_
      refine lv_if_ne (tgt := 183) hx hb dX5_push_173 (by decide) (fun h1 => ?_) (fun h1 => ?_)
      · have h1 := yB_1 h1
        have hf := yBt h1 hf
        refine lv_aload_n hx hb dX5_push_183 rfl (lv_at hl 0 rfl) ?_
        refine lv_iload_n hx hb dX5_push_184 rfl (lv_at hl 1 rfl) ?_
        refine lv_iload_n hx hb dX5_push_185 rfl (lv_at hl 2 rfl) ?_
        obtain ⟨r2, er2⟩ : ∃ r, r = md_carry nk set mo mn mw mp := ⟨_, rfl⟩
        have hf := yb_e er2 hf
        refine yz_callV (As := [.int (nI nk), .int set]) (rest := []) ⟨hx, hb, hml, hown, hts⟩ (c_md_carry l D cI cJ cZ cN ma nk set mo mn mw mt mv mp (by (try dsimp only) <;> omega) (by (try dsimp only) <;> omega) r2 er2) ⟨callB_of 2 hts (yy_good wq_660) rfl rfl rfl (hw _ wq_39) (hw _ wq_657) (by decide +kernel) ⟨Nat.le_of_ble_eq_true rfl, Nat.le_of_ble_eq_true rfl⟩, hw _ wq_659, hw _ wq_32⟩ hK hN hP hD hS hA [0, 1, 2, 3, 4, 5, 6, 7, 8, 9, 10, 11, 12, 13, 14, 15, 16, 17, 18, 19] rfl (by decide) rfl 20 rfl (w2 := (mW cI cJ cZ ma mo r2.2.1 r2.2.2.1 mt mv r2.2.2.2)) rfl 0 rfl rfl rfl hl.1 rfl (Nat.le_of_ble_eq_true rfl) dX5_push_186 ⟨Nat.zero_le _, Nat.zero_le _⟩ (fun H locs hP hD hS => ?_)
        refine W.eq (g2 := F0 m 189 ls [.int (yB r2.1)]) rfl ?_
        refine lv_if_eq (tgt := 196) hx hb dX5_push_189 (by decide) (fun h3 => ?_) (fun h3 => ?_)
        · have h3 := yB_0.mp h3
          have hf := yBf h3 hf
          refine lv_bipush (v := (-2)) hx hb dX5_push_196 (by decide) ?_
          subst hf
          exact yy_iret (v := (-2)) hx hb hr hP hK hS hlocks dX5_push_198
        · have h3 := yB_1 h3
          have hf := yBt h3 hf
          refine lv_iconst (v := 1) hx hb dX5_push_192 (by decide) ?_
          refine lv_goto (tgt := 198) hx hb dX5_push_193 (by decide) ?_
          subst hf
          exact yy_iret (v := 1) hx hb hr hP hK hS hlocks dX5_push_198
      · have h1 := yB_0.mp h1
        have hf := yBf h1 hf
        refine lv_aload_n hx hb dX5_push_176 rfl (lv_at hl 0 rfl) ?_
        refine lv_iconst (v := (nI 0)) hx hb dX5_push_177 (by decide) ?_
        refine va_put (D := D) (ci := 5) (v := .int (nI 0)) (ty := .int) (C := RX5) (T := TX5) (N := 25) hx hb hts (yy_tl inX5) tyX5 tyX5_ok nX5 hown hK hP hD hS 0 rfl rfl 20 (by decide) (hw _ wq_505) (fun _ h9 => h9) rfl (by decide +kernel) rfl rfl (Nat.le_of_ble_eq_true rfl) dX5_push_178 (fun H locs hP hD hS => ?_)
        have hP : va_P D vwCl (mW cI cJ cZ ma mo mn mw mt mv (0, mp.2.1, mp.2.2.1, mp.2.2.2.1, mp.2.2.2.2)) H := hP
        have hD : va_D A (mW cI cJ cZ ma mo mn mw mt mv (0, mp.2.1, mp.2.2.1, mp.2.2.2.1, mp.2.2.2.2)) := hD
        refine lv_iconst (v := 0) hx hb dX5_push_181 (by decide) ?_
        subst hf
        exact yy_iret (v := 0) hx hb hr hP hK hS hlocks dX5_push_182
    | succ k ih =>
      intro i nk fine mv ls H locs hi hv0 hf hl hP hD hS
      rw [md_push_L87] at hf
      refine lv_iload hx hb dX5_push_87 (lv_at hl 4 rfl) ?_
      refine lv_iconst (v := (nI 4)) hx hb dX5_push_89 (by decide) ?_
      refine lv_icmp_ge (tgt := 172) hx hb dX5_push_90 (by decide) (fun h => absurd h (nI_ge (by omega) (by omega))) (fun _ => ?_)
      refine lv_aload_n hx hb dX5_push_93 rfl (lv_at hl 0 rfl) ?_
      refine va_get (D := D) (ci := 5) (v := .ref (ma 15)) (C := RX5) (T := TX5) (N := 25) hx hb hts (yy_tl inX5) hown hK hP 0 rfl rfl 19 (by decide) (hw _ wq_504) (fun _ h9 => h9) rfl dX5_push_94 ?_
      refine lv_iload hx hb dX5_push_97 (lv_at hl 4 rfl) ?_
      refine lv_iload_n hx hb dX5_push_99 rfl (lv_at hl 2 rfl) ?_
      refine lv_iload hx hb dX5_push_100 (lv_at hl 4 rfl) ?_
      refine yr_ishr hx hb dX5_push_102 ?_
      refine lv_iconst (v := 1) hx hb dX5_push_103 (by decide) ?_
      refine lv_iand hx hb dX5_push_104 ?_
      refine lv_if_ne (tgt := 112) hx hb dX5_push_105 (by decide) (fun h4 => ?_) (fun h4 => ?_)
      · have hf := yf h4 hf
        refine lv_aload_n hx hb dX5_push_112 rfl (lv_at hl 0 rfl) ?_
        refine lv_iload hx hb dX5_push_113 (lv_at hl 4 rfl) ?_
        refine lv_aload_n hx hb dX5_push_115 rfl (lv_at hl 0 rfl) ?_
        refine va_get (D := D) (ci := 5) (v := .ref (ma 6)) (C := RX5) (T := TX5) (N := 25) hx hb hts (yy_tl inX5) hown hK hP 0 rfl rfl 6 (by decide) (hw _ wq_491) (fun _ h9 => h9) rfl dX5_push_116 ?_
        refine lv_bipush (v := (nI 8)) hx hb dX5_push_119 (by decide) ?_
        refine lv_iload_n hx hb dX5_push_121 rfl (lv_at hl 1 rfl) ?_
        refine yr_imulN hx hb dX5_push_122 ?_
        refine lv_iconst (v := (nI 4)) hx hb dX5_push_123 (by decide) ?_
        refine yr_iaddN hx hb dX5_push_124 ?_
        refine lv_iload hx hb dX5_push_125 (lv_at hl 4 rfl) ?_
        refine yr_iaddN hx hb dX5_push_127 ?_
        refine yr_iald hx hb hK hP 6 0 (f := mn.2.1) (j := ((8 * nk) + 4) + i) rfl rfl rfl (by omega) (by decide) dX5_push_128 ?_
        refine lv_aload_n hx hb dX5_push_129 rfl (lv_at hl 0 rfl) ?_
        refine va_get (D := D) (ci := 5) (v := .ref (ma 6)) (C := RX5) (T := TX5) (N := 25) hx hb hts (yy_tl inX5) hown hK hP 0 rfl rfl 6 (by decide) (hw _ wq_491) (fun _ h9 => h9) rfl dX5_push_130 ?_
        refine lv_bipush (v := (nI 8)) hx hb dX5_push_133 (by decide) ?_
        refine lv_iload_n hx hb dX5_push_135 rfl (lv_at hl 1 rfl) ?_
        refine yr_imulN hx hb dX5_push_136 ?_
        refine lv_iload hx hb dX5_push_137 (lv_at hl 4 rfl) ?_
        refine yr_iaddN hx hb dX5_push_139 ?_
        refine yr_iald hx hb hK hP 6 0 (f := mn.2.1) (j := (8 * nk) + i) rfl rfl rfl (by omega) (by decide) dX5_push_140 ?_
        obtain ⟨r5, er5⟩ : ∃ r, r = md_judge i (mn.2.1 (((8 * nk) + 4) + i)) (mn.2.1 ((8 * nk) + i)) mo mn := ⟨_, rfl⟩
        have hf := yb_e er5 hf
        refine yz_callV (As := [.int (nI i), .int (mn.2.1 (((8 * nk) + 4) + i)), .int (mn.2.1 ((8 * nk) + i))]) (rest := [.int (nI i), .ref (ma 15)]) ⟨hx, hb, hml, hown, hts⟩ (c_md_judge l D cI cJ cZ cN ma i (mn.2.1 (((8 * nk) + 4) + i)) (mn.2.1 ((8 * nk) + i)) mo mn mw mt mv mp (by (try dsimp only) <;> omega) (by (try dsimp only) <;> omega) r5 er5) ⟨callB_of 3 hts (yy_good wq_656) rfl rfl rfl (hw _ wq_39) (hw _ wq_653) (by decide +kernel) ⟨Nat.le_of_ble_eq_true rfl, Nat.le_of_ble_eq_true rfl⟩, hw _ wq_655, hw _ wq_31⟩ hK hN hP hD hS hA [0, 1, 2, 3, 4, 5, 6, 7, 8, 9, 10, 11, 12, 13, 14, 15, 16, 17, 18, 19] rfl (by decide) rfl 20 rfl (w2 := (mW cI cJ cZ ma mo mn mw mt mv mp)) rfl 0 rfl rfl rfl hl.1 rfl (Nat.le_of_ble_eq_true rfl) dX5_push_141 ⟨Nat.zero_le _, Nat.zero_le _⟩ (fun H locs hP hD hS => ?_)
        refine W.eq (g2 := F0 m 144 ls [.int r5, .int (nI i), .ref (ma 15)]) rfl ?_
        refine yr_iast hx hb hK hP hD hS 15 0 (f := mv) (j := i) rfl rfl rfl (by omega) (by decide) dX5_push_144 (fun H locs hP hD hS => ?_)
        have hP : va_P D vwCl (mW cI cJ cZ ma mo mn mw mt (upd mv i r5) mp) H := hP
        have hD : va_D A (mW cI cJ cZ ma mo mn mw mt (upd mv i r5) mp) := hD
        refine lv_iload_n hx hb dX5_push_145 rfl (lv_at hl 3 rfl) ?_
        refine lv_if_eq (tgt := 164) hx hb dX5_push_146 (by decide) (fun h6 => ?_) (fun h6 => ?_)
        · have h6 := yB_0.mp h6
          have hf := yBf h6 hf
          refine lv_iconst (v := 0) hx hb dX5_push_164 (by decide) ?_
          refine lv_istore_n (lv' := [(3, .int 0), (0, .ref (ma 0)), (1, .int (nI nk)), (2, .int set), (4, .int (nI i))]) hx hb dX5_push_165 rfl hl (by decide) rfl (fun ls hl => ?_)
          refine lv_iinc (k := 4) (v := (nI (i + 1))) (lv' := [(4, .int (nI (i + 1))), (3, .int 0), (0, .ref (ma 0)), (1, .int (nI nk)), (2, .int set)]) hx hb dX5_push_166 hl rfl (yy_inc _) (by decide) rfl (fun ls hl => ?_)
          refine lv_goto (tgt := 87) hx hb dX5_push_169 (by decide) ?_
          exact ih (i + 1) nk false (upd mv i r5) _ _ _ (by omega) ‹_› hf (lv_sub hl [2, 3, 4, 1, 0] rfl) hP hD hS
        · have h6 := yB_1 h6
          have hf := yBt h6 hf
          refine lv_aload_n hx hb dX5_push_149 rfl (lv_at hl 0 rfl) ?_
          refine va_get (D := D) (ci := 5) (v := .ref (ma 15)) (C := RX5) (T := TX5) (N := 25) hx hb hts (yy_tl inX5) hown hK hP 0 rfl rfl 19 (by decide) (hw _ wq_504) (fun _ h9 => h9) rfl dX5_push_150 ?_
          refine lv_iload hx hb dX5_push_153 (lv_at hl 4 rfl) ?_
          refine yr_iald hx hb hK hP 15 0 (f := upd mv i r5) (j := i) rfl rfl rfl (by omega) (by decide) dX5_push_155 ?_
          refine lv_iconst (v := 2) hx hb dX5_push_156 (by decide) ?_
          refine lv_icmp_ge (tgt := 164) hx hb dX5_push_157 (by decide) (fun h7 => ?_) (fun h7 => ?_)
          · have hf := yt h7 hf
            refine lv_iconst (v := 0) hx hb dX5_push_164 (by decide) ?_
            refine lv_istore_n (lv' := [(3, .int 0), (0, .ref (ma 0)), (1, .int (nI nk)), (2, .int set), (4, .int (nI i))]) hx hb dX5_push_165 rfl hl (by decide) rfl (fun ls hl => ?_)
            refine lv_iinc (k := 4) (v := (nI (i + 1))) (lv' := [(4, .int (nI (i + 1))), (3, .int 0), (0, .ref (ma 0)), (1, .int (nI nk)), (2, .int set)]) hx hb dX5_push_166 hl rfl (yy_inc _) (by decide) rfl (fun ls hl => ?_)
            refine lv_goto (tgt := 87) hx hb dX5_push_169 (by decide) ?_
            exact ih (i + 1) nk false (upd mv i r5) _ _ _ (by omega) ‹_› hf (lv_sub hl [2, 3, 4, 1, 0] rfl) hP hD hS
          · have hf := yf h7 hf
            refine lv_iconst (v := 1) hx hb dX5_push_160 (by decide) ?_
            refine lv_goto (tgt := 165) hx hb dX5_push_161 (by decide) ?_
            refine lv_istore_n (lv' := [(3, .int 1), (0, .ref (ma 0)), (1, .int (nI nk)), (2, .int set), (4, .int (nI i))]) hx hb dX5_push_165 rfl hl (by decide) rfl (fun ls hl => ?_)
            refine lv_iinc (k := 4) (v := (nI (i + 1))) (lv' := [(4, .int (nI (i + 1))), (3, .int 1), (0, .ref (ma 0)), (1, .int (nI nk)), (2, .int set)]) hx hb dX5_push_166 hl rfl (yy_inc _) (by decide) rfl (fun ls hl => ?_)
            refine lv_goto (tgt := 87) hx hb dX5_push_169 (by decide) ?_
            exact ih (i + 1) nk true (upd mv i r5) _ _ _ (by omega) ‹_› hf (lv_sub hl [2, 3, 4, 1, 0] rfl) hP hD hS
      · have hf := yt h4 hf
        refine lv_iconst (v := 0) hx hb dX5_push_108 (by decide) ?_
        refine lv_goto (tgt := 144) hx hb dX5_push_109 (by decide) ?_
        refine yr_iast hx hb hK hP hD hS 15 0 (f := mv) (j := i) rfl rfl rfl (by omega) (by decide) dX5_push_144 (fun H locs hP hD hS => ?_)
        have hP : va_P D vwCl (mW cI cJ cZ ma mo mn mw mt (upd mv i 0) mp) H := hP
        have hD : va_D A (mW cI cJ cZ ma mo mn mw mt (upd mv i 0) mp) := hD
        refine lv_iload_n hx hb dX5_push_145 rfl (lv_at hl 3 rfl) ?_
        refine lv_if_eq (tgt := 164) hx hb dX5_push_146 (by decide) (fun h8 => ?_) (fun h8 => ?_)
        · have h8 := yB_0.mp h8
          have hf := yBf h8 hf
          refine lv_iconst (v := 0) hx hb dX5_push_164 (by decide) ?_
          refine lv_istore_n (lv' := [(3, .int 0), (0, .ref (ma 0)), (1, .int (nI nk)), (2, .int set), (4, .int (nI i))]) hx hb dX5_push_165 rfl hl (by decide) rfl (fun ls hl => ?_)
          refine lv_iinc (k := 4) (v := (nI (i + 1))) (lv' := [(4, .int (nI (i + 1))), (3, .int 0), (0, .ref (ma 0)), (1, .int (nI nk)), (2, .int set)]) hx hb dX5_push_166 hl rfl (yy_inc _) (by decide) rfl (fun ls hl => ?_)
          refine lv_goto (tgt := 87) hx hb dX5_push_169 (by decide) ?_
          exact ih (i + 1) nk false (upd mv i 0) _ _ _ (by omega) ‹_› hf (lv_sub hl [2, 3, 4, 1, 0] rfl) hP hD hS
        · have h8 := yB_1 h8
          have hf := yBt h8 hf
          refine lv_aload_n hx hb dX5_push_149 rfl (lv_at hl 0 rfl) ?_
          refine va_get (D := D) (ci := 5) (v := .ref (ma 15)) (C := RX5) (T := TX5) (N := 25) hx hb hts (yy_tl inX5) hown hK hP 0 rfl rfl 19 (by decide) (hw _ wq_504) (fun _ h9 => h9) rfl dX5_push_150 ?_
          refine lv_iload hx hb dX5_push_153 (lv_at hl 4 rfl) ?_
          refine yr_iald hx hb hK hP 15 0 (f := upd mv i 0) (j := i) rfl rfl rfl (by omega) (by decide) dX5_push_155 ?_
          refine lv_iconst (v := 2) hx hb dX5_push_156 (by decide) ?_
          refine lv_icmp_ge (tgt := 164) hx hb dX5_push_157 (by decide) (fun h9 => ?_) (fun h9 => ?_)
          · have hf := yt h9 hf
            refine lv_iconst (v := 0) hx hb dX5_push_164 (by decide) ?_
            refine lv_istore_n (lv' := [(3, .int 0), (0, .ref (ma 0)), (1, .int (nI nk)), (2, .int set), (4, .int (nI i))]) hx hb dX5_push_165 rfl hl (by decide) rfl (fun ls hl => ?_)
            refine lv_iinc (k := 4) (v := (nI (i + 1))) (lv' := [(4, .int (nI (i + 1))), (3, .int 0), (0, .ref (ma 0)), (1, .int (nI nk)), (2, .int set)]) hx hb dX5_push_166 hl rfl (yy_inc _) (by decide) rfl (fun ls hl => ?_)
            refine lv_goto (tgt := 87) hx hb dX5_push_169 (by decide) ?_
            exact ih (i + 1) nk false (upd mv i 0) _ _ _ (by omega) ‹_› hf (lv_sub hl [2, 3, 4, 1, 0] rfl) hP hD hS
          · have hf := yf h9 hf
            refine lv_iconst (v := 1) hx hb dX5_push_160 (by decide) ?_
            refine lv_goto (tgt := 165) hx hb dX5_push_161 (by decide) ?_
            refine lv_istore_n (lv' := [(3, .int 1), (0, .ref (ma 0)), (1, .int (nI nk)), (2, .int set), (4, .int (nI i))]) hx hb dX5_push_165 rfl hl (by decide) rfl (fun ls hl => ?_)
            refine lv_iinc (k := 4) (v := (nI (i + 1))) (lv' := [(4, .int (nI (i + 1))), (3, .int 1), (0, .ref (ma 0)), (1, .int (nI nk)), (2, .int set)]) hx hb dX5_push_166 hl rfl (yy_inc _) (by decide) rfl (fun ls hl => ?_)
            refine lv_goto (tgt := 87) hx hb dX5_push_169 (by decide) ?_
            exact ih (i + 1) nk true (upd mv i 0) _ _ _ (by omega) ‹_› hf (lv_sub hl [2, 3, 4, 1, 0] rfl) hP hD hS
  have hL46 : ∀ (k : Nat) (i : Nat) (nk : Nat) (ls : Array Slot) (H : Heap) (locs : List Loc), i + k = 4 → nk < 3 → res = md_push_L46 set mo mn mw mv mp k i nk → lv_has ls 5 [(0, .ref (ma 0)), (1, .int (nI nk)), (2, .int set), (3, .int (nI i))] → va_P D vwCl (mW cI cJ cZ ma mo mn mw mt mv mp) H → va_D A (mW cI cJ cZ ma mo mn mw mt mv mp) → va_S A s.heap H locs → W p l e (headSpec wsX5_push { frames := 5, cells := 0, slots := 0, locals := 118 }).room s m ([.ref (ma 0), .int node, .int set] : List Value).toArray below meth c H locs 0 0 (MQ below (yy_Q A D vwCl (yT cI cJ cZ cN) (mW cI cJ cZ ma mo res.2.1 res.2.2.1 mt res.2.2.2.1 res.2.2.2.2) (some (.int res.1))) ([.ref (ma 0), .int node, .int set] : List Value).toArray s 0 0 A) (F0 m 46 ls []) := by
    intro k
    induction k with
    | zero =>
      intro i nk ls H locs hi hv0 hf hl hP hD hS
      rw [md_push_L46] at hf
      refine lv_iload_n hx hb dX5_push_46 rfl (lv_at hl 3 rfl) ?_
      refine lv_iconst (v := (nI 4)) hx hb dX5_push_47 (by decide) ?_
      refine lv_icmp_ge (tgt := 82) hx hb dX5_push_48 (by decide) (fun _ => ?_) (fun h => absurd (nI_le (by omega) (by omega)) h)
      refine lv_iconst (v := 1) hx hb dX5_push_82 (by decide) ?_
      refine lv_istore_n (lv' := [(3, .int 1), (0, .ref (ma 0)), (1, .int (nI nk)), (2, .int set)]) hx hb dX5_push_83 rfl hl (by decide) rfl (fun ls hl => ?_)
      refine lv_iconst (v := (nI 0)) hx hb dX5_push_84 (by decide) ?_
      refine lv_istore (lv' := [(4, .int (nI 0)), (3, .int 1), (0, .ref (ma 0)), (1, .int (nI nk)), (2, .int set)]) hx hb dX5_push_85 hl (by decide) rfl (fun ls hl => ?_)
      exact hL87 4 0 nk true mv _ _ _ (by omega) ‹_› hf (lv_sub hl [2, 3, 4, 1, 0] rfl) hP hD hS
    | succ k ih =>
      intro i nk ls H locs hi hv0 hf hl hP hD hS
      rw [md_push_L46] at hf
      refine lv_iload_n hx hb dX5_push_46 rfl (lv_at hl 3 rfl) ?_
      refine lv_iconst (v := (nI 4)) hx hb dX5_push_47 (by decide) ?_
      refine lv_icmp_ge (tgt := 82) hx hb dX5_push_48 (by decide) (fun h => absurd h (nI_ge (by omega) (by omega))) (fun _ => ?_)
      refine lv_iload_n hx hb dX5_push_51 rfl (lv_at hl 2 rfl) ?_
      refine lv_iload_n hx hb dX5_push_52 rfl (lv_at hl 3 rfl) ?_
      refine yr_ishr hx hb dX5_push_53 ?_
      refine lv_iconst (v := 1) hx hb dX5_push_54 (by decide) ?_
      refine lv_iand hx hb dX5_push_55 ?_
      refine lv_iconst (v := 1) hx hb dX5_push_56 (by decide) ?_
      refine lv_icmp_ne (tgt := 76) hx hb dX5_push_57 (by decide) (fun h10 => ?_) (fun h10 => ?_)
      · have hf := yf h10 hf
        refine lv_iinc (k := 3) (v := (nI (i + 1))) (lv' := [(3, .int (nI (i + 1))), (0, .ref (ma 0)), (1, .int (nI nk)), (2, .int set)]) hx hb dX5_push_76 hl rfl (yy_inc _) (by decide) rfl (fun ls hl => ?_)
        refine lv_goto (tgt := 46) hx hb dX5_push_79 (by decide) ?_
        exact ih (i + 1) nk _ _ _ (by omega) ‹_› hf (lv_sub hl [1, 2, 3, 0] rfl) hP hD hS
      · have hf := yt h10 hf
        refine lv_aload_n hx hb dX5_push_60 rfl (lv_at hl 0 rfl) ?_
        refine va_get (D := D) (ci := 5) (v := .ref (ma 6)) (C := RX5) (T := TX5) (N := 25) hx hb hts (yy_tl inX5) hown hK hP 0 rfl rfl 6 (by decide) (hw _ wq_491) (fun _ h9 => h9) rfl dX5_push_61 ?_
        refine lv_bipush (v := (nI 8)) hx hb dX5_push_64 (by decide) ?_
        refine lv_iload_n hx hb dX5_push_66 rfl (lv_at hl 1 rfl) ?_
        refine yr_imulN hx hb dX5_push_67 ?_
        refine lv_iload_n hx hb dX5_push_68 rfl (lv_at hl 3 rfl) ?_
        refine yr_iaddN hx hb dX5_push_69 ?_
        refine yr_iald hx hb hK hP 6 0 (f := mn.2.1) (j := (8 * nk) + i) rfl rfl rfl (by omega) (by decide) dX5_push_70 ?_
        refine lv_if_ne (tgt := 76) hx hb dX5_push_71 (by decide) (fun h11 => ?_) (fun h11 => ?_)
        · have hf := yf h11 hf
          refine lv_iinc (k := 3) (v := (nI (i + 1))) (lv' := [(3, .int (nI (i + 1))), (0, .ref (ma 0)), (1, .int (nI nk)), (2, .int set)]) hx hb dX5_push_76 hl rfl (yy_inc _) (by decide) rfl (fun ls hl => ?_)
          refine lv_goto (tgt := 46) hx hb dX5_push_79 (by decide) ?_
          exact ih (i + 1) nk _ _ _ (by omega) ‹_› hf (lv_sub hl [1, 2, 3, 0] rfl) hP hD hS
        · have hf := yt h11 hf
          refine lv_iconst (v := (-1)) hx hb dX5_push_74 (by decide) ?_
          subst hf
          exact yy_iret (v := (-1)) hx hb hr hP hK hS hlocks dX5_push_75
  rw [md_push] at hf
  refine lv_iload_n hx hb dX5_push_0 rfl (lv_at hl 1 rfl) ?_
  refine lv_iconst (v := 1) hx hb dX5_push_1 (by decide) ?_
  refine lv_icmp_lt (tgt := 21) hx hb dX5_push_2 (by decide) (fun h12 => ?_) (fun h12 => ?_)
  · have hf := yt h12 hf
    refine lv_iconst (v := (-1)) hx hb dX5_push_21 (by decide) ?_
    subst hf
    exact yy_iret (v := (-1)) hx hb hr hP hK hS hlocks dX5_push_22
  · have hf := yf h12 hf
    refine lv_iload_n hx hb dX5_push_5 rfl (lv_at hl 1 rfl) ?_
    refine lv_iconst (v := 2) hx hb dX5_push_6 (by decide) ?_
    refine lv_icmp_gt (tgt := 21) hx hb dX5_push_7 (by decide) (fun h13 => ?_) (fun h13 => ?_)
    · have hf := yt h13 hf
      refine lv_iconst (v := (-1)) hx hb dX5_push_21 (by decide) ?_
      subst hf
      exact yy_iret (v := (-1)) hx hb hr hP hK hS hlocks dX5_push_22
    · have hf := yf h13 hf
      refine lv_iload_n hx hb dX5_push_10 rfl (lv_at hl 2 rfl) ?_
      refine lv_iconst (v := 1) hx hb dX5_push_11 (by decide) ?_
      refine lv_icmp_lt (tgt := 21) hx hb dX5_push_12 (by decide) (fun h14 => ?_) (fun h14 => ?_)
      · have hf := yt h14 hf
        refine lv_iconst (v := (-1)) hx hb dX5_push_21 (by decide) ?_
        subst hf
        exact yy_iret (v := (-1)) hx hb hr hP hK hS hlocks dX5_push_22
      · have hf := yf h14 hf
        refine lv_iload_n hx hb dX5_push_15 rfl (lv_at hl 2 rfl) ?_
        refine lv_bipush (v := 15) hx hb dX5_push_16 (by decide) ?_
        refine lv_icmp_le (tgt := 23) hx hb dX5_push_18 (by decide) (fun h15 => ?_) (fun h15 => ?_)
        · have hf := yt h15 hf
          obtain ⟨nk, hc_nk, h_nk, he_nk⟩ : ∃ k : Nat, node.toNatClampNeg = k ∧ k < 3 ∧ node = nI k := (yy_natC ‹¬ node < 1› ‹¬ 2 < node›)
          have hf_nk := yn_e hc_nk hf
          subst he_nk
          have hf := hf_nk
          refine lv_aload_n hx hb dX5_push_23 rfl (lv_at hl 0 rfl) ?_
          refine va_get (D := D) (ci := 5) (v := .ref (ma 7)) (C := RX5) (T := TX5) (N := 25) hx hb hts (yy_tl inX5) hown hK hP 0 rfl rfl 7 (by decide) (hw _ wq_492) (fun _ h9 => h9) rfl dX5_push_24 ?_
          refine lv_iload_n hx hb dX5_push_27 rfl (lv_at hl 1 rfl) ?_
          refine yr_zaldB hx hb hK hP 7 2 (g := mn.2.2.1) (j := nk) rfl rfl rfl (by omega) (by decide) dX5_push_28 ?_
          refine lv_if_ne (tgt := 41) hx hb dX5_push_29 (by decide) (fun h16 => ?_) (fun h16 => ?_)
          · have h16 := yB_1 h16
            have hf := yBt h16 hf
            refine lv_bipush (v := (-2)) hx hb dX5_push_41 (by decide) ?_
            subst hf
            exact yy_iret (v := (-2)) hx hb hr hP hK hS hlocks dX5_push_43
          · have h16 := yB_0.mp h16
            have hf := yBf h16 hf
            refine lv_aload_n hx hb dX5_push_32 rfl (lv_at hl 0 rfl) ?_
            refine va_get (D := D) (ci := 5) (v := .ref (ma 7)) (C := RX5) (T := TX5) (N := 25) hx hb hts (yy_tl inX5) hown hK hP 0 rfl rfl 7 (by decide) (hw _ wq_492) (fun _ h9 => h9) rfl dX5_push_33 ?_
            refine lv_iconst (v := (nI 0)) hx hb dX5_push_36 (by decide) ?_
            refine yr_zaldB hx hb hK hP 7 2 (g := mn.2.2.1) (j := 0) rfl rfl rfl (by omega) (by decide) dX5_push_37 ?_
            refine lv_if_eq (tgt := 44) hx hb dX5_push_38 (by decide) (fun h17 => ?_) (fun h17 => ?_)
            · have h17 := yB_0.mp h17
              have hf := yBf h17 hf
              refine lv_iconst (v := (nI 0)) hx hb dX5_push_44 (by decide) ?_
              refine lv_istore_n (lv' := [(3, .int (nI 0)), (0, .ref (ma 0)), (1, .int (nI nk)), (2, .int set)]) hx hb dX5_push_45 rfl hl (by decide) rfl (fun ls hl => ?_)
              exact hL46 4 0 nk _ _ _ (by omega) h_nk hf (lv_sub hl [1, 2, 3, 0] rfl) hP hD hS
            · have h17 := yB_1 h17
              have hf := yBt h17 hf
              refine lv_bipush (v := (-2)) hx hb dX5_push_41 (by decide) ?_
              subst hf
              exact yy_iret (v := (-2)) hx hb hr hP hK hS hlocks dX5_push_43
        · have hf := yf h15 hf
          refine lv_iconst (v := (-1)) hx hb dX5_push_21 (by decide) ?_
          subst hf
          exact yy_iret (v := (-1)) hx hb hr hP hK hS hlocks dX5_push_22
