abbrev yT (cI cJ cZ cN : ClassId) : List (ClassId × FieldType) := [(cI, .int), (cJ, .long), (cZ, .boolean), (cN, .object "PackExchange$Node")]
abbrev NS : Type := (Nat → Int32) × (Nat → Int32) × Int32 × Bool × Int64 × Bool × Int32
abbrev SS : Type := (Nat → Int32) × (Nat → Int32) × (Nat → Int32) × (Nat → Int32) × (Nat → Int64) × Nat
abbrev TS : Type := Int32 × Int32 × Int32
abbrev PS : Type := (Nat → Int32) × (Nat → Int32) × (Nat → Int32) × Int64 × Nat × Int32
abbrev MO : Type := Nat × (Nat → Int32) × (Nat → Int32) × (Nat → Int32) × (Nat → Int32)
abbrev MN : Type := (Nat → Int64) × (Nat → Int32) × (Nat → Bool) × (Nat → Int32) × (Nat → Nat) × (Nat → Bool) × (Nat → Nat) × (Nat → Int32)
abbrev MW : Type := Nat × (Nat → Nat) × (Nat → Int32)
abbrev MT : Type := Int32 × Int32 × Int32
abbrev MP : Type := Nat × (Nat → Nat) × (Nat → Int32) × (Nat → Int32) × (Nat → Int32)
abbrev ndW (cI : ClassId) (a : Nat → Nat) (nd : NS) : va_W := [(a 0, .inr (0, [.ref (a 1), .ref (a 2), .int nd.2.2.1, .int (yB nd.2.2.2.1), .long nd.2.2.2.2.1, .int (yB nd.2.2.2.2.2.1), .int nd.2.2.2.2.2.2])), (a 1, .inl (cI, 8, .inl nd.1)), (a 2, .inl (cI, 8, .inl nd.2.1))]
abbrev stW (cI cJ : ClassId) (a : Nat → Nat) (so : SS) : va_W := [(a 0, .inr (2, [.ref (a 1), .ref (a 2), .ref (a 3), .ref (a 4), .ref (a 5), .int (nI so.2.2.2.2.2)])), (a 1, .inl (cI, 60, .inl so.1)), (a 2, .inl (cI, 60, .inl so.2.1)), (a 3, .inl (cI, 60, .inl so.2.2.1)), (a 4, .inl (cI, 60, .inl so.2.2.2.1)), (a 5, .inl (cJ, 60, .inr (.inl so.2.2.2.2.1)))]
abbrev tkW (a : Nat → Nat) (tk : TS) : va_W := [(a 0, .inr (3, [.int tk.1, .int tk.2.1, .int tk.2.2]))]
abbrev pkW (cI : ClassId) (a : Nat → Nat) (pk : PS) : va_W := [(a 0, .inr (1, [.ref (a 1), .ref (a 2), .ref (a 3), .long pk.2.2.2.1, .int (nI pk.2.2.2.2.1), .int pk.2.2.2.2.2])), (a 1, .inl (cI, 60, .inl pk.1)), (a 2, .inl (cI, 60, .inl pk.2.1)), (a 3, .inl (cI, 60, .inl pk.2.2.1))]
abbrev mW (cI cJ cZ : ClassId) (a : Nat → Nat) (mo : MO) (mn : MN) (mw : MW) (mt : MT) (v : (Nat → Int32)) (mp : MP) : va_W := [(a 0, .inr (5, [.int (nI mo.1), .ref (a 1), .ref (a 2), .ref (a 3), .ref (a 4), .ref (a 5), .ref (a 6), .ref (a 7), .ref (a 8), .ref (a 9), .ref (a 10), .ref (a 11), .ref (a 12), .int (nI mw.1), .ref (a 13), .ref (a 14), .int mt.1, .int mt.2.1, .int mt.2.2, .ref (a 15), .int (nI mp.1), .ref (a 16), .ref (a 17), .ref (a 18), .ref (a 19)])), (a 1, .inl (cI, 60, .inl mo.2.1)), (a 2, .inl (cI, 60, .inl mo.2.2.1)), (a 3, .inl (cI, 60, .inl mo.2.2.2.1)), (a 4, .inl (cI, 60, .inl mo.2.2.2.2)), (a 5, .inl (cJ, 3, .inr (.inl mn.1))), (a 6, .inl (cI, 24, .inl mn.2.1)), (a 7, .inl (cZ, 3, .inl (fun j => yB (mn.2.2.1 j)))), (a 8, .inl (cI, 3, .inl mn.2.2.2.1)), (a 9, .inl (cI, 3, .inl (fun j => nI (mn.2.2.2.2.1 j % 5)))), (a 10, .inl (cZ, 3, .inl (fun j => yB (mn.2.2.2.2.2.1 j)))), (a 11, .inl (cI, 12, .inl (fun j => nI (mn.2.2.2.2.2.2.1 j % 8)))), (a 12, .inl (cI, 12, .inl mn.2.2.2.2.2.2.2)), (a 13, .inl (cI, 4, .inl (fun j => nI (mw.2.1 j % 8)))), (a 14, .inl (cI, 4, .inl mw.2.2)), (a 15, .inl (cI, 4, .inl v)), (a 16, .inl (cI, 60, .inl (fun j => nI (mp.2.1 j % 60)))), (a 17, .inl (cI, 60, .inl mp.2.2.1)), (a 18, .inl (cI, 60, .inl mp.2.2.2.1)), (a 19, .inl (cI, 60, .inl mp.2.2.2.2))]
abbrev vdW (cI : ClassId) (a : Nat → Nat) (v : Nat → Int32) : va_W := [(a 2, .inl (cI, 4, .inl v))]
abbrev tgW (cI : ClassId) (a : Nat → Nat) (v : Nat → Int32) : va_W := [(a 3, .inl (cI, 8, .inl v))]
def naF (nad : Nat → Nat → Nat) : Nat → Option Nat := va_up (va_up (va_up (fun _ => none) 0 (some (nad 0 0))) 1 (some (nad 1 0))) 2 (some (nad 2 0))
theorem na_at {nad : Nat → Nat → Nat} {k : Nat} (h : k < 3) : naF nad k = some (nad k 0) := by
  rcases (show k = 0 ∨ k = 1 ∨ k = 2 by omega) with rfl | rfl | rfl <;> rfl
abbrev naW (cN : ClassId) (a : Nat → Nat) (nad : Nat → Nat → Nat) : va_W := [(a 1, .inl (cN, 3, .inr (.inr (.inr (.inr (naF nad))))))]
abbrev xcW (xa sa ta pa : Nat → Nat) : va_W := [(xa 0, .inr (4, [.ref (sa 0), .ref (xa 1), .ref (ta 0), .ref (pa 0), .ref (xa 2), .ref (xa 3)]))]
abbrev n3W (cI : ClassId) (nad : Nat → Nat → Nat) (ns : Nat → NS) : va_W := ndW cI (nad 0) (ns 0) ++ ndW cI (nad 1) (ns 1) ++ ndW cI (nad 2) (ns 2)
/-- the two other nodes -/
def n2W (cI : ClassId) (nad : Nat → Nat → Nat) (nk : Nat) (ns : Nat → NS) : va_W := match nk with
  | 0 => ndW cI (nad 1) (ns 1) ++ ndW cI (nad 2) (ns 2)
  | 1 => ndW cI (nad 2) (ns 2) ++ ndW cI (nad 0) (ns 0)
  | _ => ndW cI (nad 0) (ns 0) ++ ndW cI (nad 1) (ns 1)
/-- the node that is neither 0 nor nk -/
def n1W (cI : ClassId) (nad : Nat → Nat → Nat) (nk : Nat) (ns : Nat → NS) : va_W := match nk with
  | 1 => ndW cI (nad 2) (ns 2)
  | _ => ndW cI (nad 1) (ns 1)
section XP
variable {D : va_G} {cl : List vw_C} {A : Nat → Prop} {H : Heap} {cI : ClassId} {nad : Nat → Nat → Nat} {ns : Nat → NS} {nk : Nat} {F : va_W} {s0 s1 : NS}
theorem xW_3 {a b c : va_W} : F ++ (a ++ b ++ c) = ((F ++ a) ++ b) ++ c := by simp only [List.append_assoc]
theorem xW_to1 (h : nk < 3) (hP : va_P D cl (F ++ n3W cI nad ns) H) (hD : va_D A (F ++ n3W cI nad ns)) : va_P D cl ((F ++ ndW cI (nad nk) (ns nk)) ++ n2W cI nad nk ns) H ∧ va_D A ((F ++ ndW cI (nad nk) (ns nk)) ++ n2W cI nad nk ns) := by
  rcases (show nk = 0 ∨ nk = 1 ∨ nk = 2 by omega) with rfl | rfl | rfl
  · have e : F ++ n3W cI nad ns = (F ++ ndW cI (nad 0) (ns 0)) ++ (ndW cI (nad 1) (ns 1) ++ ndW cI (nad 2) (ns 2)) := by simp only [n3W, List.append_assoc]
    rw [e] at hP hD
    exact ⟨hP, hD⟩
  · have e : F ++ n3W cI nad ns = (F ++ ndW cI (nad 0) (ns 0)) ++ (ndW cI (nad 1) (ns 1) ++ ndW cI (nad 2) (ns 2)) := by simp only [n3W, List.append_assoc]
    have e2 : (F ++ (ndW cI (nad 1) (ns 1) ++ ndW cI (nad 2) (ns 2))) ++ ndW cI (nad 0) (ns 0) = (F ++ ndW cI (nad 1) (ns 1)) ++ (ndW cI (nad 2) (ns 2) ++ ndW cI (nad 0) (ns 0)) := by simp only [List.append_assoc]
    rw [e] at hP hD
    have hP := hP.swap
    have hD := hD.swap
    rw [e2] at hP hD
    exact ⟨hP, hD⟩
  · have e : F ++ n3W cI nad ns = (F ++ (ndW cI (nad 0) (ns 0) ++ ndW cI (nad 1) (ns 1))) ++ ndW cI (nad 2) (ns 2) := by simp only [n3W, List.append_assoc]
    rw [e] at hP hD
    exact ⟨hP.swap, hD.swap⟩
theorem xW_of1 (h : nk < 3) (hP : va_P D cl ((F ++ ndW cI (nad nk) s1) ++ n2W cI nad nk ns) H) : va_P D cl (F ++ n3W cI nad (yupF ns nk s1)) H := by
  rcases (show nk = 0 ∨ nk = 1 ∨ nk = 2 by omega) with rfl | rfl | rfl
  · have e : F ++ n3W cI nad (yupF ns 0 s1) = (F ++ ndW cI (nad 0) s1) ++ (ndW cI (nad 1) (ns 1) ++ ndW cI (nad 2) (ns 2)) := by
      rw [show n3W cI nad (yupF ns 0 s1) = ndW cI (nad 0) s1 ++ ndW cI (nad 1) (ns 1) ++ ndW cI (nad 2) (ns 2) from rfl]
      simp only [List.append_assoc]
    rw [e]
    exact hP
  · have e : F ++ n3W cI nad (yupF ns 1 s1) = (F ++ ndW cI (nad 0) (ns 0)) ++ (ndW cI (nad 1) s1 ++ ndW cI (nad 2) (ns 2)) := by
      rw [show n3W cI nad (yupF ns 1 s1) = ndW cI (nad 0) (ns 0) ++ ndW cI (nad 1) s1 ++ ndW cI (nad 2) (ns 2) from rfl]
      simp only [List.append_assoc]
    have e2 : (F ++ (ndW cI (nad 1) s1 ++ ndW cI (nad 2) (ns 2))) ++ ndW cI (nad 0) (ns 0) = (F ++ ndW cI (nad 1) s1) ++ (ndW cI (nad 2) (ns 2) ++ ndW cI (nad 0) (ns 0)) := by simp only [List.append_assoc]
    rw [e]
    refine va_P.swap ?_
    rw [e2]
    exact hP
  · have e : F ++ n3W cI nad (yupF ns 2 s1) = (F ++ (ndW cI (nad 0) (ns 0) ++ ndW cI (nad 1) (ns 1))) ++ ndW cI (nad 2) s1 := by
      rw [show n3W cI nad (yupF ns 2 s1) = ndW cI (nad 0) (ns 0) ++ ndW cI (nad 1) (ns 1) ++ ndW cI (nad 2) s1 from rfl]
      simp only [List.append_assoc]
    rw [e]
    exact hP.swap
theorem yupF_self (f : Nat → NS) (k : Nat) : yupF f k (f k) = f := by
  funext j
  unfold yupF
  split
  · next h => rw [h]
  · rfl
theorem xW_of1_1 (h : nk < 3) (hP : va_P D cl ((F ++ ndW cI (nad nk) s1) ++ n2W cI nad nk ns) H) : va_P D cl (F ++ n3W cI nad (yupF ns nk s1)) H := xW_of1 h hP
theorem xW_of1_0 (h : nk < 3) (hP : va_P D cl ((F ++ ndW cI (nad nk) (ns nk)) ++ n2W cI nad nk ns) H) : va_P D cl (F ++ n3W cI nad ns) H := by
  have h1 := xW_of1 h hP
  rw [yupF_self] at h1
  exact h1
theorem xW_to2 (h : nk < 3) (h0 : nk ≠ 0) (hP : va_P D cl (F ++ n3W cI nad ns) H) (hD : va_D A (F ++ n3W cI nad ns)) : va_P D cl (((F ++ ndW cI (nad 0) (ns 0)) ++ ndW cI (nad nk) (ns nk)) ++ n1W cI nad nk ns) H ∧ va_D A (((F ++ ndW cI (nad 0) (ns 0)) ++ ndW cI (nad nk) (ns nk)) ++ n1W cI nad nk ns) := by
  have e : F ++ n3W cI nad ns = ((F ++ ndW cI (nad 0) (ns 0)) ++ ndW cI (nad 1) (ns 1)) ++ ndW cI (nad 2) (ns 2) := by simp only [n3W, List.append_assoc]
  rw [e] at hP hD
  rcases (show nk = 1 ∨ nk = 2 by omega) with rfl | rfl
  · exact ⟨hP, hD⟩
  · exact ⟨hP.swap, hD.swap⟩
theorem xW_of2 (h : nk < 3) (h0 : nk ≠ 0) (hP : va_P D cl (((F ++ ndW cI (nad 0) s0) ++ ndW cI (nad nk) s1) ++ n1W cI nad nk ns) H) : va_P D cl (F ++ n3W cI nad (yupF (yupF ns 0 s0) nk s1)) H := by
  rcases (show nk = 1 ∨ nk = 2 by omega) with rfl | rfl
  · have e : F ++ n3W cI nad (yupF (yupF ns 0 s0) 1 s1) = ((F ++ ndW cI (nad 0) s0) ++ ndW cI (nad 1) s1) ++ ndW cI (nad 2) (ns 2) := by
      rw [show n3W cI nad (yupF (yupF ns 0 s0) 1 s1) = ndW cI (nad 0) s0 ++ ndW cI (nad 1) s1 ++ ndW cI (nad 2) (ns 2) from rfl]
      simp only [List.append_assoc]
    rw [e]
    exact hP
  · have e : F ++ n3W cI nad (yupF (yupF ns 0 s0) 2 s1) = ((F ++ ndW cI (nad 0) s0) ++ ndW cI (nad 1) (ns 1)) ++ ndW cI (nad 2) s1 := by
      rw [show n3W cI nad (yupF (yupF ns 0 s0) 2 s1) = ndW cI (nad 0) s0 ++ ndW cI (nad 1) (ns 1) ++ ndW cI (nad 2) s1 from rfl]
      simp only [List.append_assoc]
    rw [e]
    exact hP.swap
theorem yupF_ne {f : Nat → NS} {k : Nat} (v : NS) (h : k ≠ 0) : yupF f 0 v k = f k := by
  unfold yupF
  rw [if_neg h]
theorem xW_of2_11 (h : nk < 3) (h0 : nk ≠ 0) (hP : va_P D cl (((F ++ ndW cI (nad 0) s0) ++ ndW cI (nad nk) s1) ++ n1W cI nad nk ns) H) : va_P D cl (F ++ n3W cI nad (yupF (yupF ns 0 s0) nk s1)) H := xW_of2 h h0 hP
theorem xW_of2_01 (h : nk < 3) (h0 : nk ≠ 0) (hP : va_P D cl (((F ++ ndW cI (nad 0) (ns 0)) ++ ndW cI (nad nk) s1) ++ n1W cI nad nk ns) H) : va_P D cl (F ++ n3W cI nad (yupF ns nk s1)) H := by
  have h1 := xW_of2 h h0 hP
  rw [yupF_self] at h1
  exact h1
theorem xW_of2_10 (h : nk < 3) (h0 : nk ≠ 0) (hP : va_P D cl (((F ++ ndW cI (nad 0) s0) ++ ndW cI (nad nk) (ns nk)) ++ n1W cI nad nk ns) H) : va_P D cl (F ++ n3W cI nad (yupF ns 0 s0)) H := by
  have h1 := xW_of2 h h0 hP
  have e : yupF (yupF ns 0 s0) nk (ns nk) = yupF ns 0 s0 := by
    have := yupF_self (yupF ns 0 s0) nk
    rw [yupF_ne s0 h0] at this
    exact this
  rw [e] at h1
  exact h1
theorem xW_of2_00 (h : nk < 3) (h0 : nk ≠ 0) (hP : va_P D cl (((F ++ ndW cI (nad 0) (ns 0)) ++ ndW cI (nad nk) (ns nk)) ++ n1W cI nad nk ns) H) : va_P D cl (F ++ n3W cI nad ns) H := by
  have h1 := xW_of2_01 h h0 hP
  rw [yupF_self] at h1
  exact h1
end XP
abbrev x_W (cI cJ cN : ClassId) (ad : Nat → Nat) (so : SS) (tk : TS) (pk : PS) (vd tg : Nat → Int32) (ns : Nat → NS) : va_W := xcW ad (fun j => ad (4 + j)) (fun j => ad (10 + j)) (fun j => ad (11 + j)) ++ stW cI cJ (fun j => ad (4 + j)) so ++ naW cN ad (fun i j => ad (15 + 3 * i + j)) ++ tkW (fun j => ad (10 + j)) tk ++ pkW cI (fun j => ad (11 + j)) pk ++ vdW cI ad vd ++ tgW cI ad tg ++ n3W cI (fun i j => ad (15 + 3 * i + j)) ns
