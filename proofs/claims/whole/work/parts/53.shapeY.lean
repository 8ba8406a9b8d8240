/-! ===== shapes kept: a new yard ===== -/
theorem newY_I {S : HS} {a w : Int32} {f t : Nat} (h : t ≠ (200 + 2 * nn (cI S 10))) (h2 : f ≠ fid 8 10 ∨ t ≠ 0) : sI (newY S a w) f t = sI S f t := by
  unfold newY
  rw [sI_setIn h2, sI_setQ]
  unfold initY
  rw [sI_setIn (Or.inr h), sI_setIn (Or.inr h), sI_setR, sI_newA, sI_newO, va_up_ne _ _ h]
theorem newY_10 {S : HS} {a w : Int32} : cI (newY S a w) 10 = cI S 10 + 1 := sI_setIe _ _ _ _
theorem newY_L {S : HS} {a w : Int32} : sL (newY S a w) = sL S ++ [(200 + 2 * nn (cI S 10))] ++ [(200 + 2 * nn (cI S 10)) + 1] := rfl
theorem newY_R {S : HS} {a w : Int32} {f t : Nat} (h : t ≠ (200 + 2 * nn (cI S 10))) : sR (newY S a w) f t = sR S f t := by
  show sR (setR (newA (newO S (200 + 2 * nn (cI S 10))) ((200 + 2 * nn (cI S 10)) + 1)) (fid 7 0) (200 + 2 * nn (cI S 10)) (some ((200 + 2 * nn (cI S 10)) + 1))) f t = _
  rw [sR_setR, up2_ne (Or.inr h), sR_newA, sR_newO, va_up_ne _ _ h]
theorem newY_RT {S : HS} {a w : Int32} (f : Nat) : sR (newY S a w) f (200 + 2 * nn (cI S 10)) = if f = fid 7 0 then some ((200 + 2 * nn (cI S 10)) + 1) else none := by
  show sR (setR (newA (newO S (200 + 2 * nn (cI S 10))) ((200 + 2 * nn (cI S 10)) + 1)) (fid 7 0) (200 + 2 * nn (cI S 10)) (some ((200 + 2 * nn (cI S 10)) + 1))) f (200 + 2 * nn (cI S 10)) = _
  rw [sR_setR]
  by_cases q : f = fid 7 0
  · rw [if_pos q, q]; simp [up2]
  · rw [if_neg q, up2_ne (Or.inl q), sR_newA, sR_newO]; simp [va_up]
theorem newY_Q {S : HS} {a w : Int32} : sQ (newY S a w) 6 = va_up (sQ S 6) (nn (cI S 10)) (some (200 + 2 * nn (cI S 10))) := by
  unfold newY
  rw [sQ_setI, sQ_setQ]
  simp [va_up, clamp_nn]
theorem newY_Qn {S : HS} {a w : Int32} {k : Nat} (h : k ≠ 6) (h1 : k ≠ (200 + 2 * nn (cI S 10)) + 1) : sQ (newY S a w) k = sQ S k := by
  unfold newY
  rw [sQ_setI, sQ_setQ, va_up_ne _ _ h]
  unfold initY
  rw [sQ_setI, sQ_setI, sQ_setR, sQ_newA, va_up_ne _ _ h1, sQ_newO]
theorem newY_Qz {S : HS} {a w : Int32} {k i : Nat} (h : k ≠ 6) (h1 : k = (200 + 2 * nn (cI S 10)) + 1) : sQ (newY S a w) k i = none := by
  unfold newY
  rw [sQ_setI, sQ_setQ, va_up_ne _ _ h]
  unfold initY
  rw [sQ_setI, sQ_setI, sQ_setR, sQ_newA, h1]
  simp [va_up]
theorem newY_sh {S : HS} (h : ShC S) (hlt : nn (cI S 10) < 4) (a w : Int32) : ShC (newY S a w) := by
  obtain ⟨⟨a1, a2⟩, a3, a4, a5, a6, a7, a8, a9, a10, ⟨a11, a12⟩, a13, a14, a15⟩ := id h
  have e10 : (cI (newY S a w) 10).toInt = (cI S 10).toInt + 1 := by
    rw [newY_10, fb_addI] <;> (have : (1 : Int32).toInt = 1 := rfl) <;> omega
  have n10 : nn (cI (newY S a w) 10) = nn (cI S 10) + 1 := by unfold nn at *; omega
  have e9 : cI (newY S a w) 9 = cI S 9 := newY_I (by omega) (Or.inl (by decide))
  have e11 : cI (newY S a w) 11 = cI S 11 := newY_I (by omega) (Or.inl (by decide))
  have hb9 : nn (cI S 9) ≤ 12 := by unfold nn; omega
  have hL := newY_L (S := S) (a := a) (w := w)
  refine ⟨⟨?_, ?_⟩, ?_, ?_, ?_, ?_, ?_, ?_, ?_, ?_, ⟨?_, ?_⟩, ?_, ?_, ?_⟩
  · intro t ht; rw [hL]; exact List.mem_append_left _ (List.mem_append_left _ (a1 t ht))
  · intro p hp; rw [newY_R (by have := refsC_lo p hp; omega)]; exact a2 p hp
  · intro t
    rw [hL, List.mem_append, List.mem_append, a3 t, List.mem_singleton, List.mem_singleton, n10, e9, e11, newY_Qn (k := 10) (by decide) (by omega)]
    constructor
    · rintro (((q | q | q | q | q) | q) | q)
      · exact Or.inl q
      · exact Or.inr (Or.inl q)
      · exact Or.inr (Or.inr (Or.inl ⟨q.1, by omega⟩))
      · exact Or.inr (Or.inr (Or.inr (Or.inl q)))
      · exact Or.inr (Or.inr (Or.inr (Or.inr q)))
      · exact Or.inr (Or.inr (Or.inl ⟨by omega, by omega⟩))
      · exact Or.inr (Or.inr (Or.inl ⟨by omega, by omega⟩))
    · rintro (q | q | q | q | q)
      · exact Or.inl (Or.inl (Or.inl q))
      · exact Or.inl (Or.inl (Or.inr (Or.inl q)))
      · by_cases z0 : t < (200 + 2 * nn (cI S 10))
        · exact Or.inl (Or.inl (Or.inr (Or.inr (Or.inl ⟨q.1, z0⟩))))
        · by_cases z1 : t = (200 + 2 * nn (cI S 10))
          · exact Or.inl (Or.inr z1)
          · exact Or.inr (by omega)
      · exact Or.inl (Or.inl (Or.inr (Or.inr (Or.inr (Or.inl q)))))
      · exact Or.inl (Or.inl (Or.inr (Or.inr (Or.inr (Or.inr q)))))
  · intro i hi
    rw [e9] at hi
    rw [newY_Qn (by decide) (by omega), newY_R (by omega), newY_R (by omega)]
    exact a4 i hi
  · intro i hi hi2
    rw [e9] at hi
    rw [newY_Qn (by decide) (by omega)]
    exact a5 i hi hi2
  · intro i hi
    rw [n10] at hi
    rw [newY_Q]
    by_cases e : i = nn (cI S 10)
    · rw [e, newY_RT, if_pos rfl]
      exact ⟨by simp [va_up], by congr 1; omega⟩
    · rw [va_up_ne _ _ e, newY_R (by omega)]
      exact a6 i (by omega)
  · intro i hi hi2
    rw [n10] at hi
    rw [newY_Q, va_up_ne _ _ (by omega)]
    exact a7 i (by omega) hi2
  · intro i hi
    rw [e11] at hi
    rw [newY_Qn (by decide) (by omega)]
    exact a8 i hi
  · intro i hi hi2
    rw [e11] at hi
    rw [newY_Qn (by decide) (by omega)]
    exact a9 i hi hi2
  · intro i hi
    rw [newY_Qn (by decide) (by omega), newY_R (by omega)]
    exact a10 i hi
  · intro f x t e
    rw [hL]
    by_cases q : x = (200 + 2 * nn (cI S 10))
    · rw [q, newY_RT] at e
      by_cases q1 : f = fid 7 0
      · rw [if_pos q1] at e
        rw [← Option.some.inj e]
        exact List.mem_append_right _ (List.mem_singleton.mpr rfl)
      · rw [if_neg q1] at e; cases e
    · rw [newY_R q] at e
      exact List.mem_append_left _ (List.mem_append_left _ (a11 f x t e))
  · intro x i t e
    rw [hL]
    by_cases q : x = 6
    · rw [q, newY_Q] at e
      by_cases q2 : i = nn (cI S 10)
      · rw [q2] at e
        simp [va_up] at e
        rw [← e]
        exact List.mem_append_left _ (List.mem_append_right _ (List.mem_singleton.mpr rfl))
      · rw [va_up_ne _ _ q2] at e
        exact List.mem_append_left _ (List.mem_append_left _ (a12 6 i t e))
    · by_cases q1 : x = (200 + 2 * nn (cI S 10)) + 1
      · rw [newY_Qz q q1] at e; cases e
      · rw [newY_Qn q q1] at e
        exact List.mem_append_left _ (List.mem_append_left _ (a12 x i t e))
  · rw [e9]; exact a13
  · unfold nn at hlt; omega
  · rw [e11]; exact a15
