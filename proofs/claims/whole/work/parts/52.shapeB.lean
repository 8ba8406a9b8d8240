/-! ===== shapes kept: a new boat ===== -/
theorem newB_I {S : HS} {a : Int32} {f t : Nat} (h : t ≠ 100 + 3 * nn (cI S 9)) (h2 : f ≠ fid 8 9 ∨ t ≠ 0) : sI (newB S a) f t = sI S f t := by
  unfold newB
  rw [sI_setIn h2, sI_setQ]
  unfold initB
  rw [sI_setIn (Or.inr h), sI_setIn (Or.inr h), sI_setR, sI_newA, sI_setR, sI_newA, sI_newO, va_up_ne _ _ h]
theorem newB_9 {S : HS} {a : Int32} : cI (newB S a) 9 = cI S 9 + 1 := sI_setIe _ _ _ _
theorem newB_L {S : HS} {a : Int32} : sL (newB S a) = sL S ++ [100 + 3 * nn (cI S 9)] ++ [100 + 3 * nn (cI S 9) + 1] ++ [100 + 3 * nn (cI S 9) + 2] := rfl
theorem newB_R {S : HS} {a : Int32} {f t : Nat} (h : t ≠ 100 + 3 * nn (cI S 9)) : sR (newB S a) f t = sR S f t := by
  show sR (setR (newA (setR (newA (newO S (100 + 3 * nn (cI S 9))) (100 + 3 * nn (cI S 9) + 1)) (fid 0 0) (100 + 3 * nn (cI S 9)) (some (100 + 3 * nn (cI S 9) + 1))) (100 + 3 * nn (cI S 9) + 2)) (fid 0 1) (100 + 3 * nn (cI S 9)) (some (100 + 3 * nn (cI S 9) + 2))) f t = _
  rw [sR_setR, up2_ne (Or.inr h), sR_newA, sR_setR, up2_ne (Or.inr h), sR_newA, sR_newO, va_up_ne _ _ h]
theorem newB_RT {S : HS} {a : Int32} (f : Nat) : sR (newB S a) f (100 + 3 * nn (cI S 9)) = if f = fid 0 1 then some (100 + 3 * nn (cI S 9) + 2) else if f = fid 0 0 then some (100 + 3 * nn (cI S 9) + 1) else none := by
  show sR (setR (newA (setR (newA (newO S (100 + 3 * nn (cI S 9))) (100 + 3 * nn (cI S 9) + 1)) (fid 0 0) (100 + 3 * nn (cI S 9)) (some (100 + 3 * nn (cI S 9) + 1))) (100 + 3 * nn (cI S 9) + 2)) (fid 0 1) (100 + 3 * nn (cI S 9)) (some (100 + 3 * nn (cI S 9) + 2))) f (100 + 3 * nn (cI S 9)) = _
  rw [sR_setR]
  by_cases q : f = fid 0 1
  · rw [if_pos q, q]; simp [up2]
  · rw [if_neg q, up2_ne (Or.inl q), sR_newA, sR_setR]
    by_cases q2 : f = fid 0 0
    · rw [if_pos q2, q2]; simp [up2]
    · rw [if_neg q2, up2_ne (Or.inl q2), sR_newA, sR_newO]; simp [va_up]
theorem newB_Q {S : HS} {a : Int32} : sQ (newB S a) 5 = va_up (sQ S 5) (nn (cI S 9)) (some (100 + 3 * nn (cI S 9))) := by
  unfold newB
  rw [sQ_setI, sQ_setQ]
  simp [va_up, clamp_nn]
theorem newB_Qn {S : HS} {a : Int32} {k : Nat} (h : k ≠ 5) (h1 : k ≠ 100 + 3 * nn (cI S 9) + 1) (h2 : k ≠ 100 + 3 * nn (cI S 9) + 2) : sQ (newB S a) k = sQ S k := by
  unfold newB
  rw [sQ_setI, sQ_setQ, va_up_ne _ _ h]
  unfold initB
  rw [sQ_setI, sQ_setI, sQ_setR, sQ_newA, va_up_ne _ _ h2, sQ_setR, sQ_newA, va_up_ne _ _ h1, sQ_newO]
theorem newB_Qz {S : HS} {a : Int32} {k i : Nat} (h : k ≠ 5) (h1 : k = 100 + 3 * nn (cI S 9) + 1 ∨ k = 100 + 3 * nn (cI S 9) + 2) : sQ (newB S a) k i = none := by
  unfold newB
  rw [sQ_setI, sQ_setQ, va_up_ne _ _ h]
  unfold initB
  rw [sQ_setI, sQ_setI, sQ_setR, sQ_newA]
  by_cases q : k = 100 + 3 * nn (cI S 9) + 2
  · rw [q]; simp [va_up]
  · rw [va_up_ne _ _ q, sQ_setR, sQ_newA]
    rcases h1 with z | z
    · rw [z]; simp [va_up]
    · exact absurd z q
theorem newB_sh {S : HS} (h : ShC S) (hlt : nn (cI S 9) < 12) (a : Int32) : ShC (newB S a) := by
  obtain ⟨⟨a1, a2⟩, a3, a4, a5, a6, a7, a8, a9, a10, ⟨a11, a12⟩, a13, a14, a15⟩ := id h
  have e9 : (cI (newB S a) 9).toInt = (cI S 9).toInt + 1 := by
    rw [newB_9, fb_addI] <;> (have : (1 : Int32).toInt = 1 := rfl) <;> omega
  have n9 : nn (cI (newB S a) 9) = nn (cI S 9) + 1 := by unfold nn at *; omega
  have e10 : cI (newB S a) 10 = cI S 10 := newB_I (by omega) (Or.inl (by decide))
  have e11 : cI (newB S a) 11 = cI S 11 := newB_I (by omega) (Or.inl (by decide))
  have hb10 : nn (cI S 10) ≤ 4 := by unfold nn; omega
  have hL := newB_L (S := S) (a := a)
  refine ⟨⟨?_, ?_⟩, ?_, ?_, ?_, ?_, ?_, ?_, ?_, ?_, ⟨?_, ?_⟩, ?_, ?_, ?_⟩
  · intro t ht; rw [hL]; exact List.mem_append_left _ (List.mem_append_left _ (List.mem_append_left _ (a1 t ht)))
  · intro p hp; rw [newB_R (by have := refsC_lo p hp; omega)]; exact a2 p hp
  · intro t
    rw [hL, List.mem_append, List.mem_append, List.mem_append, a3 t, List.mem_singleton, List.mem_singleton, List.mem_singleton, n9, e10, e11, newB_Qn (k := 10) (by decide) (by omega) (by omega)]
    constructor
    · rintro ((((q | q | q | q | q) | q) | q) | q)
      · exact Or.inl q
      · exact Or.inr (Or.inl ⟨q.1, by omega⟩)
      · exact Or.inr (Or.inr (Or.inl q))
      · exact Or.inr (Or.inr (Or.inr (Or.inl q)))
      · exact Or.inr (Or.inr (Or.inr (Or.inr q)))
      · exact Or.inr (Or.inl ⟨by omega, by omega⟩)
      · exact Or.inr (Or.inl ⟨by omega, by omega⟩)
      · exact Or.inr (Or.inl ⟨by omega, by omega⟩)
    · rintro (q | q | q | q | q)
      · exact Or.inl (Or.inl (Or.inl (Or.inl q)))
      · by_cases z0 : t < 100 + 3 * nn (cI S 9)
        · exact Or.inl (Or.inl (Or.inl (Or.inr (Or.inl ⟨q.1, z0⟩))))
        · by_cases z1 : t = 100 + 3 * nn (cI S 9)
          · exact Or.inl (Or.inl (Or.inr z1))
          · by_cases z2 : t = 100 + 3 * nn (cI S 9) + 1
            · exact Or.inl (Or.inr z2)
            · exact Or.inr (by omega)
      · exact Or.inl (Or.inl (Or.inl (Or.inr (Or.inr (Or.inl q)))))
      · exact Or.inl (Or.inl (Or.inl (Or.inr (Or.inr (Or.inr (Or.inl q))))))
      · exact Or.inl (Or.inl (Or.inl (Or.inr (Or.inr (Or.inr (Or.inr q))))))
  · intro i hi
    rw [n9] at hi
    rw [newB_Q]
    by_cases e : i = nn (cI S 9)
    · rw [e, newB_RT, newB_RT, if_neg (by decide), if_pos rfl, if_pos rfl]
      exact ⟨by simp [va_up], by congr 1; omega, by congr 1; omega⟩
    · rw [va_up_ne _ _ e, newB_R (by omega), newB_R (by omega)]
      exact a4 i (by omega)
  · intro i hi hi2
    rw [n9] at hi
    rw [newB_Q, va_up_ne _ _ (by omega)]
    exact a5 i (by omega) hi2
  · intro i hi
    rw [e10] at hi
    rw [newB_Qn (by decide) (by omega) (by omega), newB_R (by omega)]
    exact a6 i hi
  · intro i hi hi2
    rw [e10] at hi
    rw [newB_Qn (by decide) (by omega) (by omega)]
    exact a7 i hi hi2
  · intro i hi
    rw [e11] at hi
    rw [newB_Qn (by decide) (by omega) (by omega)]
    exact a8 i hi
  · intro i hi hi2
    rw [e11] at hi
    rw [newB_Qn (by decide) (by omega) (by omega)]
    exact a9 i hi hi2
  · intro i hi
    rw [newB_Qn (by decide) (by omega) (by omega), newB_R (by omega)]
    exact a10 i hi
  · intro f x t e
    rw [hL]
    by_cases q : x = 100 + 3 * nn (cI S 9)
    · rw [q, newB_RT] at e
      by_cases q1 : f = fid 0 1
      · rw [if_pos q1] at e
        rw [← Option.some.inj e]
        exact List.mem_append_right _ (List.mem_singleton.mpr rfl)
      · rw [if_neg q1] at e
        by_cases q2 : f = fid 0 0
        · rw [if_pos q2] at e
          rw [← Option.some.inj e]
          exact List.mem_append_left _ (List.mem_append_right _ (List.mem_singleton.mpr rfl))
        · rw [if_neg q2] at e; cases e
    · rw [newB_R q] at e
      exact List.mem_append_left _ (List.mem_append_left _ (List.mem_append_left _ (a11 f x t e)))
  · intro x i t e
    rw [hL]
    by_cases q : x = 5
    · rw [q, newB_Q] at e
      by_cases q2 : i = nn (cI S 9)
      · rw [q2] at e
        simp [va_up] at e
        rw [← e]
        exact List.mem_append_left _ (List.mem_append_left _ (List.mem_append_right _ (List.mem_singleton.mpr rfl)))
      · rw [va_up_ne _ _ q2] at e
        exact List.mem_append_left _ (List.mem_append_left _ (List.mem_append_left _ (a12 5 i t e)))
    · by_cases q1 : x = 100 + 3 * nn (cI S 9) + 1 ∨ x = 100 + 3 * nn (cI S 9) + 2
      · rw [newB_Qz q q1] at e; cases e
      · rw [newB_Qn q (fun z => q1 (Or.inl z)) (fun z => q1 (Or.inr z))] at e
        exact List.mem_append_left _ (List.mem_append_left _ (List.mem_append_left _ (a12 x i t e)))
  · unfold nn at hlt; omega
  · rw [e10]; exact a14
  · rw [e11]; exact a15
