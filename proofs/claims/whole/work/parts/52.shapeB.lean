/-! ===== shapes kept: a new boat ===== -/
theorem newB_I {S : HS} {a : Int32} {f t : Nat} (h : t ≠ 100 + 3 * nn (cI S 9)) (h2 : f ≠ fid 8 9 ∨ t ≠ 0) : sI (newB S a) f t = sI S f t := by
  unfold newB
  rw [sI_setIn h2, sI_setQ]
  unfold initB
  rw [sI_setIn (Or.inr h), sI_setIn (Or.inr h), sI_setR, sI_newA, sI_setR, sI_newA, sI_newO, va_up_ne _ _ h]
theorem newB_9 {S : HS} {a : Int32} : cI (newB S a) 9 = cI S 9 + 1 := sI_setIe _ _ _ _
theorem newB_L {S : HS} {a : Int32} : sL (newB S a) = sL S ++ [100 + 3 * nn (cI S 9)] ++ [100 + 3 * nn (cI S 9) + 1] ++ [100 + 3 * nn (cI S 9) + 2] := rfl
theorem newB_R {S : HS} {a : Int32} {f t : Nat} (h : t ≠ 100 + 3 * nn (cI S 9)) : sR (newB S a) f t = sR S f t := by
  show sR (setR (newA (setR (newA (newO S (100 + 3 * nn (cI S 9))) (100 + 3 * nn (cI S 9) + 1)) (fid 0 0) (100 + 3 * nn (cI S 9)) (some (100 + 3 * nn (cI S 9) + 1))) (100 + 3 * nn (cI S 9) + 2)) (fid 0 1) (100 + 3 * nn (cI S 9)) (some (100 + 3 * nn (cI S 9) + 2))) f t = _
  rw [sR_setR, up2_ne (Or.inr h), sR_newA, sR_setR, up2_ne (Or.inr h), sR_newA, sR_newO, va_up_ne _ _ h]
theorem newB_RT {S : HS} {a : Int32} (f : Nat) : sR (newB S a) f (100 + 3 * nn (cI S 9)) = if f = fid 0 1 then some (100 + 3 * nn (cI S 9) + 2) else if f = fid 0 0 then some (100 + 3 * nn (cI S 9) + 1) else none := by
  show sR (setR (newA (setR (newA (newO S (100 + 3 * nn (cI S 9))) (100 + 3 * nn (cI S 9) + 1)) (fid 0 0) (100 + 3 * nn (cI S 9)) (some (100 + 3 * nn (cI S 9) + 1))) (100 + 3 * nn (cI S 9) + 2)) (fid 0 1) (100 + 3 * nn (cI S 9)) (some (100 + 3 * nn (cI S 9) + 2))) f (100 + 3 * nn (cI S 9)) = _
  rw [sR_setR]
  by_cases q : f = fid 0 1
  · rw [if_pos q, q]; simp [up2]
  · rw [if_neg q, up2_ne (Or.inl q), sR_newA, sR_setR]
    by_cases q2 : f = fid 0 0
    · rw [if_pos q2, q2]; simp [up2]
    · rw [if_neg q2, up2_ne (Or.inl q2), sR_newA, sR_newO]; simp [va_up]
theorem newB_Q {S : HS} {a : Int32} : sQ (newB S a) 5 = va_up (sQ S 5) (nn (cI S 9)) (some (100 + 3 * nn (cI S 9))) := by
  unfold newB
  rw [sQ_setI, sQ_setQ]
  simp [va_up, clamp_nn]
theorem newB_Qn {S : HS} {a : Int32} {k : Nat} (h : k ≠ 5) (h1 : k ≠ 100 + 3 * nn (cI S 9) + 1) (h2 : k ≠ 100 + 3 * nn (cI S 9) + 2) : sQ (newB S a) k = sQ S k := by
  unfold newB
  rw [sQ_setI, sQ_setQ, va_up_ne _ _ h]
  unfold initB
  rw [sQ_setI, sQ_setI, sQ_setR, sQ_newA, va_up_ne _ _ h2, sQ_setR, sQ_newA, va_up_ne _ _ h1, sQ_newO]
theorem newB_Qz {S : HS} {a : Int32} {k i : Nat} (h : k ≠ 5) (h1 : k = 100 + 3 * nn (cI S 9) + 1 ∨ k = 100 + 3 * nn (cI S 9) + 2) : sQ (newB S a) k i = none := by
  unfold newB
  rw [sQ_setI, sQ_setQ, va_up_ne _ _ h]
  unfold initB
  rw [sQ_setI, sQ_setI, sQ_setR, sQ_newA]
  by_cases q : k = 100 + 3 * nn (cI S 9) + 2
  · rw [q]; simp [va_up]
  · rw [va_up_ne _ _ q, sQ_setR, sQ_newA]
    rcases h1 with z | z
    · rw [z]; simp [va_up]
    · exact absurd z q
