/-! ===== a night begins: nets that the gale takes, yards' days ===== -/
abbrev bStorm (g : Int32) (S : HS) (b : Nat) : Prop := ¬ g.toInt = 0 ∧ (0 ≤ (sI S (fid 0 3) (100 + 3 * b)).toInt ∧ (sI S (fid 0 3) (100 + 3 * b)).toInt < 36) ∧ ¬ (sA S 3 (sI S (fid 0 3) (100 + 3 * b)).toNatClampNeg).toInt = 0
theorem bnS_f {g : Int32} {S : HS} : ∀ i, sA (bnS g S i) = sA S ∧ sQ (bnS g S i) = sQ S ∧ ∀ f a, f ≠ fid 0 5 → f ≠ fid 0 2 → f ≠ fid 0 7 → sI (bnS g S i) f a = sI S f a
  | 0 => ⟨rfl, rfl, fun _ _ _ _ _ => rfl⟩
  | i + 1 => by
    obtain ⟨h1, h2, h3⟩ := bnS_f (g := g) (S := S) i
    unfold bnS
    split
    · unfold loseS
      refine ⟨by rw [sA_setI, sA_setI, sA_setI]; exact h1, by rw [sQ_setI, sQ_setI, sQ_setI]; exact h2, fun f a q5 q2 q7 => ?_⟩
      rw [sI_setIn (Or.inl q7), sI_setIn (Or.inl q2), sI_setIn (Or.inl q5)]
      exact h3 f a q5 q2 q7
    · refine ⟨by rw [sA_setI]; exact h1, by rw [sQ_setI]; exact h2, fun f a q5 q2 q7 => ?_⟩
      rw [sI_setIn (Or.inl q5)]
      exact h3 f a q5 q2 q7
theorem bnS_s {g : Int32} {S : HS} {i : Nat} : bnS g S (i + 1) = if bStorm g S i then loseS (setI (bnS g S i) (fid 0 5) (100 + 3 * i) 0) (100 + 3 * i) else setI (bnS g S i) (fid 0 5) (100 + 3 * i) 0 := by
  obtain ⟨h1, h2, h3⟩ := bnS_f (g := g) (S := S) i
  have e : sI (bnS g S i) (fid 0 3) (100 + 3 * i) = sI S (fid 0 3) (100 + 3 * i) := h3 _ _ (by decide) (by decide) (by decide)
  conv => lhs; unfold bnS
  simp only [e, h1]
theorem bnS_v {g : Int32} {S : HS} (b : Nat) : ∀ i, sI (bnS g S i) (fid 0 5) (100 + 3 * b) = (if b < i then 0 else sI S (fid 0 5) (100 + 3 * b)) ∧ sI (bnS g S i) (fid 0 2) (100 + 3 * b) = (if b < i ∧ bStorm g S b then sI S (fid 0 2) (100 + 3 * b) - sI S (fid 0 2) (100 + 3 * b) / 5 else sI S (fid 0 2) (100 + 3 * b)) ∧ sI (bnS g S i) (fid 0 7) (100 + 3 * b) = (if b < i ∧ bStorm g S b then sI S (fid 0 7) (100 + 3 * b) + sI S (fid 0 2) (100 + 3 * b) / 5 else sI S (fid 0 7) (100 + 3 * b))
  | 0 => ⟨rfl, (if_neg (fun z => absurd z.1 (Nat.not_lt_zero _))).symm, (if_neg (fun z => absurd z.1 (Nat.not_lt_zero _))).symm⟩
  | i + 1 => by
    obtain ⟨h5, h2, h7⟩ := bnS_v (g := g) (S := S) b i
    rw [bnS_s]
    by_cases e : b = i
    · subst e
      rw [if_neg (by omega)] at h5
      rw [if_neg (by omega)] at h2 h7
      rw [if_pos (show b < b + 1 by omega)]
      by_cases q : bStorm g S b
      · rw [if_pos q, if_pos (show b < b + 1 ∧ bStorm g S b from ⟨by omega, q⟩), if_pos (show b < b + 1 ∧ bStorm g S b from ⟨by omega, q⟩)]
        unfold loseS
        refine ⟨by rw [sI_setIn (Or.inl (by decide)), sI_setIn (Or.inl (by decide)), sI_setIe], ?_, ?_⟩
        · rw [sI_setIn (Or.inl (by decide)), sI_setIe, sI_setIn (Or.inl (by decide)), h2]
        · rw [sI_setIe, sI_setIn (Or.inl (by decide)), sI_setIn (Or.inl (by decide)), h2, h7]
      · rw [if_neg q, if_neg (fun z => q z.2), if_neg (fun z => q z.2)]
        exact ⟨sI_setIe _ _ _ _, by rw [sI_setIn (Or.inl (by decide)), h2], by rw [sI_setIn (Or.inl (by decide)), h7]⟩
    · have ne : 100 + 3 * b ≠ 100 + 3 * i := by omega
      have e1 : (b < i + 1) = (b < i) := by simp only [eq_iff_iff]; omega
      simp only [e1]
      split
      · unfold loseS
        rw [sI_setIn (Or.inr ne), sI_setIn (Or.inr ne), sI_setIn (Or.inr ne), sI_setIn (Or.inr ne), sI_setIn (Or.inr ne), sI_setIn (Or.inr ne), sI_setIn (Or.inr ne), sI_setIn (Or.inr ne), sI_setIn (Or.inr ne)]
        exact ⟨h5, h2, h7⟩
      · rw [sI_setIn (Or.inr ne), sI_setIn (Or.inr ne), sI_setIn (Or.inr ne)]
        exact ⟨h5, h2, h7⟩
theorem ydS_f {S : HS} : ∀ i, sQ (ydS S i) = sQ S ∧ (∀ t, t < 201 ∨ 209 ≤ t → i ≤ 4 → sA (ydS S i) t = sA S t) ∧ (∀ y, sI (ydS S i) (fid 7 4) (200 + 2 * y) = if y < i then sI S (fid 7 2) (200 + 2 * y) else sI S (fid 7 4) (200 + 2 * y)) ∧ ∀ y j, y < i → j < 6 → sA (ydS S i) (201 + 2 * y) j = 0
  | 0 => ⟨rfl, fun _ _ _ => rfl, fun _ => rfl, fun y j h => absurd h (Nat.not_lt_zero _)⟩
  | i + 1 => by
    obtain ⟨h1, h2, h3, h4⟩ := ydS_f (S := S) i
    unfold ydS
    refine ⟨by rw [sQ_setA, sQ_setI]; exact h1, fun t ht hi => ?_, fun y => ?_, fun y j hy hj => ?_⟩
    · rw [sA_setn (by omega), sA_setI]; exact h2 t ht (by omega)
    · rw [sI_setA]
      by_cases e : y = i
      · subst e
        rw [if_pos (by omega), sI_setIe]
        exact ydS_I2 (by decide) _ y
      · rw [sI_setIn (Or.inr (by omega)), h3 y]
        by_cases q : y < i
        · rw [if_pos q, if_pos (by omega)]
        · rw [if_neg q, if_neg (by omega)]
    · by_cases e : y = i
      · subst e
        rw [sA_set, fillR_in hj]
      · rw [sA_setn (by omega), sA_setI]; exact h4 y j (by omega) hj
/-! the reference's storm, in one go -/
abbrev mStorm (X : HS) (b : Nat) : Prop := ¬ mA X 3 b = -1 ∧ ¬ mA X 1 (mA X 3 b).toNatClampNeg = 0
def st2 (X : HS) (n : Nat) : Nat → Int32 := fun b => if b < n ∧ mStorm X b then mA X 2 b - mA X 2 b / 5 else mA X 2 b
def st7 (X : HS) (n : Nat) : Nat → Int32 := fun b => if b < n ∧ mStorm X b then mA X 7 b + mA X 2 b / 5 else mA X 7 b
theorem stS_eq (X : HS) : ∀ n, stS X n = setA (setA X (ma 2) (st2 X n)) (ma 7) (st7 X n)
  | 0 => by
    have e2 : st2 X 0 = mA X 2 := funext fun b => if_neg (fun z => absurd z.1 (Nat.not_lt_zero _))
    have e7 : st7 X 0 = mA X 7 := funext fun b => if_neg (fun z => absurd z.1 (Nat.not_lt_zero _))
    rw [e2, e7, show mA X 2 = sA X (ma 2) from rfl, setA_self, show mA X 7 = sA X (ma 7) from rfl, setA_self]
    rfl
  | n + 1 => by
    have ih := stS_eq X n
    have f3 : mA (stS X n) 3 = mA X 3 := (stS_f n).2.2.2.1
    have f1 : mA (stS X n) 1 = mA X 1 := (stS_f n).2.2.2.2
    have f2 : mA (stS X n) 2 = st2 X n := by rw [ih]; exact (sA_setn (by decide)).trans (sA_set _ _ _)
    have f7 : mA (stS X n) 7 = st7 X n := by rw [ih]; exact sA_set _ _ _
    have v2 : st2 X n n = mA X 2 n := if_neg (fun z => absurd z.1 (Nat.lt_irrefl _))
    have v7 : st7 X n n = mA X 7 n := if_neg (fun z => absurd z.1 (Nat.lt_irrefl _))
    unfold stS
    rw [f3, f1, f2, f7, v2, v7]
    by_cases q : mStorm X n
    · rw [if_pos q, ih, setA4 _ (by decide)]
      congr 1
      · congr 1
        funext b
        unfold upd st2
        by_cases e : b = n
        · subst e; rw [if_pos rfl, if_pos ⟨by omega, q⟩]
        · have e1 : (b < n + 1) = (b < n) := by simp only [eq_iff_iff]; omega
          simp only [e, e1, if_false]
      · funext b
        unfold upd st7
        by_cases e : b = n
        · subst e; rw [if_pos rfl, if_pos ⟨by omega, q⟩]
        · have e1 : (b < n + 1) = (b < n) := by simp only [eq_iff_iff]; omega
          simp only [e, e1, if_false]
    · rw [if_neg q, ih]
      have e1 : ∀ b, (b < n + 1 ∧ mStorm X b) = (b < n ∧ mStorm X b) := fun b => by
        simp only [eq_iff_iff]
        refine ⟨fun z => ⟨?_, z.2⟩, fun z => ⟨by omega, z.2⟩⟩
        rcases Nat.lt_succ_iff_lt_or_eq.mp z.1 with w | w
        · exact w
        · rw [w] at z; exact absurd z.2 q
      unfold st2 st7
      simp only [e1]
def nmN (g : Int32) (X : HS) : Nat := if g = 0 then 0 else nn (mI X 25)
theorem nmS_eq (g : Int32) (X : HS) : nmS g X = setA (setA X (ma 2) (st2 X (nmN g X))) (ma 7) (st7 X (nmN g X)) := by
  rw [← stS_eq]
  unfold nmS nmN
  split <;> rfl
theorem div5 {x : Int32} (h : 0 ≤ x.toInt ∧ x.toInt ≤ 60) : 0 ≤ (x - x / 5).toInt ∧ (x - x / 5).toInt ≤ 60 := by
  obtain ⟨k, hk, rfl⟩ := nI_of2 (x := x) (M := 60) (n := 60) rfl (fun z => by rw [fa_lt] at z; have : (0 : Int32).toInt = 0 := rfl; omega) (by rw [fa_le]; exact h.2)
  rw [show (5 : Int32) = nI 5 from rfl, pk_div (by omega) (by decide) (by decide), nI_subN (Nat.div_le_self _ _), nI_toInt (by omega)]
  omega
/-- behind the night's beginning -/
def NB (S T : HS) : Prop := Sim S T ∧ (∀ y, y < nn (mI T 26) → sI S (fid 7 4) (200 + 2 * y) = mA T 11 y ∧ ∀ j, j < 6 → sA S (201 + 2 * y) j = 0) ∧ ∀ b, b < 12 → mA T 5 b = 0
set_option maxHeartbeats 1000000 in
theorem Sim.dawn {S T : HS} (g : Int32) (h : Sim S T) : NB (n1S g S) (nmS g (nm0 T)) := by
  obtain ⟨h1, h2, ⟨g0, gN, gC, gB, gP, gY, gL⟩, hN, hC, hB, hP, hY, hL, hT, hR⟩ := id h
  obtain ⟨n9, n10, n11, n12, n13, n14, n15, n16, n17, nw, ng, nz⟩ := id hN
  obtain ⟨r25, r26, r27, r24, r28, r29, r47⟩ := id gN
  have hny : nn (mI T 26) ≤ 4 := by unfold nn; omega
  have hnb : nn (mI T 25) ≤ 12 := by unfold nn; omega
  -- the system's side
  have b1 := bnS_f (g := g) (S := S) (nn (mI T 25))
  have b2 := fun b => bnS_v (g := g) (S := S) b (nn (mI T 25))
  have y1 := ydS_f (S := bnS g S (nn (mI T 25))) (nn (mI T 26))
  have y2 := fun f (hf : f ≠ fid 7 4) a => ydS_I2 (S := bnS g S (nn (mI T 25))) hf a (nn (mI T 26))
  have hsh : ShC (n1S g S) := n1S_sh h1
  have en : n1S g S = ydS (bnS g S (nn (mI T 25))) (nn (mI T 26)) := by unfold n1S; rw [n9, n10]
  rw [en] at hsh ⊢
  generalize ydS (bnS g S (nn (mI T 25))) (nn (mI T 26)) = Y at *
  generalize bnS g S (nn (mI T 25)) = B at *
  -- the reference's
  have m0 : ∀ k, k ≠ 5 → mA (nm0 T) k = mA T k := fun k hk => sA_setn (by unfold ma; omega)
  have m5 : mA (nm0 T) 5 = fillR (fun _ => 0) (mA T 5) (nn (mI T 25)) := sA_set _ _ _
  have mi : ∀ k, mI (nmS g (nm0 T)) k = mI T k := fun k => by
    show sI (nmS g (nm0 T)) _ _ = _
    rw [nmS_I]; rfl
  have msh : ShM (nmS g (nm0 T)) := nmS_sh (g0.setA _ _)
  have a0 : ∀ k, k ≠ 2 → k ≠ 7 → mA (nmS g (nm0 T)) k = mA (nm0 T) k := fun k q2 q7 => nmS_A ⟨by unfold ma; omega, by unfold ma; omega⟩
  have a2 : mA (nmS g (nm0 T)) 2 = st2 (nm0 T) (nmN g (nm0 T)) := by rw [nmS_eq]; exact (sA_setn (by decide)).trans (sA_set _ _ _)
  have a7 : mA (nmS g (nm0 T)) 7 = st7 (nm0 T) (nmN g (nm0 T)) := by rw [nmS_eq]; exact sA_set _ _ _
  have hst : ∀ b, b < 12 → b < nn (mI T 25) → ((b < nn (mI T 25) ∧ bStorm g S b) ↔ (b < nmN g (nm0 T) ∧ mStorm (nm0 T) b)) := fun b hb12 hb => by
    have c := (gB b hb12).2.1
    have ec : sI S (fid 0 3) (100 + 3 * b) = mA T 3 b := hB b hb12 hb 3 (by omega) (by omega)
    unfold bStorm mStorm nmN
    rw [ec, m0 3 (by decide), m0 1 (by decide), show mI (nm0 T) 25 = mI T 25 from rfl]
    have eg : g = 0 ↔ g.toInt = 0 := fa_eq g 0
    have em : mA T 3 b = -1 ↔ (mA T 3 b).toInt = -1 := fa_eq _ _
    by_cases q : 0 ≤ (mA T 3 b).toInt
    · have eo := (hC (mA T 3 b).toNatClampNeg (by rw [clamp_nn]; unfold nn; omega)).2
      have ez : mA T 1 (mA T 3 b).toNatClampNeg = 0 ↔ (mA T 1 (mA T 3 b).toNatClampNeg).toInt = 0 := fa_eq _ _
      rw [eo]
      by_cases q0 : g = 0
      · rw [if_pos q0]; refine ⟨fun z => absurd (eg.mp q0) z.2.1, fun z => absurd z.1 (Nat.not_lt_zero _)⟩
      · rw [if_neg q0]
        exact ⟨fun z => ⟨hb, fun w => by have := em.mp w; omega, fun w => z.2.2.2 (ez.mp w)⟩, fun z => ⟨hb, fun w => q0 (eg.mpr w), ⟨q, by omega⟩, fun w => z.2.2 (ez.mpr w)⟩⟩
    · refine ⟨fun z => absurd z.2.2.1.1 q, fun z => absurd (em.mpr (by omega)) z.2.1⟩
  have z5 : ∀ b, b < 12 → mA (nmS g (nm0 T)) 5 b = 0 := fun b hb => by
    rw [a0 5 (by decide) (by decide), m5]
    by_cases q : b < nn (mI T 25)
    · rw [fillR_in q]
    · rw [fillR_eq]
      show (if b < nn (mI T 25) then 0 else mA T 5 b) = 0
      rw [if_neg q]; exact (gB b hb).2.2.2 (by omega) 5 (by omega) (by omega)
  have aa : ∀ k, k ≠ 2 → k ≠ 7 → k ≠ 5 → mA (nmS g (nm0 T)) k = mA T k := fun k q2 q7 q5 => (a0 k q2 q7).trans (m0 k q5)
  have v2 : ∀ b, mA (nmS g (nm0 T)) 2 b = if b < nmN g (nm0 T) ∧ mStorm (nm0 T) b then mA T 2 b - mA T 2 b / 5 else mA T 2 b := fun b => by rw [a2]; unfold st2; rw [m0 2 (by decide)]
  have v7 : ∀ b, mA (nmS g (nm0 T)) 7 b = if b < nmN g (nm0 T) ∧ mStorm (nm0 T) b then mA T 7 b + mA T 2 b / 5 else mA T 7 b := fun b => by rw [a7]; unfold st7; rw [m0 2 (by decide), m0 7 (by decide)]
  have hnm : nmN g (nm0 T) ≤ nn (mI T 25) := by unfold nmN; split <;> first | exact Nat.zero_le _ | exact Nat.le_refl _
  generalize nmS g (nm0 T) = X at *
  have iY : ∀ f, f ≠ fid 7 4 → f ≠ fid 0 5 → f ≠ fid 0 2 → f ≠ fid 0 7 → ∀ a, sI Y f a = sI S f a := fun f q1 q2 q3 q4 a => (y2 f q1 a).trans (b1.2.2 f a q2 q3 q4)
  have aY : ∀ t, t < 201 ∨ 209 ≤ t → sA Y t = sA S t := fun t ht => by rw [y1.2.1 t ht hny, b1.1]
  refine ⟨⟨hsh, fun t => by rw [iY _ (by decide) (by decide) (by decide) (by decide)]; exact h2 t, ⟨msh, ?_, gC.cg (fun k _ => aa k (by omega) (by omega) (by omega)), ?_, gP.cg (fun k _ _ => aa k (by omega) (by omega) (by omega)) (mi 25), gY.cg (fun k _ _ => aa k (by omega) (by omega) (by omega)) (mi 26), gL.cg (fun k _ _ => aa k (by omega) (by omega) (by omega)) (mi 26) (mi 27)⟩, ?_, hC.cg (fun j _ => by rw [aY 2 (by omega), aY 3 (by omega)]; exact ⟨rfl, rfl⟩) (fun k _ => aa k (by omega) (by omega) (by omega)), ?_, hP.cg (fun i _ => ⟨aY _ (by omega), aY _ (by omega)⟩) (fun k _ _ => aa k (by omega) (by omega) (by omega)) (mi 25), hY.cg (fun i _ k _ _ => iY _ (by unfold fid; omega) (by unfold fid; omega) (by unfold fid; omega) (by unfold fid; omega) _) (fun k _ _ => aa k (by omega) (by omega) (by omega)) (mi 26), hL.cg (fun i _ k _ => iY _ (by unfold fid; omega) (by unfold fid; omega) (by unfold fid; omega) (by unfold fid; omega) _) (fun k _ _ => aa k (by omega) (by omega) (by omega)) (mi 27), hT.cg (aY 9 (by omega)) (aa 43 (by omega) (by omega) (by omega)) (mi 47), hR.cg (by rw [y1.1, b1.2.1]) (fun b _ => ⟨aY _ (by omega), iY _ (by decide) (by decide) (by decide) (by decide) _⟩) (aa 44 (by omega) (by omega) (by omega)) (aa 46 (by omega) (by omega) (by omega))⟩, fun y hy => ?_, z5⟩
  · unfold RgN
    rw [mi, mi, mi, mi, mi, mi, mi]
    exact gN
  · intro b hb
    have c := gB b hb
    rw [aa 3 (by decide) (by decide) (by decide), aa 6 (by decide) (by decide) (by decide), mi, mi, v2]
    refine ⟨?_, c.2.1, c.2.2.1, fun z k k1 k2 => ?_⟩
    · split
      · exact div5 c.1
      · exact c.1
    · by_cases e5 : k = 5
      · rw [e5]; exact z5 b hb
      · by_cases e7 : k = 7
        · rw [e7, v7, if_neg (by omega)]; exact c.2.2.2 z 7 (by omega) (by omega)
        · rw [aa k (by omega) e7 e5]; exact c.2.2.2 z k k1 k2
  · unfold SmN
    rw [mi, mi, mi, mi, mi, mi, mi, mi, mi, mi, mi, mi, iY (fid 4 3) (by decide) (by decide) (by decide) (by decide), iY (fid 4 4) (by decide) (by decide) (by decide) (by decide), iY (fid 5 1) (by decide) (by decide) (by decide) (by decide)]
    refine ⟨?_, ?_, ?_, ?_, ?_, ?_, ?_, ?_, ?_, nw, ng, nz⟩ <;> (show sI Y _ 0 = _) <;> rw [iY _ (by decide) (by decide) (by decide) (by decide)] <;> assumption
  · intro b hb12 hb k hk hk2
    rw [mi] at hb
    have q := hst b hb12 hb
    have b2 := b2 b
    by_cases e5 : k = 5
    · subst e5
      rw [z5 b hb12, y2 _ (by decide), b2.1, if_pos hb]
    · by_cases e2 : k = 2
      · subst e2
        rw [v2, y2 _ (by decide), b2.2.1, hB b hb12 hb 2 (by omega) (by omega)]
        simp only [q]
      · by_cases e7 : k = 7
        · subst e7
          rw [v7, y2 _ (by decide), b2.2.2, hB b hb12 hb 2 (by omega) (by omega), hB b hb12 hb 7 (by omega) (by omega)]
          simp only [q]
        · rw [iY _ (by unfold fid; omega) (by unfold fid; omega) (by unfold fid; omega) (by unfold fid; omega), aa k e2 e7 e5]
          exact hB b hb12 hb k hk hk2
  · rw [mi] at hy
    refine ⟨?_, fun j hj => y1.2.2.2 y j hy hj⟩
    rw [y1.2.2.1 y, if_pos hy, b1.2.2 _ _ (by decide) (by decide) (by decide), aa 11 (by decide) (by decide) (by decide)]
    exact hY y (by omega) hy 2 (by omega) (by omega)
