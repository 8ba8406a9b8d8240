/-! ===== the hauls: both sides alike ===== -/
theorem gv_pos {n : Nat} {m : Nat → Nat} {many : Nat} (h0 : 0 < fb_sm m many) : ∀ {t : Nat}, t ≤ pL n m many → ∀ b, gvP (pT n m many) many t b = true → 0 < pT n m many b
  | 0, _, b, h => absurd h (by simp [gvP])
  | t + 1, ht, b, h => by
    have hL := pL_lt (n := n) h0
    obtain ⟨b0, hq⟩ := gvP_pick (r := pT n m many) (many := many) (t := t) (by omega)
    rw [gvP_step hq] at h
    by_cases e : b = b0
    · subst e; exact pick_pos h0 (by omega) hq
    · exact gv_pos (t := t) h0 (by omega) b (by simpa [e] using h)
theorem prt0 {n : Nat} {m : Nat → Nat} {many b : Nat} (h0 : 0 < fb_sm m many) (hb : m b = 0) : prt n m many b = 0 := by
  have e : gvP (pT n m many) many (pL n m many) b = false := by
    cases q : gvP (pT n m many) many (pL n m many) b with
    | false => rfl
    | true =>
      have := gv_pos h0 (Nat.le_refl _) b q
      unfold pT at this
      rw [hb] at this
      simp at this
  unfold prt pQ
  rw [e, hb]; simp
theorem hM_v {S T : HS} (h : Sim S T) (c : Int32) : ∀ i, i ≤ nn (mI T 25) → (hM S c i).1 = nI (fb_sm (hmf T c) i) ∧ (∀ k, k < i → (hM S c i).2 k = nI (hmf T c k)) ∧ ∀ k, i ≤ k → k < 12 → (hM S c i).2 k = 0
  | 0, _ => ⟨rfl, fun k hk => absurd hk (Nat.not_lt_zero _), fun k _ hk => fillR_in hk⟩
  | i + 1, hi => by
    obtain ⟨k1, k2, k3⟩ := hM_v h c i (by omega)
    obtain ⟨h1, h2, ⟨g0, gN, gC, gB, gP, gY, gL⟩, hN, hC, hB, hP, hY, hL, hT, hR⟩ := id h
    have r25 := gN.1
    have hi12 : i < 12 := by unfold nn at hi; omega
    have ec := hB i hi12 (by omega) 3 (by omega) (by omega)
    have en := hB i hi12 (by omega) 2 (by omega) (by omega)
    unfold hM
    rw [ec, en, fb_sm_succ]
    by_cases q : (mA T 3 i).toInt = c.toInt
    · have q2 : mA T 3 i = c := (fa_eq _ _).mpr q
      have em : hmf T c i = nn (mA T 2 i) := hmf_in (by omega) q2
      have ev : mA T 2 i = nI (hmf T c i) := by rw [em, nI_nn (gB i hi12).1.1]
      rw [if_pos q]
      refine ⟨by rw [← nI_add, ← ev, k1], fun k hk => ?_, fun k hk hk2 => ?_⟩
      · by_cases e : k = i
        · rw [e]; exact pk_us.trans ev
        · exact (pk_un e).trans (k2 k (by omega))
      · exact (pk_un (by omega)).trans (k3 k (by omega) hk2)
    · have em : hmf T c i = 0 := hmf_no (fun z => q (by rw [z]))
      rw [if_neg q, em]
      refine ⟨k1, fun k hk => ?_, fun k hk hk2 => k3 k (by omega) hk2⟩
      by_cases e : k = i
      · rw [e, em, k3 i (Nat.le_refl _) hi12]; rfl
      · exact k2 k (by omega)
theorem hM_e {S T : HS} (h : Sim S T) (c : Int32) : (hM S c (nn (cI S 9))).1 = nI (fb_sm (hmf T c) 12) ∧ ∀ k, k < 12 → (hM S c (nn (cI S 9))).2 k = nI (hmf T c k) := by
  have r25 := h.rn.1
  have hz : ∀ k, nn (mI T 25) ≤ k → hmf T c k = 0 := fun k hk => if_neg (fun z => by omega)
  rw [h.n.1]
  obtain ⟨k1, k2, k3⟩ := hM_v h c (nn (mI T 25)) (Nat.le_refl _)
  refine ⟨by rw [k1, fb_sm_pad (f := hmf T c) (n := nn (mI T 25)) (N := 12) (by unfold nn; omega) (fun k hk _ => hz k hk)], fun k hk => ?_⟩
  by_cases q : k < nn (mI T 25)
  · exact k2 k q
  · rw [k3 k (by omega) hk, hz k (by omega)]; rfl
theorem hmf_60 {S T : HS} (h : Sim S T) (c : Int32) (b : Nat) : hmf T c b ≤ 60 := hmf_le (fun b hb => (h.2.2.1.2.2.2.1 b hb).1) (by have := h.rn.1; unfold nn; omega) b
theorem hT_e {S T : HS} (h : Sim S T) {i : Nat} (hi : i < 36) : hT S (nI i) = nI (hsu T (nI i)) := by
  obtain ⟨k1, k2⟩ := hM_e h (nI i)
  have hs : fb_sm (hmf T (nI i)) 12 ≤ 12 * 60 := fb_sm_bound (fun k _ => hmf_60 h _ k)
  unfold hT hsu
  rw [k1, nI_2, nI_clamp (by omega), (h.2.2.2.2.1 i hi).1]
  have g := (h.2.2.1.2.2.1 i hi).1
  have := mn_nI (x := 2 * fb_sm (hmf T (nI i)) 12) (z := nn (mA T 0 i)) (by omega) (nn_lt _)
  rw [nI_nn g.1] at this
  exact this
theorem tkS_v {S : HS} {P : Nat → Int32} (b : Nat) : ∀ i, (∀ f, (f = fid 0 5 ∨ f = fid 0 4) → sI (tkS S P i) f (100 + 3 * b) = if b < i then sI S f (100 + 3 * b) + P b else sI S f (100 + 3 * b)) ∧ (∀ f, f ≠ fid 0 5 → f ≠ fid 0 4 → ∀ a, sI (tkS S P i) f a = sI S f a) ∧ sQ (tkS S P i) = sQ S
  | 0 => ⟨fun _ _ => rfl, fun _ _ _ _ => rfl, rfl⟩
  | i + 1 => by
    obtain ⟨h1, h2, h3⟩ := tkS_v (S := S) (P := P) b i
    unfold tkS
    refine ⟨fun f hf => ?_, fun f q5 q4 a => ?_, by rw [sQ_setI, sQ_setI]; exact h3⟩
    · by_cases e : b = i
      · subst e
        have h5 := h1 f hf
        rw [if_neg (by omega)] at h5
        rw [if_pos (by omega)]
        rcases hf with rfl | rfl
        · rw [sI_setIn (Or.inl (by decide)), sI_setIe, h5]
        · rw [sI_setIe, h5]
      · rw [sI_setIn (Or.inr (by omega)), sI_setIn (Or.inr (by omega)), h1 f hf]
        by_cases q : b < i
        · rw [if_pos q, if_pos (by omega)]
        · rw [if_neg q, if_neg (by omega)]
    · rw [sI_setIn (Or.inl q4), sI_setIn (Or.inl q5)]; exact h2 f q5 q4 a
/-- what a boat takes at a haul -/
def dlt (T : HS) (c : Int32) (b : Nat) : Int32 := if hmf T c b ≠ 0 then nI (prt (hsu T c) (hmf T c) 12 b) else 0
theorem dlt_0 {T : HS} {c : Int32} {b : Nat} (hb : b < 12) (h : hsu T c = 0) : dlt T c b = 0 := by
  unfold dlt
  split
  · rename_i q
    have h0 : 0 < fb_sm (hmf T c) 12 := by
      have := fb_sm_part (hmf T c) hb
      omega
    have := prt_le (s := hsu T c) h0 hb
    rw [h] at this ⊢
    rw [Nat.le_zero.mp this]; rfl
  · rfl
theorem haulS_v {S T : HS} (h : Sim S T) {i : Nat} (hi : i < 36) : (∀ b, b < 12 → b < nn (mI T 25) → ∀ f, (f = fid 0 5 ∨ f = fid 0 4) → sI (haulS S (nI i)) f (100 + 3 * b) = sI S f (100 + 3 * b) + dlt T (nI i) b) ∧ (∀ f, f ≠ fid 0 5 → f ≠ fid 0 4 → f ≠ fid 3 3 → ∀ a, sI (haulS S (nI i)) f a = sI S f a) ∧ sQ (haulS S (nI i)) = sQ S ∧ (∀ t, t ≠ 2 → t < 12 ∨ 14 < t → sA (haulS S (nI i)) t = sA S t) ∧ ∀ j, j < 36 → sA (haulS S (nI i)) 2 j = upd (mA T 0) i (mA T 0 i - nI (hsu T (nI i))) j := by
  have eT := hT_e h hi
  obtain ⟨k1, k2⟩ := hM_e h (nI i)
  have hs : fb_sm (hmf T (nI i)) 12 ≤ 12 * 60 := fb_sm_bound (fun k _ => hmf_60 h _ k)
  have hC := h.2.2.2.2.1
  have gC := h.2.2.1.2.2.1
  have hsm : hsu T (nI i) ≤ 10000 := by
    have := (gC i hi).1
    unfold hsu
    rw [nI_clamp (by omega)]
    have : nn (mA T 0 i) ≤ 10000 := by unfold nn; omega
    omega
  unfold haulS
  by_cases q : hT S (nI i) = 0
  · have q0 : hsu T (nI i) = 0 := by
      rw [eT] at q
      have := congrArg Int32.toInt q
      rw [nI_toInt (by omega)] at this
      have z : (0 : Int32).toInt = 0 := rfl
      omega
    rw [if_pos q]
    refine ⟨fun b hb _ f hf => ?_, fun f _ _ q3 a => scr_I q3, rfl, fun t _ ht => scr_Ax ht, fun j hj => ?_⟩
    · rw [scr_I (by rcases hf with rfl | rfl <;> decide), dlt_0 hb q0]; simp
    · rw [scr_Ax (by omega), q0, show nI 0 = 0 from rfl]
      unfold upd
      split
      · rename_i e; rw [e, (hC i hi).1]; simp
      · exact (hC j hj).1
  · rw [if_neg q]
    have q0 : 0 < hsu T (nI i) := by
      rcases Nat.eq_zero_or_pos (hsu T (nI i)) with z | z
      · rw [eT, z] at q; exact absurd rfl q
      · exact z
    have h0 : 0 < fb_sm (hmf T (nI i)) 12 := by
      unfold hsu at q0; omega
    have hP : ∀ b, b < 12 → hP S (nI i) b = dlt T (nI i) b := fun b hb => by
      unfold hP
      rw [parP_prt (M := hmf T (nI i)) (by rw [eT, nI_toInt (by omega)]; omega) (fun k hk => ⟨k2 k hk, by have := hmf_60 h (nI i) k; omega⟩) k1 h0 hb, eT, nn_nI (by omega)]
      unfold dlt
      split
      · rfl
      · rename_i e
        rw [prt0 h0 (Classical.not_not.mp e)]; rfl
    have hn9 : nn (cI S 9) = nn (mI T 25) := by rw [h.n.1]
    refine ⟨fun b hb hbn f hf => ?_, fun f q5 q4 q3 a => ?_, ?_, fun t t2 ht => ?_, fun j hj => ?_⟩
    · rw [sI_setA, (tkS_v b _).1 f hf, if_pos (by omega), scr_I (by rcases hf with rfl | rfl <;> decide), hP b hb]
    · rw [sI_setA, (tkS_v 0 _).2.1 f q5 q4, scr_I q3]
    · rw [sQ_setA, (tkS_v 0 _).2.2]; rfl
    · rw [sA_setn t2, tkS_A, scr_Ax ht]
    · rw [sA_set, nI_clamp (by omega), eT, (hC i hi).1]
      unfold upd
      split
      · rfl
      · exact (hC j hj).1
theorem haM_v {T : HS} {c : Int32} : mA (haM T c) 5 = (fun b => if hmf T c b ≠ 0 then nI (prt (hsu T c) (hmf T c) 12 b) else mA T 5 b) ∧ mA (haM T c) 4 = (fun b => if hmf T c b ≠ 0 then mA T 4 b + nI (prt (hsu T c) (hmf T c) 12 b) else mA T 4 b) := by
  unfold haM
  refine ⟨?_, ?_⟩
  · show sA _ (ma 5) = _
    rw [sA_setn (by decide), sA_setn (by decide), sA_set]
  · show sA _ (ma 4) = _
    rw [sA_setn (by decide), sA_set]
set_option maxHeartbeats 1000000 in
theorem Sim.haul {S T : HS} (h : Sim S T) {i : Nat} (hi : i < 36) (hz : ∀ b, b < 12 → (i : Int) ≤ (mA T 3 b).toInt ∨ (mA T 3 b).toInt < 0 → mA T 5 b = 0) : Sim (haulS S (nI i)) (haM T (nI i)) ∧ ∀ b, b < 12 → (i : Int) + 1 ≤ (mA T 3 b).toInt ∨ (mA T 3 b).toInt < 0 → mA (haM T (nI i)) 5 b = 0 := by
  obtain ⟨v1, v2, v3, v4, v5⟩ := haulS_v h hi
  have hsh : ShC (haulS S (nI i)) := haulS_sh h.1
  generalize haulS S (nI i) = S2 at *
  obtain ⟨h1, h2, ⟨g0, gN, gC, gB, gP, gY, gL⟩, hN, hC, hB, hP, hY, hL, hT, hR⟩ := id h
  obtain ⟨n9, n10, n11, n12, n13, n14, n15, n16, n17, nw, ng, nz⟩ := id hN
  obtain ⟨m5, m4⟩ := haM_v (T := T) (c := nI i)
  have m0 : mA (haM T (nI i)) 0 = upd (mA T 0) i (mA T 0 i - nI (hsu T (nI i))) := by
    have := haM_0 (X := T) (e := nI i)
    rw [nI_clamp (by omega)] at this
    exact this
  have mm : ∀ k, k ≠ 5 → k ≠ 4 → k ≠ 0 → mA (haM T (nI i)) k = mA T k := fun k q5 q4 q0 => haM_A ⟨by unfold ma; omega, by unfold ma; omega, by unfold ma; omega⟩
  have mi : ∀ k, mI (haM T (nI i)) k = mI T k := fun k => rfl
  have msh : ShM (haM T (nI i)) := haM_sh g0 _
  have c5 : ∀ b, b < 12 → mA (haM T (nI i)) 5 b = mA T 5 b + dlt T (nI i) b := fun b hb => by
    rw [m5]; unfold dlt
    dsimp only
    by_cases q : hmf T (nI i) b ≠ 0
    · have e : mA T 3 b = nI i := Classical.byContradiction fun z => q (hmf_no z)
      rw [if_pos q, if_pos q, hz b hb (Or.inl (by rw [e, nI_toInt (by omega)]; exact Int.le_refl _))]; simp
    · rw [if_neg q, if_neg q]; simp
  have c4 : ∀ b, b < 12 → mA (haM T (nI i)) 4 b = mA T 4 b + dlt T (nI i) b := fun b hb => by
    rw [m4]; unfold dlt
    dsimp only
    by_cases q : hmf T (nI i) b ≠ 0
    · rw [if_pos q, if_pos q]
    · rw [if_neg q, if_neg q]; simp
  have d0 : ∀ b, ¬ (b < nn (mI T 25) ∧ mA T 3 b = nI i) → dlt T (nI i) b = 0 := fun b q => by
    unfold dlt
    rw [if_neg]
    intro z
    exact z (if_neg q)
  have hsu_le : (hsu T (nI i) : Int) ≤ (mA T 0 i).toInt := by
    have := (gC i hi).1
    unfold hsu
    rw [nI_clamp (by omega)]
    unfold nn; omega
  generalize haM T (nI i) = T2 at *
  refine ⟨⟨hsh, fun t => by rw [v2 _ (by decide) (by decide) (by decide)]; exact h2 t, ⟨msh, ?_, ?_, ?_, gP.cg (fun k _ _ => mm k (by omega) (by omega) (by omega)) (mi 25), gY.cg (fun k _ _ => mm k (by omega) (by omega) (by omega)) (mi 26), gL.cg (fun k _ _ => mm k (by omega) (by omega) (by omega)) (mi 26) (mi 27)⟩, ?_, ?_, ?_, hP.cg (fun b _ => ⟨v4 _ (by omega) (by omega), v4 _ (by omega) (by omega)⟩) (fun k _ _ => mm k (by omega) (by omega) (by omega)) (mi 25), hY.cg (fun b _ k _ _ => v2 _ (by unfold fid; omega) (by unfold fid; omega) (by unfold fid; omega) _) (fun k _ _ => mm k (by omega) (by omega) (by omega)) (mi 26), hL.cg (fun b _ k _ => v2 _ (by unfold fid; omega) (by unfold fid; omega) (by unfold fid; omega) _) (fun k _ _ => mm k (by omega) (by omega) (by omega)) (mi 27), hT.cg (v4 9 (by omega) (by omega)) (mm 43 (by omega) (by omega) (by omega)) (mi 47), hR.cg (by rw [v3]) (fun b _ => ⟨v4 _ (by omega) (by omega), v2 _ (by decide) (by decide) (by decide) _⟩) (mm 44 (by omega) (by omega) (by omega)) (mm 46 (by omega) (by omega) (by omega))⟩, fun b hb hc => ?_⟩
  · unfold RgN
    rw [mi, mi, mi, mi, mi, mi, mi]
    exact gN
  · intro j hj
    have c := gC j hj
    rw [m0, mm 1 (by decide) (by decide) (by decide)]
    refine ⟨?_, c.2⟩
    by_cases e : j = i
    · have e2 : (nI (hsu T (nI i))).toInt = hsu T (nI i) := nI_toInt (by have := (gC i hi).1; omega)
      subst e
      rw [pk_us, fb_subI (by rw [e2]; omega) (by rw [e2]; omega), e2]; omega
    · rw [pk_un e]; exact c.1
  · intro b hb
    have c := gB b hb
    rw [mm 2 (by decide) (by decide) (by decide), mm 3 (by decide) (by decide) (by decide), mm 6 (by decide) (by decide) (by decide), mi, mi]
    refine ⟨c.1, c.2.1, c.2.2.1, fun z k k1 k2 => ?_⟩
    have c0 := c.2.2.2 z
    have dz := d0 b (fun w => by omega)
    by_cases e5 : k = 5
    · rw [e5, c5 b hb, dz, c0 5 (by omega) (by omega)]; rfl
    · by_cases e4 : k = 4
      · rw [e4, c4 b hb, dz, c0 4 (by omega) (by omega)]; rfl
      · rw [mm k e5 e4 (by omega)]; exact c0 k k1 k2
  · unfold SmN
    rw [mi, mi, mi, mi, mi, mi, mi, mi, mi, mi, mi, mi, v2 (fid 4 3) (by decide) (by decide) (by decide), v2 (fid 4 4) (by decide) (by decide) (by decide), v2 (fid 5 1) (by decide) (by decide) (by decide)]
    refine ⟨?_, ?_, ?_, ?_, ?_, ?_, ?_, ?_, ?_, nw, ng, nz⟩ <;> (show sI S2 _ 0 = _) <;> rw [v2 _ (by decide) (by decide) (by decide)] <;> assumption
  · intro j hj
    rw [v5 j hj, m0, v4 3 (by decide) (by omega), mm 1 (by decide) (by decide) (by decide)]
    exact ⟨rfl, (hC j hj).2⟩
  · intro b hb12 hb k hk hk2
    rw [mi] at hb
    by_cases e5 : k = 5
    · subst e5
      rw [v1 b hb12 hb _ (Or.inl rfl), c5 b hb12, hB b hb12 hb 5 (by omega) (by omega)]
    · by_cases e4 : k = 4
      · subst e4
        rw [v1 b hb12 hb _ (Or.inr rfl), c4 b hb12, hB b hb12 hb 4 (by omega) (by omega)]
      · rw [v2 _ (by unfold fid; omega) (by unfold fid; omega) (by unfold fid; omega), mm k e5 e4 (by omega)]
        exact hB b hb12 hb k hk hk2
  · rw [c5 b hb, hz b hb (by omega), d0 b (fun w => by rw [w.2, nI_toInt (by omega)] at hc; omega)]; rfl
/-- all hauls of a night -/
theorem Sim.hauls {S T : HS} {g : Int32} (h : Sim S T) (hz : ∀ b, b < 12 → mA T 5 b = 0) : ∀ i, i ≤ 36 → Sim (heS g S i).1 (nhM g T i).1 ∧ (heS g S i).2 = nI (nhM g T i).2 ∧ (∀ b, b < 12 → (i : Int) ≤ (mA T 3 b).toInt ∨ (mA T 3 b).toInt < 0 → mA (nhM g T i).1 5 b = 0) ∧ ∀ t, t ≠ 2 → t < 12 ∨ 14 < t → sA (heS g S i).1 t = sA S t
  | 0, _ => ⟨h, rfl, fun b hb _ => hz b hb, fun _ _ _ => rfl⟩
  | i + 1, hi => by
    obtain ⟨k1, k2, k3, k4⟩ := Sim.hauls (g := g) h hz i (by omega)
    have e1 : mA (nhM g T i).1 1 = mA T 1 := nhM_A ⟨by decide, by decide, by decide⟩ i
    have e3 : mA (nhM g T i).1 3 = mA T 3 := nhM_A ⟨by decide, by decide, by decide⟩ i
    have hcd : (¬ g.toInt = 0 ∧ (0 ≤ (nI i).toInt ∧ (nI i).toInt < 36) ∧ ¬ (sA (heS g S i).1 3 (nI i).toNatClampNeg).toInt = 0) ↔ (¬ g = 0 ∧ ¬ mA T 1 i = 0) := by
      rw [nI_clamp (by omega), nI_toInt (by omega), (k1.2.2.2.2.1 i (by omega)).2, e1]
      have eg : g = 0 ↔ g.toInt = 0 := fa_eq g 0
      have eo : mA T 1 i = 0 ↔ (mA T 1 i).toInt = 0 := fa_eq _ _
      rw [eg, eo]
      exact ⟨fun z => ⟨z.1, z.2.2⟩, fun z => ⟨z.1, by omega, z.2⟩⟩
    unfold heS nhM
    by_cases q : ¬ g = 0 ∧ ¬ mA T 1 i = 0
    · rw [if_pos (hcd.mpr q), if_pos q]
      exact ⟨k1, k2, fun b hb hc => k3 b hb (by omega), k4⟩
    · rw [if_neg (fun z => q (hcd.mp z)), if_neg q]
      have eT := hT_e k1 (show i < 36 by omega)
      obtain ⟨j1, j2⟩ := k1.haul (show i < 36 by omega) (fun b hb hc => k3 b hb (by rw [e3] at hc; exact hc))
      refine ⟨j1, ?_, fun b hb hc => j2 b hb (by rw [e3]; omega), fun t t2 ht => ?_⟩
      · show (heS g S i).2 + hT (heS g S i).1 (nI i) = nI ((nhM g T i).2 + hsu (nhM g T i).1 (nI i))
        rw [k2, eT, nI_add]
      · exact ((haulS_v k1 (show i < 36 by omega)).2.2.2.1 t t2 ht).trans (k4 t t2 ht)
