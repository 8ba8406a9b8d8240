/-! ===== a sale: both sides alike ===== -/
theorem Sim.row {S T : HS} (h : Sim S T) {j : Nat} (hj : (23 < j ∧ j < 43) ∨ j = 45 ∨ 46 < j) (r : Nat → Int32) : Sim S (setA T (ma j) r) := by
  obtain ⟨h1, h2, ⟨g0, gN, gC, gB, gP, gY, gL⟩, hN, hC, hB, hP, hY, hL, hT, hR⟩ := h
  have e : ∀ k, k ≠ j → mA (setA T (ma j) r) k = mA T k := fun k hk => sA_setn (by unfold ma; omega)
  exact ⟨h1, h2, ⟨g0.setA _ _, gN, gC.cg (fun k _ => e k (by omega)), gB.cg (fun k _ _ => e k (by omega)) rfl rfl, gP.cg (fun k _ _ => e k (by omega)) rfl, gY.cg (fun k _ _ => e k (by omega)) rfl, gL.cg (fun k _ _ => e k (by omega)) rfl rfl⟩, hN, hC.cg (fun _ _ => ⟨rfl, rfl⟩) (fun k _ => e k (by omega)), hB.cg (fun _ _ _ _ _ => rfl) (fun k _ _ => e k (by omega)) rfl, hP.cg (fun _ _ => ⟨rfl, rfl⟩) (fun k _ _ => e k (by omega)) rfl, hY.cg (fun _ _ _ _ _ => rfl) (fun k _ _ => e k (by omega)) rfl, hL.cg (fun _ _ _ _ => rfl) (fun k _ _ => e k (by omega)) rfl, hT.cg rfl (e 43 (by omega)) rfl, hR.cg rfl (fun _ _ => ⟨rfl, rfl⟩) (e 44 (by omega)) (e 46 (by omega))⟩
theorem m1I : (-1 : Int32).toInt = -1 := rfl
theorem bb_by {rl bd lf bd2 : Nat → Int32} : ∀ {n : Nat}, n ≤ 4 → (∀ j, j < n → rl j = lf j ∧ bd j = bd2 j ∧ 0 ≤ (bd2 j).toInt) → (bbF rl bd n).1 = byF lf bd2 n ∧ (bbF rl bd n).2 = if byF lf bd2 n = -1 then -1 else bd2 (byF lf bd2 n).toNatClampNeg
  | 0, _, _ => ⟨rfl, rfl⟩
  | n + 1, hn, h => by
    obtain ⟨i1, i2⟩ := bb_by (n := n) (by omega) (fun j hj => h j (by omega))
    obtain ⟨h1, h2, h3⟩ := h n (by omega)
    have hne : ¬ nI n = -1 := nI_nm (by omega)
    unfold bbF byF
    rw [h1, h2, i2]
    have hc : (0 < (lf n).toInt ∧ (if byF lf bd2 n = -1 then (-1 : Int32) else bd2 (byF lf bd2 n).toNatClampNeg).toInt < (bd2 n).toInt) ↔ (0 < (lf n).toInt ∧ (byF lf bd2 n = -1 ∨ (bd2 (byF lf bd2 n).toNatClampNeg).toInt < (bd2 n).toInt)) := by
      by_cases q : byF lf bd2 n = -1
      · rw [if_pos q, m1I]; exact ⟨fun z => ⟨z.1, Or.inl q⟩, fun z => ⟨z.1, by omega⟩⟩
      · rw [if_neg q]; exact ⟨fun z => ⟨z.1, Or.inr z.2⟩, fun z => ⟨z.1, z.2.resolve_left q⟩⟩
    by_cases q : 0 < (lf n).toInt ∧ (byF lf bd2 n = -1 ∨ (bd2 (byF lf bd2 n).toNatClampNeg).toInt < (bd2 n).toInt)
    · rw [if_pos (hc.mpr q), if_pos q, if_neg hne, nI_clamp (by omega)]; exact ⟨rfl, rfl⟩
    · rw [if_neg (fun z => q (hc.mp z)), if_neg q]; exact ⟨i1, i2⟩
theorem sellS_r {S : HS} {b y n : Int32} : mA (sellS S b y n) 6 = upd (mA S 6) b.toNatClampNeg (mA S 6 b.toNatClampNeg + n * mA S 12 y.toNatClampNeg) ∧ mA (sellS S b y n) 13 = upd (mA S 13) (mI S 27).toNatClampNeg (mI S 24) ∧ mA (sellS S b y n) 14 = upd (mA S 14) (mI S 27).toNatClampNeg b ∧ mA (sellS S b y n) 15 = upd (mA S 15) (mI S 27).toNatClampNeg (mA S 3 b.toNatClampNeg) ∧ mA (sellS S b y n) 16 = upd (mA S 16) (mI S 27).toNatClampNeg y ∧ mA (sellS S b y n) 17 = upd (mA S 17) (mI S 27).toNatClampNeg n ∧ mA (sellS S b y n) 20 = upd (mA S 20) (mI S 27).toNatClampNeg (minF (mA S 3 b.toNatClampNeg)) ∧ mA (sellS S b y n) 21 = upd (mA S 21) (mI S 27).toNatClampNeg (mA S 12 y.toNatClampNeg) := by
  refine ⟨?_, ?_, ?_, ?_, ?_, ?_, ?_, ?_⟩
  · show sA (sellS S b y n) (ma 6) = _
    unfold sellS
    rw [sA_setI, sA_setn (by decide), sA_setn (by decide), sA_setn (by decide), sA_setn (by decide), sA_setn (by decide), sA_setn (by decide), sA_setn (by decide), sA_set]
  · show sA (sellS S b y n) (ma 13) = _
    unfold sellS
    rw [sA_setI, sA_setn (by decide), sA_setn (by decide), sA_setn (by decide), sA_setn (by decide), sA_setn (by decide), sA_setn (by decide), sA_set]
  · show sA (sellS S b y n) (ma 14) = _
    unfold sellS
    rw [sA_setI, sA_setn (by decide), sA_setn (by decide), sA_setn (by decide), sA_setn (by decide), sA_setn (by decide), sA_set]
  · show sA (sellS S b y n) (ma 15) = _
    unfold sellS
    rw [sA_setI, sA_setn (by decide), sA_setn (by decide), sA_setn (by decide), sA_setn (by decide), sA_set]
  · show sA (sellS S b y n) (ma 16) = _
    unfold sellS
    rw [sA_setI, sA_setn (by decide), sA_setn (by decide), sA_setn (by decide), sA_set]
  · show sA (sellS S b y n) (ma 17) = _
    unfold sellS
    rw [sA_setI, sA_setn (by decide), sA_setn (by decide), sA_set]
  · show sA (sellS S b y n) (ma 20) = _
    unfold sellS
    rw [sA_setI, sA_setn (by decide), sA_set]
  · show sA (sellS S b y n) (ma 21) = _
    unfold sellS
    rw [sA_setI, sA_set]
/-- while fish is sold: rooms left, the minutes of lots from fr on -/
def SR (fr : Nat) (S X : HS) : Prop := Sim S X ∧ (∀ y, y < nn (mI X 26) → sI S (fid 7 4) (200 + 2 * y) = mA X 40 y ∧ 0 ≤ (mA X 40 y).toInt ∧ (mA X 40 y).toInt ≤ 500) ∧ ∀ q, fr ≤ q → q < nn (mI X 27) → 30 ≤ (mA X 20 q).toInt ∧ (mA X 20 q).toInt ≤ 330
theorem buy_eq {fr : Nat} {S X : HS} (h : SR fr S X) : buyS S = smY X := by
  obtain ⟨h, hy, -⟩ := h
  have r26 := h.rn.2.1
  have gY := h.2.2.1.2.2.2.2.2.1
  have hY := h.2.2.2.2.2.2.2.1
  unfold buyS smY
  rw [h.n.2.1]
  have hn : nn (mI X 26) ≤ 4 := by unfold nn; omega
  exact (bb_by hn (fun j hj => ⟨(hy j hj).1, hY j (by omega) hj 3 (by omega) (by omega), (gY j (by omega)).1.1⟩)).1
theorem slC_iff {fr : Nat} {S X : HS} (h : SR fr S X) (x : Int32) : slC S x ↔ smC X x := by
  have e := buy_eq h
  have r26 := h.1.rn.2.1
  unfold slC smC
  rw [e, h.1.n.2.1, h.1.n.2.2.1]
  have hb := byF_in (lf := mA X 40) (bd := mA X 12) (n := nn (mI X 26)) (by unfold nn; omega)
  have hnn := nn_int r26.1
  refine ⟨fun z => ⟨z.1, fun w => ?_, z.2.2⟩, fun z => ⟨z.1, ?_, z.2.2⟩⟩
  · have := z.2.1.1
    rw [w, m1I] at this
    omega
  · rcases hb with q | q
    · exact absurd q z.2.1
    · exact ⟨q.1, by have := q.2; unfold smY; omega⟩
