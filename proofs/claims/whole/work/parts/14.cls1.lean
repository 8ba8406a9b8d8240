/-! ===== the system: its shape, its small methods ===== -/
abbrev cI (S : HS) (j : Nat) : Int32 := sI S (fid 8 j) 0
def refsC : List (Nat × Nat × Nat) := [(512, 0, 1), (513, 0, 5), (514, 0, 6), (515, 0, 7), (516, 0, 8), (517, 0, 10), (518, 0, 11), (519, 0, 15), (520, 0, 16), (256, 1, 2), (257, 1, 3), (258, 1, 4), (320, 8, 9), (192, 11, 12), (193, 11, 13), (194, 11, 14)]
/-- the part that never changes -/
def ShF (S : HS) : Prop := (∀ t, t < 17 → t ∈ sL S) ∧ (∀ p ∈ refsC, sR S p.1 p.2.1 = some p.2.2)
/-- the whole shape: which tags are live, who knows whom -/
def ShC (S : HS) : Prop := ShF S ∧
  (∀ t, t ∈ sL S ↔ (t < 17 ∨ (100 ≤ t ∧ t < 100 + 3 * nn (cI S 9)) ∨ (200 ≤ t ∧ t < 200 + 2 * nn (cI S 10)) ∨ (300 ≤ t ∧ t < 308 ∧ (sQ S 10 ((t - 300) / 2)).isSome = true) ∨ (1000 ≤ t ∧ t < 1000 + nn (cI S 11)))) ∧
  (∀ i, i < nn (cI S 9) → sQ S 5 i = some (100 + 3 * i) ∧ sR S (fid 0 0) (100 + 3 * i) = some (101 + 3 * i) ∧ sR S (fid 0 1) (100 + 3 * i) = some (102 + 3 * i)) ∧ (∀ i, nn (cI S 9) ≤ i → i < 12 → sQ S 5 i = none) ∧
  (∀ i, i < nn (cI S 10) → sQ S 6 i = some (200 + 2 * i) ∧ sR S (fid 7 0) (200 + 2 * i) = some (201 + 2 * i)) ∧ (∀ i, nn (cI S 10) ≤ i → i < 4 → sQ S 6 i = none) ∧
  (∀ i, i < nn (cI S 11) → sQ S 7 i = some (1000 + i)) ∧ (∀ i, nn (cI S 11) ≤ i → i < 400 → sQ S 7 i = none) ∧
  (∀ i, i < 4 → sQ S 10 i = none ∨ (sQ S 10 i = some (300 + 2 * i) ∧ sR S (fid 5 0) (300 + 2 * i) = some (301 + 2 * i))) ∧
  ((∀ f a t, sR S f a = some t → t ∈ sL S) ∧ (∀ a i t, sQ S a i = some t → t ∈ sL S)) ∧
  ((0 ≤ (cI S 9).toInt ∧ (cI S 9).toInt ≤ 12) ∧ (0 ≤ (cI S 10).toInt ∧ (cI S 10).toInt ≤ 4) ∧ (0 ≤ (cI S 11).toInt ∧ (cI S 11).toInt ≤ 400))
theorem ShC.F {S : HS} (h : ShC S) : ShF S := h.1
theorem ShC.b {S : HS} (h : ShC S) : (0 ≤ (cI S 9).toInt ∧ (cI S 9).toInt ≤ 12) := h.2.2.2.2.2.2.2.2.2.2.1
theorem ShC.y {S : HS} (h : ShC S) : (0 ≤ (cI S 10).toInt ∧ (cI S 10).toInt ≤ 4) := h.2.2.2.2.2.2.2.2.2.2.2.1
theorem ShC.l {S : HS} (h : ShC S) : (0 ≤ (cI S 11).toInt ∧ (cI S 11).toInt ≤ 400) := h.2.2.2.2.2.2.2.2.2.2.2.2
theorem ShC.q {S : HS} (h : ShC S) (a i : Nat) : okV (sL S) (va_rf (sQ S a i)) := by
  cases e : sQ S a i with
  | none => trivial
  | some t => exact h.2.2.2.2.2.2.2.2.2.1.2 a i t e
theorem ShC.lB {S : HS} (h : ShC S) {i j : Nat} (hi : i < nn (cI S 9)) (hj : j < 3) : 100 + j + 3 * i ∈ sL S := (h.2.1 _).mpr (Or.inr (Or.inl ⟨by omega, by omega⟩))
theorem ShC.lY {S : HS} (h : ShC S) {i j : Nat} (hi : i < nn (cI S 10)) (hj : j < 2) : 200 + j + 2 * i ∈ sL S := (h.2.1 _).mpr (Or.inr (Or.inr (Or.inl ⟨by omega, by omega⟩)))
theorem ShC.rB {S : HS} (h : ShC S) {i : Nat} (hi : i < nn (cI S 9)) : sQ S 5 i = some (100 + 3 * i) ∧ sR S (fid 0 0) (100 + 3 * i) = some (101 + 3 * i) ∧ sR S (fid 0 1) (100 + 3 * i) = some (102 + 3 * i) := h.2.2.1 i hi
theorem ShC.rY {S : HS} (h : ShC S) {i : Nat} (hi : i < nn (cI S 10)) : sQ S 6 i = some (200 + 2 * i) ∧ sR S (fid 7 0) (200 + 2 * i) = some (201 + 2 * i) := h.2.2.2.2.1 i hi
theorem boats_at {S : HS} (h : ShC S) {a : Int32} (ha : 0 ≤ a.toInt ∧ a.toInt ≤ 11) : sQ S 5 a.toNatClampNeg = if 0 ≤ a.toInt ∧ a.toInt < (cI S 9).toInt then some (100 + 3 * nn a) else none := by
  have hb := h.b
  rw [clamp_nn]
  split
  · exact (h.2.2.1 _ (by unfold nn; omega)).1
  · exact h.2.2.2.1 _ (by unfold nn; omega) (by unfold nn; omega)
theorem yards_at {S : HS} (h : ShC S) {a : Int32} (ha : 0 ≤ a.toInt ∧ a.toInt ≤ 3) : sQ S 6 a.toNatClampNeg = if 0 ≤ a.toInt ∧ a.toInt < (cI S 10).toInt then some (200 + 2 * nn a) else none := by
  have hb := h.y
  rw [clamp_nn]
  split
  · exact (h.2.2.2.2.1 _ (by unfold nn; omega)).1
  · exact h.2.2.2.2.2.1 _ (by unfold nn; omega) (by unfold nn; omega)
theorem lots_at {S : HS} (h : ShC S) {a : Int32} (ha : 0 ≤ a.toInt ∧ a.toInt ≤ 399) : sQ S 7 a.toNatClampNeg = if 0 ≤ a.toInt ∧ a.toInt < (cI S 11).toInt then some (1000 + nn a) else none := by
  have hb := h.l
  rw [clamp_nn]
  split
  · exact h.2.2.2.2.2.2.1 _ (by unfold nn; omega)
  · exact h.2.2.2.2.2.2.2.1 _ (by unfold nn; omega) (by unfold nn; omega)
theorem tkB {i : Nat} (h : i < 12) : tk (100 + 3 * i) = 0 := by unfold tk; rw [if_neg (by omega), if_pos (by omega), if_pos (by omega)]
theorem tkBp {i : Nat} (h : i < 12) : tk (101 + 3 * i) = 10 := by unfold tk; rw [if_neg (by omega), if_pos (by omega), if_neg (by omega)]
theorem tkBg {i : Nat} (h : i < 12) : tk (102 + 3 * i) = 10 := by unfold tk; rw [if_neg (by omega), if_pos (by omega), if_neg (by omega)]
theorem tnBp {i : Nat} (h : i < 12) : tn (101 + 3 * i) = 8 := by unfold tn; rw [if_neg (by omega), if_pos (by omega)]
theorem tnBg {i : Nat} (h : i < 12) : tn (102 + 3 * i) = 8 := by unfold tn; rw [if_neg (by omega), if_pos (by omega)]
theorem tkY {i : Nat} (h : i < 4) : tk (200 + 2 * i) = 7 := by unfold tk; rw [if_neg (by omega), if_neg (by omega), if_pos (by omega), if_pos (by omega)]
theorem tkYf {i : Nat} (h : i < 4) : tk (201 + 2 * i) = 10 := by unfold tk; rw [if_neg (by omega), if_neg (by omega), if_pos (by omega), if_neg (by omega)]
theorem tnYf {i : Nat} (h : i < 4) : tn (201 + 2 * i) = 6 := by unfold tn; rw [if_neg (by omega), if_neg (by omega), if_pos (by omega)]
theorem tkT {i : Nat} (h : i < 4) : tk (300 + 2 * i) = 5 := by unfold tk; rw [if_neg (by omega), if_neg (by omega), if_neg (by omega), if_pos (by omega), if_pos (by omega)]
theorem tkTb {i : Nat} (h : i < 4) : tk (301 + 2 * i) = 10 := by unfold tk; rw [if_neg (by omega), if_neg (by omega), if_neg (by omega), if_pos (by omega), if_neg (by omega)]
theorem tnTb {i : Nat} (h : i < 4) : tn (301 + 2 * i) = 200 := by unfold tn; rw [if_neg (by omega), if_neg (by omega), if_neg (by omega), if_pos (by omega)]
theorem tkLo {i : Nat} (h : i < 400) : tk (1000 + i) = 2 := by unfold tk; rw [if_neg (by omega), if_neg (by omega), if_neg (by omega), if_neg (by omega), if_pos (by omega)]
theorem shL_0 {S : HS} (h : ShF S) : 0 ∈ sL S := h.1 0 (by decide)
theorem shL_1 {S : HS} (h : ShF S) : 1 ∈ sL S := h.1 1 (by decide)
theorem shL_2 {S : HS} (h : ShF S) : 2 ∈ sL S := h.1 2 (by decide)
theorem shL_3 {S : HS} (h : ShF S) : 3 ∈ sL S := h.1 3 (by decide)
theorem shL_4 {S : HS} (h : ShF S) : 4 ∈ sL S := h.1 4 (by decide)
theorem shL_5 {S : HS} (h : ShF S) : 5 ∈ sL S := h.1 5 (by decide)
theorem shL_6 {S : HS} (h : ShF S) : 6 ∈ sL S := h.1 6 (by decide)
theorem shL_7 {S : HS} (h : ShF S) : 7 ∈ sL S := h.1 7 (by decide)
theorem shL_8 {S : HS} (h : ShF S) : 8 ∈ sL S := h.1 8 (by decide)
theorem shL_9 {S : HS} (h : ShF S) : 9 ∈ sL S := h.1 9 (by decide)
theorem shL_10 {S : HS} (h : ShF S) : 10 ∈ sL S := h.1 10 (by decide)
theorem shL_11 {S : HS} (h : ShF S) : 11 ∈ sL S := h.1 11 (by decide)
theorem shL_12 {S : HS} (h : ShF S) : 12 ∈ sL S := h.1 12 (by decide)
theorem shL_13 {S : HS} (h : ShF S) : 13 ∈ sL S := h.1 13 (by decide)
theorem shL_14 {S : HS} (h : ShF S) : 14 ∈ sL S := h.1 14 (by decide)
theorem shL_15 {S : HS} (h : ShF S) : 15 ∈ sL S := h.1 15 (by decide)
theorem shL_16 {S : HS} (h : ShF S) : 16 ∈ sL S := h.1 16 (by decide)
theorem shR8_0 {S : HS} (h : ShF S) : sR S (fid 8 0) 0 = some 1 := h.2 (512, 0, 1) (by decide)
theorem shR8_1 {S : HS} (h : ShF S) : sR S (fid 8 1) 0 = some 5 := h.2 (513, 0, 5) (by decide)
theorem shR8_2 {S : HS} (h : ShF S) : sR S (fid 8 2) 0 = some 6 := h.2 (514, 0, 6) (by decide)
theorem shR8_3 {S : HS} (h : ShF S) : sR S (fid 8 3) 0 = some 7 := h.2 (515, 0, 7) (by decide)
theorem shR8_4 {S : HS} (h : ShF S) : sR S (fid 8 4) 0 = some 8 := h.2 (516, 0, 8) (by decide)
theorem shR8_5 {S : HS} (h : ShF S) : sR S (fid 8 5) 0 = some 10 := h.2 (517, 0, 10) (by decide)
theorem shR8_6 {S : HS} (h : ShF S) : sR S (fid 8 6) 0 = some 11 := h.2 (518, 0, 11) (by decide)
theorem shR8_7 {S : HS} (h : ShF S) : sR S (fid 8 7) 0 = some 15 := h.2 (519, 0, 15) (by decide)
theorem shR8_8 {S : HS} (h : ShF S) : sR S (fid 8 8) 0 = some 16 := h.2 (520, 0, 16) (by decide)
theorem shR4_0 {S : HS} (h : ShF S) : sR S (fid 4 0) 1 = some 2 := h.2 (256, 1, 2) (by decide)
theorem shR4_1 {S : HS} (h : ShF S) : sR S (fid 4 1) 1 = some 3 := h.2 (257, 1, 3) (by decide)
theorem shR4_2 {S : HS} (h : ShF S) : sR S (fid 4 2) 1 = some 4 := h.2 (258, 1, 4) (by decide)
theorem shR5_0t {S : HS} (h : ShF S) : sR S (fid 5 0) 8 = some 9 := h.2 (320, 8, 9) (by decide)
theorem shR3_0 {S : HS} (h : ShF S) : sR S (fid 3 0) 11 = some 12 := h.2 (192, 11, 12) (by decide)
theorem shR3_1 {S : HS} (h : ShF S) : sR S (fid 3 1) 11 = some 13 := h.2 (193, 11, 13) (by decide)
theorem shR3_2 {S : HS} (h : ShF S) : sR S (fid 3 2) 11 = some 14 := h.2 (194, 11, 14) (by decide)
set_option maxHeartbeats 4000000 in
theorem c_X8_boatAt {l : Launch} {G : va_G} {cy : Nat → ClassId} (a : Int32) (S : HS) (h : ShC S) : Cn l G cy yX8_boatAt cX8_boatAt 2 (some (.object "HerringSea$Boat")) 1 [.ref 0, .int a] S 0 0 (qR (fun r S2 => (r = if 0 ≤ a.toInt ∧ a.toInt < (cI S 9).toInt then some (100 + 3 * nn a) else none) ∧ S2 = S)) := by
  refine Cn.of [some (.ref 0), some (.int a)] (by decide) rfl (Nat.le_of_ble_eq_true rfl) ?_
  refine r_iload_n dX8_boatAt_0 rfl rfl ?_
  refine r_iconst (v := 0) dX8_boatAt_1 (by decide) ?_
  refine r_bipush (v := 11) dX8_boatAt_2 (by decide) ?_
  refine r_invS3i dX8_boatAt_4 lm_X8_74 (c_X8_isWithin _ _ _ _) (Nat.le_of_ble_eq_true rfl) (Nat.le_of_ble_eq_true rfl) (Nat.zero_le _) (Nat.zero_le _) (fun r4 S4 hq4 => ?_)
  obtain ⟨rfl, hz4⟩ := hq4
  replace hz4 := hz4.symm
  subst hz4
  refine r_if_eq 19 dX8_boatAt_7 (by decide) (fun q7 => ?_) (fun q7 => ?_)
  · skip
    refine r_null dX8_boatAt_19 ?_
    exact r_aret (r := none) dX8_boatAt_20 rfl (Nat.zero_le _) (Nat.zero_le _) ⟨_, rfl, ⟨by first | exact boats_at h (by (try simp only [b2i_eq0, b2i_ne0, decide_eq_true_eq] at *); (try simp only [cI, sI_setA, sI_setQ, sI_setR, sA_setI, sA_setR, sA_setQ, fa_lt, fa_le, fa_eq, Int32.reduceToInt] at *); omega) | (have hb := h.b; exact (if_neg (by (try simp only [b2i_eq0, b2i_ne0, decide_eq_true_eq] at *); (try simp only [cI, sI_setA, sI_setQ, sI_setR, sA_setI, sA_setR, sA_setQ, fa_lt, fa_le, fa_eq, Int32.reduceToInt] at *); omega)).symm), rfl⟩⟩
  · skip
    refine r_aload_n dX8_boatAt_10 rfl rfl ?_
    refine r_getR dX8_boatAt_11 lf_X8_18 rfl rfl (shR8_1 h.F) (shL_5 h.F) ?_
    refine r_iload_n dX8_boatAt_14 rfl rfl ?_
    refine r_aald12 dX8_boatAt_15 rfl (show vp_in _ 12 from vp_in_iff.mpr (by (try simp only [b2i_eq0, b2i_ne0, decide_eq_true_eq] at *); (try simp only [cI, sI_setA, sI_setQ, sI_setR, sA_setI, sA_setR, sA_setQ, fa_lt, fa_le, fa_eq, Int32.reduceToInt] at *); omega)) (h.q _ _) ?_
    refine r_goto 20 dX8_boatAt_16 (by decide) ?_
    exact r_aret (r := _) dX8_boatAt_20 rfl (Nat.zero_le _) (Nat.zero_le _) ⟨_, rfl, ⟨by first | exact boats_at h (by (try simp only [b2i_eq0, b2i_ne0, decide_eq_true_eq] at *); (try simp only [cI, sI_setA, sI_setQ, sI_setR, sA_setI, sA_setR, sA_setQ, fa_lt, fa_le, fa_eq, Int32.reduceToInt] at *); omega) | (have hb := h.b; exact (if_neg (by (try simp only [b2i_eq0, b2i_ne0, decide_eq_true_eq] at *); (try simp only [cI, sI_setA, sI_setQ, sI_setR, sA_setI, sA_setR, sA_setQ, fa_lt, fa_le, fa_eq, Int32.reduceToInt] at *); omega)).symm), rfl⟩⟩
set_option maxHeartbeats 4000000 in
theorem c_X8_yardAt {l : Launch} {G : va_G} {cy : Nat → ClassId} (a : Int32) (S : HS) (h : ShC S) : Cn l G cy yX8_yardAt cX8_yardAt 2 (some (.object "HerringSea$Yard")) 1 [.ref 0, .int a] S 0 0 (qR (fun r S2 => (r = if 0 ≤ a.toInt ∧ a.toInt < (cI S 10).toInt then some (200 + 2 * nn a) else none) ∧ S2 = S)) := by
  refine Cn.of [some (.ref 0), some (.int a)] (by decide) rfl (Nat.le_of_ble_eq_true rfl) ?_
  refine r_iload_n dX8_yardAt_0 rfl rfl ?_
  refine r_iconst (v := 0) dX8_yardAt_1 (by decide) ?_
  refine r_iconst (v := 3) dX8_yardAt_2 (by decide) ?_
  refine r_invS3i dX8_yardAt_3 lm_X8_74 (c_X8_isWithin _ _ _ _) (Nat.le_of_ble_eq_true rfl) (Nat.le_of_ble_eq_true rfl) (Nat.zero_le _) (Nat.zero_le _) (fun r3 S3 hq3 => ?_)
  obtain ⟨rfl, hz3⟩ := hq3
  replace hz3 := hz3.symm
  subst hz3
  refine r_if_eq 18 dX8_yardAt_6 (by decide) (fun q6 => ?_) (fun q6 => ?_)
  · skip
    refine r_null dX8_yardAt_18 ?_
    exact r_aret (r := none) dX8_yardAt_19 rfl (Nat.zero_le _) (Nat.zero_le _) ⟨_, rfl, ⟨by first | exact yards_at h (by (try simp only [b2i_eq0, b2i_ne0, decide_eq_true_eq] at *); (try simp only [cI, sI_setA, sI_setQ, sI_setR, sA_setI, sA_setR, sA_setQ, fa_lt, fa_le, fa_eq, Int32.reduceToInt] at *); omega) | (have hb := h.y; exact (if_neg (by (try simp only [b2i_eq0, b2i_ne0, decide_eq_true_eq] at *); (try simp only [cI, sI_setA, sI_setQ, sI_setR, sA_setI, sA_setR, sA_setQ, fa_lt, fa_le, fa_eq, Int32.reduceToInt] at *); omega)).symm), rfl⟩⟩
  · skip
    refine r_aload_n dX8_yardAt_9 rfl rfl ?_
    refine r_getR dX8_yardAt_10 lf_X8_24 rfl rfl (shR8_2 h.F) (shL_6 h.F) ?_
    refine r_iload_n dX8_yardAt_13 rfl rfl ?_
    refine r_aald15 dX8_yardAt_14 rfl (show vp_in _ 4 from vp_in_iff.mpr (by (try simp only [b2i_eq0, b2i_ne0, decide_eq_true_eq] at *); (try simp only [cI, sI_setA, sI_setQ, sI_setR, sA_setI, sA_setR, sA_setQ, fa_lt, fa_le, fa_eq, Int32.reduceToInt] at *); omega)) (h.q _ _) ?_
    refine r_goto 19 dX8_yardAt_15 (by decide) ?_
    exact r_aret (r := _) dX8_yardAt_19 rfl (Nat.zero_le _) (Nat.zero_le _) ⟨_, rfl, ⟨by first | exact yards_at h (by (try simp only [b2i_eq0, b2i_ne0, decide_eq_true_eq] at *); (try simp only [cI, sI_setA, sI_setQ, sI_setR, sA_setI, sA_setR, sA_setQ, fa_lt, fa_le, fa_eq, Int32.reduceToInt] at *); omega) | (have hb := h.y; exact (if_neg (by (try simp only [b2i_eq0, b2i_ne0, decide_eq_true_eq] at *); (try simp only [cI, sI_setA, sI_setQ, sI_setR, sA_setI, sA_setR, sA_setQ, fa_lt, fa_le, fa_eq, Int32.reduceToInt] at *); omega)).symm), rfl⟩⟩
set_option maxHeartbeats 4000000 in
theorem c_X8_lotAt {l : Launch} {G : va_G} {cy : Nat → ClassId} (a : Int32) (S : HS) (h : ShC S) : Cn l G cy yX8_lotAt cX8_lotAt 2 (some (.object "HerringSea$Lot")) 1 [.ref 0, .int a] S 0 0 (qR (fun r S2 => (r = if 0 ≤ a.toInt ∧ a.toInt < (cI S 11).toInt then some (1000 + nn a) else none) ∧ S2 = S)) := by
  refine Cn.of [some (.ref 0), some (.int a)] (by decide) rfl (Nat.le_of_ble_eq_true rfl) ?_
  refine r_iload_n dX8_lotAt_0 rfl rfl ?_
  refine r_iconst (v := 0) dX8_lotAt_1 (by decide) ?_
  refine r_sipush (v := 399) dX8_lotAt_2 (by decide) ?_
  refine r_invS3i dX8_lotAt_5 lm_X8_74 (c_X8_isWithin _ _ _ _) (Nat.le_of_ble_eq_true rfl) (Nat.le_of_ble_eq_true rfl) (Nat.zero_le _) (Nat.zero_le _) (fun r5 S5 hq5 => ?_)
  obtain ⟨rfl, hz5⟩ := hq5
  replace hz5 := hz5.symm
  subst hz5
  refine r_if_eq 20 dX8_lotAt_8 (by decide) (fun q8 => ?_) (fun q8 => ?_)
  · skip
    refine r_null dX8_lotAt_20 ?_
    exact r_aret (r := none) dX8_lotAt_21 rfl (Nat.zero_le _) (Nat.zero_le _) ⟨_, rfl, ⟨by first | exact lots_at h (by (try simp only [b2i_eq0, b2i_ne0, decide_eq_true_eq] at *); (try simp only [cI, sI_setA, sI_setQ, sI_setR, sA_setI, sA_setR, sA_setQ, fa_lt, fa_le, fa_eq, Int32.reduceToInt] at *); omega) | (have hb := h.l; exact (if_neg (by (try simp only [b2i_eq0, b2i_ne0, decide_eq_true_eq] at *); (try simp only [cI, sI_setA, sI_setQ, sI_setR, sA_setI, sA_setR, sA_setQ, fa_lt, fa_le, fa_eq, Int32.reduceToInt] at *); omega)).symm), rfl⟩⟩
  · skip
    refine r_aload_n dX8_lotAt_11 rfl rfl ?_
    refine r_getR dX8_lotAt_12 lf_X8_30 rfl rfl (shR8_3 h.F) (shL_7 h.F) ?_
    refine r_iload_n dX8_lotAt_15 rfl rfl ?_
    refine r_aald13 dX8_lotAt_16 rfl (show vp_in _ 400 from vp_in_iff.mpr (by (try simp only [b2i_eq0, b2i_ne0, decide_eq_true_eq] at *); (try simp only [cI, sI_setA, sI_setQ, sI_setR, sA_setI, sA_setR, sA_setQ, fa_lt, fa_le, fa_eq, Int32.reduceToInt] at *); omega)) (h.q _ _) ?_
    refine r_goto 21 dX8_lotAt_17 (by decide) ?_
    exact r_aret (r := _) dX8_lotAt_21 rfl (Nat.zero_le _) (Nat.zero_le _) ⟨_, rfl, ⟨by first | exact lots_at h (by (try simp only [b2i_eq0, b2i_ne0, decide_eq_true_eq] at *); (try simp only [cI, sI_setA, sI_setQ, sI_setR, sA_setI, sA_setR, sA_setQ, fa_lt, fa_le, fa_eq, Int32.reduceToInt] at *); omega) | (have hb := h.l; exact (if_neg (by (try simp only [b2i_eq0, b2i_ne0, decide_eq_true_eq] at *); (try simp only [cI, sI_setA, sI_setQ, sI_setR, sA_setI, sA_setR, sA_setQ, fa_lt, fa_le, fa_eq, Int32.reduceToInt] at *); omega)).symm), rfl⟩⟩
set_option maxHeartbeats 4000000 in
theorem c_X8_textAt {l : Launch} {G : va_G} {cy : Nat → ClassId} (a : Int32) (S : HS) (h : ShC S) : Cn l G cy yX8_textAt cX8_textAt 2 (some (.object "HerringSea$Text")) 1 [.ref 0, .int a] S 0 0 (qR (fun r S2 => (r = if 0 ≤ a.toInt ∧ a.toInt < 4 then sQ S 10 (nn a) else none) ∧ S2 = S)) := by
  refine Cn.of [some (.ref 0), some (.int a)] (by decide) rfl (Nat.le_of_ble_eq_true rfl) ?_
  refine r_iload_n dX8_textAt_0 rfl rfl ?_
  refine r_iconst (v := 0) dX8_textAt_1 (by decide) ?_
  refine r_iconst (v := 3) dX8_textAt_2 (by decide) ?_
  refine r_invS3i dX8_textAt_3 lm_X8_74 (c_X8_isWithin _ _ _ _) (Nat.le_of_ble_eq_true rfl) (Nat.le_of_ble_eq_true rfl) (Nat.zero_le _) (Nat.zero_le _) (fun r3 S3 hq3 => ?_)
  obtain ⟨rfl, hz3⟩ := hq3
  replace hz3 := hz3.symm
  subst hz3
  refine r_if_eq 18 dX8_textAt_6 (by decide) (fun q6 => ?_) (fun q6 => ?_)
  · skip
    refine r_null dX8_textAt_18 ?_
    exact r_aret (r := none) dX8_textAt_19 rfl (Nat.zero_le _) (Nat.zero_le _) ⟨_, rfl, ⟨by first | exact (if_pos (by (try simp only [b2i_eq0, b2i_ne0, decide_eq_true_eq] at *); (try simp only [cI, sI_setA, sI_setQ, sI_setR, sA_setI, sA_setR, sA_setQ, fa_lt, fa_le, fa_eq, Int32.reduceToInt] at *); omega)).symm | exact (if_neg (by (try simp only [b2i_eq0, b2i_ne0, decide_eq_true_eq] at *); (try simp only [cI, sI_setA, sI_setQ, sI_setR, sA_setI, sA_setR, sA_setQ, fa_lt, fa_le, fa_eq, Int32.reduceToInt] at *); omega)).symm, rfl⟩⟩
  · skip
    refine r_aload_n dX8_textAt_9 rfl rfl ?_
    refine r_getR dX8_textAt_10 lf_X8_41 rfl rfl (shR8_5 h.F) (shL_10 h.F) ?_
    refine r_iload_n dX8_textAt_13 rfl rfl ?_
    refine r_aald14 dX8_textAt_14 rfl (show vp_in _ 4 from vp_in_iff.mpr (by (try simp only [b2i_eq0, b2i_ne0, decide_eq_true_eq] at *); (try simp only [cI, sI_setA, sI_setQ, sI_setR, sA_setI, sA_setR, sA_setQ, fa_lt, fa_le, fa_eq, Int32.reduceToInt] at *); omega)) (h.q _ _) ?_
    refine r_goto 19 dX8_textAt_15 (by decide) ?_
    exact r_aret (r := _) dX8_textAt_19 rfl (Nat.zero_le _) (Nat.zero_le _) ⟨_, rfl, ⟨by first | exact (if_pos (by (try simp only [b2i_eq0, b2i_ne0, decide_eq_true_eq] at *); (try simp only [cI, sI_setA, sI_setQ, sI_setR, sA_setI, sA_setR, sA_setQ, fa_lt, fa_le, fa_eq, Int32.reduceToInt] at *); omega)).symm | exact (if_neg (by (try simp only [b2i_eq0, b2i_ne0, decide_eq_true_eq] at *); (try simp only [cI, sI_setA, sI_setQ, sI_setR, sA_setI, sA_setR, sA_setQ, fa_lt, fa_le, fa_eq, Int32.reduceToInt] at *); omega)).symm, rfl⟩⟩
set_option maxHeartbeats 4000000 in
theorem c_X8_shoal {l : Launch} {G : va_G} {cy : Nat → ClassId} (a w : Int32) (S : HS) (h : ShF S) : Cn l G cy yX8_shoal cX8_shoal 3 (some .boolean) 1 [.ref 0, .int a, .int w] S 0 0 (qI (fun r S2 => r = b2i (0 ≤ a.toInt ∧ a.toInt < 36 ∧ 0 ≤ w.toInt ∧ w.toInt ≤ 10000) ∧ S2 = if (0 ≤ a.toInt ∧ a.toInt < 36 ∧ 0 ≤ w.toInt ∧ w.toInt ≤ 10000) then setA S 2 (upd (sA S 2) a.toNatClampNeg w) else S)) := by
  refine Cn.of [some (.ref 0), some (.int a), some (.int w)] (by decide) rfl (Nat.le_of_ble_eq_true rfl) ?_
  refine r_iload_n dX8_shoal_0 rfl rfl ?_
  refine r_invS1i dX8_shoal_1 lm_X8_70 (c_X4_isCell _ _) (Nat.le_of_ble_eq_true rfl) (Nat.le_of_ble_eq_true rfl) (Nat.zero_le _) (Nat.zero_le _) (fun r1 S1 hq1 => ?_)
  obtain ⟨rfl, hz1⟩ := hq1
  replace hz1 := hz1.symm
  subst hz1
  refine r_if_eq 18 dX8_shoal_4 (by decide) (fun q4 => ?_) (fun q4 => ?_)
  · skip
    refine r_iconst (v := 0) dX8_shoal_18 (by decide) ?_
    exact r_zret dX8_shoal_19 rfl rfl (Nat.zero_le _) (Nat.zero_le _) ⟨_, rfl, by first | exact ⟨(b2i_t (by (try simp only [b2i_eq0, b2i_ne0, decide_eq_true_eq] at *); (try simp only [cI, sI_setA, sI_setQ, sI_setR, sA_setI, sA_setR, sA_setQ, fa_lt, fa_le, fa_eq, Int32.reduceToInt] at *); omega)).symm, (if_pos (by (try simp only [b2i_eq0, b2i_ne0, decide_eq_true_eq] at *); (try simp only [cI, sI_setA, sI_setQ, sI_setR, sA_setI, sA_setR, sA_setQ, fa_lt, fa_le, fa_eq, Int32.reduceToInt] at *); omega)).symm⟩ | exact ⟨(b2i_f (by (try simp only [b2i_eq0, b2i_ne0, decide_eq_true_eq] at *); (try simp only [cI, sI_setA, sI_setQ, sI_setR, sA_setI, sA_setR, sA_setQ, fa_lt, fa_le, fa_eq, Int32.reduceToInt] at *); omega)).symm, (if_neg (by (try simp only [b2i_eq0, b2i_ne0, decide_eq_true_eq] at *); (try simp only [cI, sI_setA, sI_setQ, sI_setR, sA_setI, sA_setR, sA_setQ, fa_lt, fa_le, fa_eq, Int32.reduceToInt] at *); omega)).symm⟩⟩
  · skip
    refine r_iload_n dX8_shoal_7 rfl rfl ?_
    refine r_iconst (v := 0) dX8_shoal_8 (by decide) ?_
    refine r_sipush (v := 10000) dX8_shoal_9 (by decide) ?_
    refine r_invS3i dX8_shoal_12 lm_X8_74 (c_X8_isWithin _ _ _ _) (Nat.le_of_ble_eq_true rfl) (Nat.le_of_ble_eq_true rfl) (Nat.zero_le _) (Nat.zero_le _) (fun r12 S12 hq12 => ?_)
    obtain ⟨rfl, hz12⟩ := hq12
    replace hz12 := hz12.symm
    subst hz12
    refine r_if_ne 20 dX8_shoal_15 (by decide) (fun q15 => ?_) (fun q15 => ?_)
    · skip
      refine r_aload_n dX8_shoal_20 rfl rfl ?_
      refine r_getR dX8_shoal_21 lf_X8_12 rfl rfl (shR8_0 h) (shL_1 h) ?_
      refine r_getR dX8_shoal_24 lf_X8_78 rfl rfl (shR4_0 h) (shL_2 h) ?_
      refine r_iload_n dX8_shoal_27 rfl rfl ?_
      refine r_iload_n dX8_shoal_28 rfl rfl ?_
      refine r_iast dX8_shoal_29 rfl (show vp_in _ 36 from vp_in_iff.mpr (by (try simp only [b2i_eq0, b2i_ne0, decide_eq_true_eq] at *); (try simp only [cI, sI_setA, sI_setQ, sI_setR, sA_setI, sA_setR, sA_setQ, fa_lt, fa_le, fa_eq, Int32.reduceToInt] at *); omega)) ?_
      refine r_iconst (v := 1) dX8_shoal_30 (by decide) ?_
      exact r_zret dX8_shoal_31 rfl rfl (Nat.zero_le _) (Nat.zero_le _) ⟨_, rfl, by first | exact ⟨(b2i_t (by (try simp only [b2i_eq0, b2i_ne0, decide_eq_true_eq] at *); (try simp only [cI, sI_setA, sI_setQ, sI_setR, sA_setI, sA_setR, sA_setQ, fa_lt, fa_le, fa_eq, Int32.reduceToInt] at *); omega)).symm, (if_pos (by (try simp only [b2i_eq0, b2i_ne0, decide_eq_true_eq] at *); (try simp only [cI, sI_setA, sI_setQ, sI_setR, sA_setI, sA_setR, sA_setQ, fa_lt, fa_le, fa_eq, Int32.reduceToInt] at *); omega)).symm⟩ | exact ⟨(b2i_f (by (try simp only [b2i_eq0, b2i_ne0, decide_eq_true_eq] at *); (try simp only [cI, sI_setA, sI_setQ, sI_setR, sA_setI, sA_setR, sA_setQ, fa_lt, fa_le, fa_eq, Int32.reduceToInt] at *); omega)).symm, (if_neg (by (try simp only [b2i_eq0, b2i_ne0, decide_eq_true_eq] at *); (try simp only [cI, sI_setA, sI_setQ, sI_setR, sA_setI, sA_setR, sA_setQ, fa_lt, fa_le, fa_eq, Int32.reduceToInt] at *); omega)).symm⟩⟩
    · skip
      refine r_iconst (v := 0) dX8_shoal_18 (by decide) ?_
      exact r_zret dX8_shoal_19 rfl rfl (Nat.zero_le _) (Nat.zero_le _) ⟨_, rfl, by first | exact ⟨(b2i_t (by (try simp only [b2i_eq0, b2i_ne0, decide_eq_true_eq] at *); (try simp only [cI, sI_setA, sI_setQ, sI_setR, sA_setI, sA_setR, sA_setQ, fa_lt, fa_le, fa_eq, Int32.reduceToInt] at *); omega)).symm, (if_pos (by (try simp only [b2i_eq0, b2i_ne0, decide_eq_true_eq] at *); (try simp only [cI, sI_setA, sI_setQ, sI_setR, sA_setI, sA_setR, sA_setQ, fa_lt, fa_le, fa_eq, Int32.reduceToInt] at *); omega)).symm⟩ | exact ⟨(b2i_f (by (try simp only [b2i_eq0, b2i_ne0, decide_eq_true_eq] at *); (try simp only [cI, sI_setA, sI_setQ, sI_setR, sA_setI, sA_setR, sA_setQ, fa_lt, fa_le, fa_eq, Int32.reduceToInt] at *); omega)).symm, (if_neg (by (try simp only [b2i_eq0, b2i_ne0, decide_eq_true_eq] at *); (try simp only [cI, sI_setA, sI_setQ, sI_setR, sA_setI, sA_setR, sA_setQ, fa_lt, fa_le, fa_eq, Int32.reduceToInt] at *); omega)).symm⟩⟩
set_option maxHeartbeats 4000000 in
theorem c_X8_open {l : Launch} {G : va_G} {cy : Nat → ClassId} (a w : Int32) (S : HS) (h : ShF S) : Cn l G cy yX8_open cX8_open 3 (some .boolean) 1 [.ref 0, .int a, .int w] S 0 0 (qI (fun r S2 => r = b2i (0 ≤ a.toInt ∧ a.toInt < 36 ∧ ¬ (sA S 3 a.toNatClampNeg).toInt = w.toInt) ∧ S2 = if (0 ≤ a.toInt ∧ a.toInt < 36 ∧ ¬ (sA S 3 a.toNatClampNeg).toInt = w.toInt) then setA S 3 (upd (sA S 3) a.toNatClampNeg (vp_nar .boolean w)) else S)) := by
  refine Cn.of [some (.ref 0), some (.int a), some (.int w)] (by decide) rfl (Nat.le_of_ble_eq_true rfl) ?_
  refine r_iload_n dX8_open_0 rfl rfl ?_
  refine r_invS1i dX8_open_1 lm_X8_70 (c_X4_isCell _ _) (Nat.le_of_ble_eq_true rfl) (Nat.le_of_ble_eq_true rfl) (Nat.zero_le _) (Nat.zero_le _) (fun r1 S1 hq1 => ?_)
  obtain ⟨rfl, hz1⟩ := hq1
  replace hz1 := hz1.symm
  subst hz1
  refine r_if_eq 20 dX8_open_4 (by decide) (fun q4 => ?_) (fun q4 => ?_)
  · skip
    refine r_iconst (v := 0) dX8_open_20 (by decide) ?_
    exact r_zret dX8_open_21 rfl rfl (Nat.zero_le _) (Nat.zero_le _) ⟨_, rfl, by first | exact ⟨(b2i_t (by (try simp only [b2i_eq0, b2i_ne0, decide_eq_true_eq] at *); (try simp only [cI, sI_setA, sI_setQ, sI_setR, sA_setI, sA_setR, sA_setQ, fa_lt, fa_le, fa_eq, Int32.reduceToInt] at *); omega)).symm, (if_pos (by (try simp only [b2i_eq0, b2i_ne0, decide_eq_true_eq] at *); (try simp only [cI, sI_setA, sI_setQ, sI_setR, sA_setI, sA_setR, sA_setQ, fa_lt, fa_le, fa_eq, Int32.reduceToInt] at *); omega)).symm⟩ | exact ⟨(b2i_f (by (try simp only [b2i_eq0, b2i_ne0, decide_eq_true_eq] at *); (try simp only [cI, sI_setA, sI_setQ, sI_setR, sA_setI, sA_setR, sA_setQ, fa_lt, fa_le, fa_eq, Int32.reduceToInt] at *); omega)).symm, (if_neg (by (try simp only [b2i_eq0, b2i_ne0, decide_eq_true_eq] at *); (try simp only [cI, sI_setA, sI_setQ, sI_setR, sA_setI, sA_setR, sA_setQ, fa_lt, fa_le, fa_eq, Int32.reduceToInt] at *); omega)).symm⟩⟩
  · skip
    refine r_aload_n dX8_open_7 rfl rfl ?_
    refine r_getR dX8_open_8 lf_X8_12 rfl rfl (shR8_0 h) (shL_1 h) ?_
    refine r_getR dX8_open_11 lf_X8_82 rfl rfl (shR4_1 h) (shL_3 h) ?_
    refine r_iload_n dX8_open_14 rfl rfl ?_
    refine r_zald dX8_open_15 rfl (show vp_in _ 36 from vp_in_iff.mpr (by (try simp only [b2i_eq0, b2i_ne0, decide_eq_true_eq] at *); (try simp only [cI, sI_setA, sI_setQ, sI_setR, sA_setI, sA_setR, sA_setQ, fa_lt, fa_le, fa_eq, Int32.reduceToInt] at *); omega)) ?_
    refine r_iload_n dX8_open_16 rfl rfl ?_
    refine r_icmp_ne 22 dX8_open_17 (by decide) (fun q17 => ?_) (fun q17 => ?_)
    · skip
      refine r_aload_n dX8_open_22 rfl rfl ?_
      refine r_getR dX8_open_23 lf_X8_12 rfl rfl (shR8_0 h) (shL_1 h) ?_
      refine r_getR dX8_open_26 lf_X8_82 rfl rfl (shR4_1 h) (shL_3 h) ?_
      refine r_iload_n dX8_open_29 rfl rfl ?_
      refine r_iload_n dX8_open_30 rfl rfl ?_
      refine r_zast dX8_open_31 rfl (show vp_in _ 36 from vp_in_iff.mpr (by (try simp only [b2i_eq0, b2i_ne0, decide_eq_true_eq] at *); (try simp only [cI, sI_setA, sI_setQ, sI_setR, sA_setI, sA_setR, sA_setQ, fa_lt, fa_le, fa_eq, Int32.reduceToInt] at *); omega)) ?_
      refine r_iconst (v := 1) dX8_open_32 (by decide) ?_
      exact r_zret dX8_open_33 rfl rfl (Nat.zero_le _) (Nat.zero_le _) ⟨_, rfl, by first | exact ⟨(b2i_t (by (try simp only [b2i_eq0, b2i_ne0, decide_eq_true_eq] at *); (try simp only [cI, sI_setA, sI_setQ, sI_setR, sA_setI, sA_setR, sA_setQ, fa_lt, fa_le, fa_eq, Int32.reduceToInt] at *); omega)).symm, (if_pos (by (try simp only [b2i_eq0, b2i_ne0, decide_eq_true_eq] at *); (try simp only [cI, sI_setA, sI_setQ, sI_setR, sA_setI, sA_setR, sA_setQ, fa_lt, fa_le, fa_eq, Int32.reduceToInt] at *); omega)).symm⟩ | exact ⟨(b2i_f (by (try simp only [b2i_eq0, b2i_ne0, decide_eq_true_eq] at *); (try simp only [cI, sI_setA, sI_setQ, sI_setR, sA_setI, sA_setR, sA_setQ, fa_lt, fa_le, fa_eq, Int32.reduceToInt] at *); omega)).symm, (if_neg (by (try simp only [b2i_eq0, b2i_ne0, decide_eq_true_eq] at *); (try simp only [cI, sI_setA, sI_setQ, sI_setR, sA_setI, sA_setR, sA_setQ, fa_lt, fa_le, fa_eq, Int32.reduceToInt] at *); omega)).symm⟩⟩
    · skip
      refine r_iconst (v := 0) dX8_open_20 (by decide) ?_
      exact r_zret dX8_open_21 rfl rfl (Nat.zero_le _) (Nat.zero_le _) ⟨_, rfl, by first | exact ⟨(b2i_t (by (try simp only [b2i_eq0, b2i_ne0, decide_eq_true_eq] at *); (try simp only [cI, sI_setA, sI_setQ, sI_setR, sA_setI, sA_setR, sA_setQ, fa_lt, fa_le, fa_eq, Int32.reduceToInt] at *); omega)).symm, (if_pos (by (try simp only [b2i_eq0, b2i_ne0, decide_eq_true_eq] at *); (try simp only [cI, sI_setA, sI_setQ, sI_setR, sA_setI, sA_setR, sA_setQ, fa_lt, fa_le, fa_eq, Int32.reduceToInt] at *); omega)).symm⟩ | exact ⟨(b2i_f (by (try simp only [b2i_eq0, b2i_ne0, decide_eq_true_eq] at *); (try simp only [cI, sI_setA, sI_setQ, sI_setR, sA_setI, sA_setR, sA_setQ, fa_lt, fa_le, fa_eq, Int32.reduceToInt] at *); omega)).symm, (if_neg (by (try simp only [b2i_eq0, b2i_ne0, decide_eq_true_eq] at *); (try simp only [cI, sI_setA, sI_setQ, sI_setR, sA_setI, sA_setR, sA_setQ, fa_lt, fa_le, fa_eq, Int32.reduceToInt] at *); omega)).symm⟩⟩
set_option maxHeartbeats 4000000 in
theorem c_X8_drift {l : Launch} {G : va_G} {cy : Nat → ClassId} (a : Int32) (S : HS) (h : ShF S) : Cn l G cy yX8_drift cX8_drift 2 (some .boolean) 1 [.ref 0, .int a] S 0 0 (qI (fun r S2 => r = b2i (0 ≤ a.toInt ∧ a.toInt ≤ 4) ∧ S2 = if (0 ≤ a.toInt ∧ a.toInt ≤ 4) then setI S (fid 4 3) 1 a else S)) := by
  refine Cn.of [some (.ref 0), some (.int a)] (by decide) rfl (Nat.le_of_ble_eq_true rfl) ?_
  refine r_iload_n dX8_drift_0 rfl rfl ?_
  refine r_iconst (v := 0) dX8_drift_1 (by decide) ?_
  refine r_iconst (v := 4) dX8_drift_2 (by decide) ?_
  refine r_invS3i dX8_drift_3 lm_X8_74 (c_X8_isWithin _ _ _ _) (Nat.le_of_ble_eq_true rfl) (Nat.le_of_ble_eq_true rfl) (Nat.zero_le _) (Nat.zero_le _) (fun r3 S3 hq3 => ?_)
  obtain ⟨rfl, hz3⟩ := hq3
  replace hz3 := hz3.symm
  subst hz3
  refine r_if_ne 11 dX8_drift_6 (by decide) (fun q6 => ?_) (fun q6 => ?_)
  · skip
    refine r_aload_n dX8_drift_11 rfl rfl ?_
    refine r_getR dX8_drift_12 lf_X8_12 rfl rfl (shR8_0 h) (shL_1 h) ?_
    refine r_iload_n dX8_drift_15 rfl rfl ?_
    refine r_putI dX8_drift_16 (lp_X8_86 _) rfl rfl ?_
    refine r_iconst (v := 1) dX8_drift_19 (by decide) ?_
    exact r_zret dX8_drift_20 rfl rfl (Nat.zero_le _) (Nat.zero_le _) ⟨_, rfl, by first | exact ⟨(b2i_t (by (try simp only [b2i_eq0, b2i_ne0, decide_eq_true_eq] at *); (try simp only [cI, sI_setA, sI_setQ, sI_setR, sA_setI, sA_setR, sA_setQ, fa_lt, fa_le, fa_eq, Int32.reduceToInt] at *); omega)).symm, (if_pos (by (try simp only [b2i_eq0, b2i_ne0, decide_eq_true_eq] at *); (try simp only [cI, sI_setA, sI_setQ, sI_setR, sA_setI, sA_setR, sA_setQ, fa_lt, fa_le, fa_eq, Int32.reduceToInt] at *); omega)).symm⟩ | exact ⟨(b2i_f (by (try simp only [b2i_eq0, b2i_ne0, decide_eq_true_eq] at *); (try simp only [cI, sI_setA, sI_setQ, sI_setR, sA_setI, sA_setR, sA_setQ, fa_lt, fa_le, fa_eq, Int32.reduceToInt] at *); omega)).symm, (if_neg (by (try simp only [b2i_eq0, b2i_ne0, decide_eq_true_eq] at *); (try simp only [cI, sI_setA, sI_setQ, sI_setR, sA_setI, sA_setR, sA_setQ, fa_lt, fa_le, fa_eq, Int32.reduceToInt] at *); omega)).symm⟩⟩
  · skip
    refine r_iconst (v := 0) dX8_drift_9 (by decide) ?_
    exact r_zret dX8_drift_10 rfl rfl (Nat.zero_le _) (Nat.zero_le _) ⟨_, rfl, by first | exact ⟨(b2i_t (by (try simp only [b2i_eq0, b2i_ne0, decide_eq_true_eq] at *); (try simp only [cI, sI_setA, sI_setQ, sI_setR, sA_setI, sA_setR, sA_setQ, fa_lt, fa_le, fa_eq, Int32.reduceToInt] at *); omega)).symm, (if_pos (by (try simp only [b2i_eq0, b2i_ne0, decide_eq_true_eq] at *); (try simp only [cI, sI_setA, sI_setQ, sI_setR, sA_setI, sA_setR, sA_setQ, fa_lt, fa_le, fa_eq, Int32.reduceToInt] at *); omega)).symm⟩ | exact ⟨(b2i_f (by (try simp only [b2i_eq0, b2i_ne0, decide_eq_true_eq] at *); (try simp only [cI, sI_setA, sI_setQ, sI_setR, sA_setI, sA_setR, sA_setQ, fa_lt, fa_le, fa_eq, Int32.reduceToInt] at *); omega)).symm, (if_neg (by (try simp only [b2i_eq0, b2i_ne0, decide_eq_true_eq] at *); (try simp only [cI, sI_setA, sI_setQ, sI_setR, sA_setI, sA_setR, sA_setQ, fa_lt, fa_le, fa_eq, Int32.reduceToInt] at *); omega)).symm⟩⟩
set_option maxHeartbeats 4000000 in
theorem c_X8_soft {l : Launch} {G : va_G} {cy : Nat → ClassId} (a : Int32) (S : HS) (h : ShF S) : Cn l G cy yX8_soft cX8_soft 2 (some .boolean) 1 [.ref 0, .int a] S 0 0 (qI (fun r S2 => r = b2i (0 ≤ a.toInt ∧ a.toInt ≤ 2000) ∧ S2 = if (0 ≤ a.toInt ∧ a.toInt ≤ 2000) then setI S (fid 8 13) 0 a else S)) := by
  refine Cn.of [some (.ref 0), some (.int a)] (by decide) rfl (Nat.le_of_ble_eq_true rfl) ?_
  refine r_iload_n dX8_soft_0 rfl rfl ?_
  refine r_iconst (v := 0) dX8_soft_1 (by decide) ?_
  refine r_sipush (v := 2000) dX8_soft_2 (by decide) ?_
  refine r_invS3i dX8_soft_5 lm_X8_74 (c_X8_isWithin _ _ _ _) (Nat.le_of_ble_eq_true rfl) (Nat.le_of_ble_eq_true rfl) (Nat.zero_le _) (Nat.zero_le _) (fun r5 S5 hq5 => ?_)
  obtain ⟨rfl, hz5⟩ := hq5
  replace hz5 := hz5.symm
  subst hz5
  refine r_if_ne 13 dX8_soft_8 (by decide) (fun q8 => ?_) (fun q8 => ?_)
  · skip
    refine r_aload_n dX8_soft_13 rfl rfl ?_
    refine r_iload_n dX8_soft_14 rfl rfl ?_
    refine r_putI dX8_soft_15 (lp_X8_66 _) rfl rfl ?_
    refine r_iconst (v := 1) dX8_soft_18 (by decide) ?_
    exact r_zret dX8_soft_19 rfl rfl (Nat.zero_le _) (Nat.zero_le _) ⟨_, rfl, by first | exact ⟨(b2i_t (by (try simp only [b2i_eq0, b2i_ne0, decide_eq_true_eq] at *); (try simp only [cI, sI_setA, sI_setQ, sI_setR, sA_setI, sA_setR, sA_setQ, fa_lt, fa_le, fa_eq, Int32.reduceToInt] at *); omega)).symm, (if_pos (by (try simp only [b2i_eq0, b2i_ne0, decide_eq_true_eq] at *); (try simp only [cI, sI_setA, sI_setQ, sI_setR, sA_setI, sA_setR, sA_setQ, fa_lt, fa_le, fa_eq, Int32.reduceToInt] at *); omega)).symm⟩ | exact ⟨(b2i_f (by (try simp only [b2i_eq0, b2i_ne0, decide_eq_true_eq] at *); (try simp only [cI, sI_setA, sI_setQ, sI_setR, sA_setI, sA_setR, sA_setQ, fa_lt, fa_le, fa_eq, Int32.reduceToInt] at *); omega)).symm, (if_neg (by (try simp only [b2i_eq0, b2i_ne0, decide_eq_true_eq] at *); (try simp only [cI, sI_setA, sI_setQ, sI_setR, sA_setI, sA_setR, sA_setQ, fa_lt, fa_le, fa_eq, Int32.reduceToInt] at *); omega)).symm⟩⟩
  · skip
    refine r_iconst (v := 0) dX8_soft_11 (by decide) ?_
    exact r_zret dX8_soft_12 rfl rfl (Nat.zero_le _) (Nat.zero_le _) ⟨_, rfl, by first | exact ⟨(b2i_t (by (try simp only [b2i_eq0, b2i_ne0, decide_eq_true_eq] at *); (try simp only [cI, sI_setA, sI_setQ, sI_setR, sA_setI, sA_setR, sA_setQ, fa_lt, fa_le, fa_eq, Int32.reduceToInt] at *); omega)).symm, (if_pos (by (try simp only [b2i_eq0, b2i_ne0, decide_eq_true_eq] at *); (try simp only [cI, sI_setA, sI_setQ, sI_setR, sA_setI, sA_setR, sA_setQ, fa_lt, fa_le, fa_eq, Int32.reduceToInt] at *); omega)).symm⟩ | exact ⟨(b2i_f (by (try simp only [b2i_eq0, b2i_ne0, decide_eq_true_eq] at *); (try simp only [cI, sI_setA, sI_setQ, sI_setR, sA_setI, sA_setR, sA_setQ, fa_lt, fa_le, fa_eq, Int32.reduceToInt] at *); omega)).symm, (if_neg (by (try simp only [b2i_eq0, b2i_ne0, decide_eq_true_eq] at *); (try simp only [cI, sI_setA, sI_setQ, sI_setR, sA_setI, sA_setR, sA_setQ, fa_lt, fa_le, fa_eq, Int32.reduceToInt] at *); omega)).symm⟩⟩
set_option maxHeartbeats 4000000 in
theorem c_X8_end {l : Launch} {G : va_G} {cy : Nat → ClassId} (a : Int32) (S : HS) (h : ShF S) : Cn l G cy yX8_end cX8_end 2 (some .boolean) 1 [.ref 0, .int a] S 0 0 (qI (fun r S2 => r = b2i (0 ≤ a.toInt ∧ a.toInt ≤ (sI S (fid 5 1) 8).toInt) ∧ S2 = if (0 ≤ a.toInt ∧ a.toInt ≤ (sI S (fid 5 1) 8).toInt) then setI S (fid 5 1) 8 a else S)) := by
  refine Cn.of [some (.ref 0), some (.int a)] (by decide) rfl (Nat.le_of_ble_eq_true rfl) ?_
  refine r_iload_n dX8_end_0 rfl rfl ?_
  refine r_iconst (v := 0) dX8_end_1 (by decide) ?_
  refine r_aload_n dX8_end_2 rfl rfl ?_
  refine r_getR dX8_end_3 lf_X8_37 rfl rfl (shR8_4 h) (shL_8 h) ?_
  refine r_getI dX8_end_6 lf_X8_145 rfl (by first | assumption | rfl) ?_
  refine r_invS3i dX8_end_9 lm_X8_74 (c_X8_isWithin _ _ _ _) (Nat.le_of_ble_eq_true rfl) (Nat.le_of_ble_eq_true rfl) (Nat.zero_le _) (Nat.zero_le _) (fun r9 S9 hq9 => ?_)
  obtain ⟨rfl, hz9⟩ := hq9
  replace hz9 := hz9.symm
  subst hz9
  refine r_if_ne 17 dX8_end_12 (by decide) (fun q12 => ?_) (fun q12 => ?_)
  · skip
    refine r_aload_n dX8_end_17 rfl rfl ?_
    refine r_getR dX8_end_18 lf_X8_37 rfl rfl (shR8_4 h) (shL_8 h) ?_
    refine r_iload_n dX8_end_21 rfl rfl ?_
    refine r_putI dX8_end_22 (lp_X8_145 _) rfl (by first | assumption | rfl) ?_
    refine r_iconst (v := 1) dX8_end_25 (by decide) ?_
    exact r_zret dX8_end_26 rfl rfl (Nat.zero_le _) (Nat.zero_le _) ⟨_, rfl, by first | exact ⟨(b2i_t (by (try simp only [b2i_eq0, b2i_ne0, decide_eq_true_eq] at *); (try simp only [cI, sI_setA, sI_setQ, sI_setR, sA_setI, sA_setR, sA_setQ, fa_lt, fa_le, fa_eq, Int32.reduceToInt] at *); omega)).symm, (if_pos (by (try simp only [b2i_eq0, b2i_ne0, decide_eq_true_eq] at *); (try simp only [cI, sI_setA, sI_setQ, sI_setR, sA_setI, sA_setR, sA_setQ, fa_lt, fa_le, fa_eq, Int32.reduceToInt] at *); omega)).symm⟩ | exact ⟨(b2i_f (by (try simp only [b2i_eq0, b2i_ne0, decide_eq_true_eq] at *); (try simp only [cI, sI_setA, sI_setQ, sI_setR, sA_setI, sA_setR, sA_setQ, fa_lt, fa_le, fa_eq, Int32.reduceToInt] at *); omega)).symm, (if_neg (by (try simp only [b2i_eq0, b2i_ne0, decide_eq_true_eq] at *); (try simp only [cI, sI_setA, sI_setQ, sI_setR, sA_setI, sA_setR, sA_setQ, fa_lt, fa_le, fa_eq, Int32.reduceToInt] at *); omega)).symm⟩⟩
  · skip
    refine r_iconst (v := 0) dX8_end_15 (by decide) ?_
    exact r_zret dX8_end_16 rfl rfl (Nat.zero_le _) (Nat.zero_le _) ⟨_, rfl, by first | exact ⟨(b2i_t (by (try simp only [b2i_eq0, b2i_ne0, decide_eq_true_eq] at *); (try simp only [cI, sI_setA, sI_setQ, sI_setR, sA_setI, sA_setR, sA_setQ, fa_lt, fa_le, fa_eq, Int32.reduceToInt] at *); omega)).symm, (if_pos (by (try simp only [b2i_eq0, b2i_ne0, decide_eq_true_eq] at *); (try simp only [cI, sI_setA, sI_setQ, sI_setR, sA_setI, sA_setR, sA_setQ, fa_lt, fa_le, fa_eq, Int32.reduceToInt] at *); omega)).symm⟩ | exact ⟨(b2i_f (by (try simp only [b2i_eq0, b2i_ne0, decide_eq_true_eq] at *); (try simp only [cI, sI_setA, sI_setQ, sI_setR, sA_setI, sA_setR, sA_setQ, fa_lt, fa_le, fa_eq, Int32.reduceToInt] at *); omega)).symm, (if_neg (by (try simp only [b2i_eq0, b2i_ne0, decide_eq_true_eq] at *); (try simp only [cI, sI_setA, sI_setQ, sI_setR, sA_setI, sA_setR, sA_setQ, fa_lt, fa_le, fa_eq, Int32.reduceToInt] at *); omega)).symm⟩⟩
set_option maxHeartbeats 4000000 in
theorem c_X8_go {l : Launch} {G : va_G} {cy : Nat → ClassId} (a w : Int32) (S : HS) (h : ShC S) : Cn l G cy yX8_go cX8_go 4 (some .boolean) 2 [.ref 0, .int a, .int w] S 0 0 (qI (fun r S2 => r = b2i (0 ≤ a.toInt ∧ a.toInt < (cI S 9).toInt ∧ -1 ≤ w.toInt ∧ w.toInt ≤ 35) ∧ S2 = if (0 ≤ a.toInt ∧ a.toInt < (cI S 9).toInt ∧ -1 ≤ w.toInt ∧ w.toInt ≤ 35) then setI S (fid 0 3) (100 + 3 * nn a) w else S)) := by
  refine Cn.of [some (.ref 0), some (.int a), some (.int w), none] (by decide) rfl (Nat.le_of_ble_eq_true rfl) ?_
  refine r_aload_n dX8_go_0 rfl rfl ?_
  refine r_iload_n dX8_go_1 rfl rfl ?_
  refine r_invV1r dX8_go_2 lm_X8_95 rfl (c_X8_boatAt _ _ h) (Nat.le_of_ble_eq_true rfl) (Nat.le_of_ble_eq_true rfl) (Nat.zero_le _) (Nat.zero_le _) (fun r2 S2 hq2 => ?_)
  obtain ⟨rfl, hz2⟩ := hq2
  replace hz2 := hz2.symm
  subst hz2
  by_cases hc2 : 0 ≤ a.toInt ∧ a.toInt < (cI S 9).toInt
  · rw [if_pos (α := Option Nat) hc2]
    have hbb := h.b
    have hlt : nn a < 12 := by unfold nn; omega
    have hlb : nn a < nn (cI S 9) := by unfold nn; omega
    have hkb := tkB hlt
    refine r_ast3 dX8_go_5 (Nat.le_of_ble_eq_true rfl) rfl ?_
    refine r_aload_n dX8_go_6 rfl rfl ?_
    refine r_ifnull dX8_go_7 ?_
    refine r_iload_n dX8_go_10 rfl rfl ?_
    refine r_iconst (v := (-1)) dX8_go_11 (by decide) ?_
    refine r_icmp_eq 24 dX8_go_12 (by decide) (fun q12 => ?_) (fun q12 => ?_)
    · skip
      refine r_aload_n dX8_go_24 rfl rfl ?_
      refine r_iload_n dX8_go_25 rfl rfl ?_
      refine r_putI dX8_go_26 (lp_X8_99 _) rfl (by first | assumption | rfl) ?_
      refine r_iconst (v := 1) dX8_go_29 (by decide) ?_
      exact r_zret dX8_go_30 rfl rfl (Nat.zero_le _) (Nat.zero_le _) ⟨_, rfl, by first | exact ⟨(b2i_t (by (try simp only [b2i_eq0, b2i_ne0, decide_eq_true_eq] at *); (try simp only [cI, sI_setA, sI_setQ, sI_setR, sA_setI, sA_setR, sA_setQ, fa_lt, fa_le, fa_eq, Int32.reduceToInt] at *); omega)).symm, (if_pos (by (try simp only [b2i_eq0, b2i_ne0, decide_eq_true_eq] at *); (try simp only [cI, sI_setA, sI_setQ, sI_setR, sA_setI, sA_setR, sA_setQ, fa_lt, fa_le, fa_eq, Int32.reduceToInt] at *); omega)).symm⟩ | exact ⟨(b2i_f (by (try simp only [b2i_eq0, b2i_ne0, decide_eq_true_eq] at *); (try simp only [cI, sI_setA, sI_setQ, sI_setR, sA_setI, sA_setR, sA_setQ, fa_lt, fa_le, fa_eq, Int32.reduceToInt] at *); omega)).symm, (if_neg (by (try simp only [b2i_eq0, b2i_ne0, decide_eq_true_eq] at *); (try simp only [cI, sI_setA, sI_setQ, sI_setR, sA_setI, sA_setR, sA_setQ, fa_lt, fa_le, fa_eq, Int32.reduceToInt] at *); omega)).symm⟩⟩
    · skip
      refine r_iload_n dX8_go_15 rfl rfl ?_
      refine r_invS1i dX8_go_16 lm_X8_70 (c_X4_isCell _ _) (Nat.le_of_ble_eq_true rfl) (Nat.le_of_ble_eq_true rfl) (Nat.zero_le _) (Nat.zero_le _) (fun r16 S16 hq16 => ?_)
      obtain ⟨rfl, hz16⟩ := hq16
      replace hz16 := hz16.symm
      subst hz16
      refine r_if_ne 24 dX8_go_19 (by decide) (fun q19 => ?_) (fun q19 => ?_)
      · skip
        refine r_aload_n dX8_go_24 rfl rfl ?_
        refine r_iload_n dX8_go_25 rfl rfl ?_
        refine r_putI dX8_go_26 (lp_X8_99 _) rfl (by first | assumption | rfl) ?_
        refine r_iconst (v := 1) dX8_go_29 (by decide) ?_
        exact r_zret dX8_go_30 rfl rfl (Nat.zero_le _) (Nat.zero_le _) ⟨_, rfl, by first | exact ⟨(b2i_t (by (try simp only [b2i_eq0, b2i_ne0, decide_eq_true_eq] at *); (try simp only [cI, sI_setA, sI_setQ, sI_setR, sA_setI, sA_setR, sA_setQ, fa_lt, fa_le, fa_eq, Int32.reduceToInt] at *); omega)).symm, (if_pos (by (try simp only [b2i_eq0, b2i_ne0, decide_eq_true_eq] at *); (try simp only [cI, sI_setA, sI_setQ, sI_setR, sA_setI, sA_setR, sA_setQ, fa_lt, fa_le, fa_eq, Int32.reduceToInt] at *); omega)).symm⟩ | exact ⟨(b2i_f (by (try simp only [b2i_eq0, b2i_ne0, decide_eq_true_eq] at *); (try simp only [cI, sI_setA, sI_setQ, sI_setR, sA_setI, sA_setR, sA_setQ, fa_lt, fa_le, fa_eq, Int32.reduceToInt] at *); omega)).symm, (if_neg (by (try simp only [b2i_eq0, b2i_ne0, decide_eq_true_eq] at *); (try simp only [cI, sI_setA, sI_setQ, sI_setR, sA_setI, sA_setR, sA_setQ, fa_lt, fa_le, fa_eq, Int32.reduceToInt] at *); omega)).symm⟩⟩
      · skip
        refine r_iconst (v := 0) dX8_go_22 (by decide) ?_
        exact r_zret dX8_go_23 rfl rfl (Nat.zero_le _) (Nat.zero_le _) ⟨_, rfl, by first | exact ⟨(b2i_t (by (try simp only [b2i_eq0, b2i_ne0, decide_eq_true_eq] at *); (try simp only [cI, sI_setA, sI_setQ, sI_setR, sA_setI, sA_setR, sA_setQ, fa_lt, fa_le, fa_eq, Int32.reduceToInt] at *); omega)).symm, (if_pos (by (try simp only [b2i_eq0, b2i_ne0, decide_eq_true_eq] at *); (try simp only [cI, sI_setA, sI_setQ, sI_setR, sA_setI, sA_setR, sA_setQ, fa_lt, fa_le, fa_eq, Int32.reduceToInt] at *); omega)).symm⟩ | exact ⟨(b2i_f (by (try simp only [b2i_eq0, b2i_ne0, decide_eq_true_eq] at *); (try simp only [cI, sI_setA, sI_setQ, sI_setR, sA_setI, sA_setR, sA_setQ, fa_lt, fa_le, fa_eq, Int32.reduceToInt] at *); omega)).symm, (if_neg (by (try simp only [b2i_eq0, b2i_ne0, decide_eq_true_eq] at *); (try simp only [cI, sI_setA, sI_setQ, sI_setR, sA_setI, sA_setR, sA_setQ, fa_lt, fa_le, fa_eq, Int32.reduceToInt] at *); omega)).symm⟩⟩
  · rw [if_neg (α := Option Nat) hc2]
    have hbb := h.b
    refine r_ast3N dX8_go_5 (Nat.le_of_ble_eq_true rfl) rfl ?_
    refine r_aload_nN dX8_go_6 rfl rfl ?_
    refine r_ifnullN 22 dX8_go_7 (by decide) ?_
    refine r_iconst (v := 0) dX8_go_22 (by decide) ?_
    exact r_zret dX8_go_23 rfl rfl (Nat.zero_le _) (Nat.zero_le _) ⟨_, rfl, by first | exact ⟨(b2i_t (by (try simp only [b2i_eq0, b2i_ne0, decide_eq_true_eq] at *); (try simp only [cI, sI_setA, sI_setQ, sI_setR, sA_setI, sA_setR, sA_setQ, fa_lt, fa_le, fa_eq, Int32.reduceToInt] at *); omega)).symm, (if_pos (by (try simp only [b2i_eq0, b2i_ne0, decide_eq_true_eq] at *); (try simp only [cI, sI_setA, sI_setQ, sI_setR, sA_setI, sA_setR, sA_setQ, fa_lt, fa_le, fa_eq, Int32.reduceToInt] at *); omega)).symm⟩ | exact ⟨(b2i_f (by (try simp only [b2i_eq0, b2i_ne0, decide_eq_true_eq] at *); (try simp only [cI, sI_setA, sI_setQ, sI_setR, sA_setI, sA_setR, sA_setQ, fa_lt, fa_le, fa_eq, Int32.reduceToInt] at *); omega)).symm, (if_neg (by (try simp only [b2i_eq0, b2i_ne0, decide_eq_true_eq] at *); (try simp only [cI, sI_setA, sI_setQ, sI_setR, sA_setI, sA_setR, sA_setQ, fa_lt, fa_le, fa_eq, Int32.reduceToInt] at *); omega)).symm⟩⟩
