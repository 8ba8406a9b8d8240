/-! ===== the relation between a system's heap S and a reference's heap T ===== -/
/-- one code read: the heap's hsN over any row of codes and any measures -/
def cdN (C : Nat → Int32) (v : Int32 → Int32) (s : HT) : HT := if C s.1 = 0 then (s.1 + 4, s.2.1 + 1, upd s.2.2 s.2.1 (cmM (C (s.1 + 2)) (v (C (s.1 + 1))) (C (s.1 + 3)))) else (s.1 + 1, s.2.1 - 1, upd s.2.2 (s.2.1 - 2) (if C s.1 = 1 then b2i (¬ s.2.2 (s.2.1 - 2) = 0 ∧ ¬ s.2.2 (s.2.1 - 1) = 0) else b2i (¬ s.2.2 (s.2.1 - 2) = 0 ∨ ¬ s.2.2 (s.2.1 - 1) = 0)))
def cdI (C : Nat → Int32) (v : Int32 → Int32) (p : Nat → Int32) : Nat → HT
  | 0 => (0, 0, p)
  | i + 1 => cdN C v (cdI C v p i)
def cOk (C : Nat → Int32) (s : HT) : Prop := s.1 + 3 < 420 ∧ ¬ C s.1 = 3 ∧ (C s.1 = 0 → s.2.1 < 420) ∧ (¬ C s.1 = 0 → 2 ≤ s.2.1 ∧ s.2.1 ≤ 420)
def cEn (C : Nat → Int32) (v : Int32 → Int32) (p : Nat → Int32) (N : Nat) : Prop := (∀ i, i < N → cOk C (cdI C v p i)) ∧ (cdI C v p N).1 < 420 ∧ C (cdI C v p N).1 = 3 ∧ ((cdI C v p N).2.2 0 = 0 ∨ (cdI C v p N).2.2 0 = 1)
/-- brand b's codes alone -/
def msk (C : Nat → Int32) (b : Nat) : Nat → Int32 := fun k => if k < 420 then C (420 * b + k) else 0
/-- a text and a row of codes say the same of every lot -/
def TxC (row : Nat → Int32) (len : Nat) (C : Nat → Int32) : Prop := ∀ (m v : Int32 → Int32), (m 99 = v 0 ∧ m 115 = v 1 ∧ m 119 = v 2 ∧ m 97 = v 3 ∧ m 112 = v 4) → ∀ (s n : Int32) (p : Nat → Int32), ∃ N, cEn C v p N ∧ ((vPart (vEnd m (vRun m row (0, 1, 0, s, n) len))).1 &&& 1 = 1 ↔ ¬ (cdI C v p N).2.2 0 = 0)
def lr (k : Nat) : Nat := [13, 14, 15, 16, 17, 20, 21, 18, 19, 22, 23].getD k 0
theorem lr_in : ∀ k, k < 11 → 13 ≤ lr k ∧ lr k ≤ 23 := by decide
def SmN (S T : HS) : Prop := cI S 9 = mI T 25 ∧ cI S 10 = mI T 26 ∧ cI S 11 = mI T 27 ∧ cI S 12 = mI T 24 ∧ cI S 13 = mI T 29 ∧ cI S 14 = mI T 30 ∧ cI S 15 = mI T 31 ∧ cI S 16 = mI T 32 ∧ cI S 17 = mI T 34 ∧ sI S (fid 4 3) 1 = mI T 28 ∧ sI S (fid 4 4) 1 = mI T 33 ∧ sI S (fid 5 1) 8 = mI T 47
def SmC (S T : HS) : Prop := ∀ j, j < 36 → sA S 2 j = mA T 0 j ∧ sA S 3 j = mA T 1 j
def SmB (S T : HS) : Prop := ∀ i, i < 12 → i < nn (mI T 25) → ∀ k, 2 ≤ k → k ≤ 7 → sI S (fid 0 k) (100 + 3 * i) = mA T k i
def SmP (S T : HS) : Prop := ∀ i, i < 12 → i < nn (mI T 25) → ∀ h, h < 8 → sA S (101 + 3 * i) h = mA T 8 (8 * i + h) ∧ sA S (102 + 3 * i) h = mA T 9 (8 * i + h)
def SmY (S T : HS) : Prop := ∀ i, i < 4 → i < nn (mI T 26) → ∀ k, 1 ≤ k → k ≤ 3 → sI S (fid 7 k) (200 + 2 * i) = mA T (9 + k) i
def SmL (S T : HS) : Prop := ∀ q, q < 400 → q < nn (mI T 27) → ∀ k, k < 11 → sI S (fid 2 k) (1000 + q) = mA T (lr k) q
def SmT (S T : HS) : Prop := ∀ j, j < nn (mI T 47) → sA S 9 j = mA T 43 j ∧ ¬ mA T 43 j = -1
def SmR (S T : HS) : Prop := ∀ b, b < 4 → (sQ S 10 b = none ∧ mA T 46 b = 0) ∨ (sQ S 10 b = some (300 + 2 * b) ∧ ¬ mA T 46 b = 0 ∧ TxC (sA S (301 + 2 * b)) (nn (sI S (fid 5 1) (300 + 2 * b))) (msk (mA T 44) b))
def RgN (T : HS) : Prop := (0 ≤ (mI T 25).toInt ∧ (mI T 25).toInt ≤ 12) ∧ (0 ≤ (mI T 26).toInt ∧ (mI T 26).toInt ≤ 4) ∧ (0 ≤ (mI T 27).toInt ∧ (mI T 27).toInt ≤ 400) ∧ (0 ≤ (mI T 24).toInt ∧ (mI T 24).toInt ≤ 300) ∧ (0 ≤ (mI T 28).toInt ∧ (mI T 28).toInt ≤ 4) ∧ (0 ≤ (mI T 29).toInt ∧ (mI T 29).toInt ≤ 2000) ∧ (0 ≤ (mI T 47).toInt ∧ (mI T 47).toInt ≤ 200)
def RgC (T : HS) : Prop := ∀ j, j < 36 → (0 ≤ (mA T 0 j).toInt ∧ (mA T 0 j).toInt ≤ 10000) ∧ (mA T 1 j = 0 ∨ mA T 1 j = 1)
def RgB (T : HS) : Prop := ∀ i, i < 12 → (0 ≤ (mA T 2 i).toInt ∧ (mA T 2 i).toInt ≤ 60) ∧ (-1 ≤ (mA T 3 i).toInt ∧ (mA T 3 i).toInt ≤ 35) ∧ (0 ≤ (mA T 6 i).toInt ∧ (mA T 6 i).toInt ≤ 50000 * (mI T 27).toInt) ∧ (nn (mI T 25) ≤ i → ∀ k, 4 ≤ k → k ≤ 7 → mA T k i = 0)
def RgP (T : HS) : Prop := ∀ i, i < 12 → ∀ h, h < 8 → (0 ≤ (mA T 8 (8 * i + h)).toInt ∧ (mA T 8 (8 * i + h)).toInt ≤ 100) ∧ (nn (mI T 25) ≤ i → mA T 8 (8 * i + h) = 0 ∧ mA T 9 (8 * i + h) = 0)
def RgY (T : HS) : Prop := ∀ y, y < 4 → (0 ≤ (mA T 12 y).toInt ∧ (mA T 12 y).toInt ≤ 100) ∧ (y < nn (mI T 26) → (1 ≤ (mA T 10 y).toInt ∧ (mA T 10 y).toInt ≤ 6) ∧ 1 ≤ (mA T 11 y).toInt ∧ (mA T 11 y).toInt ≤ 500) ∧ (nn (mI T 26) ≤ y → mA T 12 y = 0)
def RgL (T : HS) : Prop := ∀ q, q < 400 → (q < nn (mI T 27) → (0 ≤ (mA T 16 q).toInt ∧ (mA T 16 q).toInt < (mI T 26).toInt) ∧ 0 ≤ (mA T 17 q).toInt) ∧ (nn (mI T 27) ≤ q → mA T 18 q = 0 ∧ mA T 19 q = 0 ∧ mA T 22 q = 0 ∧ mA T 23 q = 0)
/-- the reference's heap alone -/
def Rg (T : HS) : Prop := ShM T ∧ RgN T ∧ RgC T ∧ RgB T ∧ RgP T ∧ RgY T ∧ RgL T
def Sim (S T : HS) : Prop := ShC S ∧ TxL S ∧ Rg T ∧ SmN S T ∧ SmC S T ∧ SmB S T ∧ SmP S T ∧ SmY S T ∧ SmL S T ∧ SmT S T ∧ SmR S T
/-! what a group rests on -/
theorem SmC.cg {S T S2 T2 : HS} (h : SmC S T) (h1 : ∀ j, j < 36 → sA S2 2 j = sA S 2 j ∧ sA S2 3 j = sA S 3 j) (h2 : ∀ k, k ≤ 1 → mA T2 k = mA T k) : SmC S2 T2 := fun j hj => by
  rw [(h1 j hj).1, (h1 j hj).2, h2 0 (by omega), h2 1 (by omega)]; exact h j hj
theorem SmB.cg {S T S2 T2 : HS} (h : SmB S T) (h1 : ∀ i, i < 12 → ∀ k, 2 ≤ k → k ≤ 7 → sI S2 (fid 0 k) (100 + 3 * i) = sI S (fid 0 k) (100 + 3 * i)) (h2 : ∀ k, 2 ≤ k → k ≤ 7 → mA T2 k = mA T k) (h3 : mI T2 25 = mI T 25) : SmB S2 T2 := fun i hi hn k hk hk2 => by
  rw [h1 i hi k hk hk2, h2 k hk hk2]; rw [h3] at hn; exact h i hi hn k hk hk2
theorem SmP.cg {S T S2 T2 : HS} (h : SmP S T) (h1 : ∀ i, i < 12 → sA S2 (101 + 3 * i) = sA S (101 + 3 * i) ∧ sA S2 (102 + 3 * i) = sA S (102 + 3 * i)) (h2 : ∀ k, 8 ≤ k → k ≤ 9 → mA T2 k = mA T k) (h3 : mI T2 25 = mI T 25) : SmP S2 T2 := fun i hi hn x hx => by
  rw [(h1 i hi).1, (h1 i hi).2, h2 8 (by omega) (by omega), h2 9 (by omega) (by omega)]; rw [h3] at hn; exact h i hi hn x hx
theorem SmY.cg {S T S2 T2 : HS} (h : SmY S T) (h1 : ∀ i, i < 4 → ∀ k, 1 ≤ k → k ≤ 3 → sI S2 (fid 7 k) (200 + 2 * i) = sI S (fid 7 k) (200 + 2 * i)) (h2 : ∀ k, 10 ≤ k → k ≤ 12 → mA T2 k = mA T k) (h3 : mI T2 26 = mI T 26) : SmY S2 T2 := fun i hi hn k hk hk2 => by
  rw [h1 i hi k hk hk2, h2 (9 + k) (by omega) (by omega)]; rw [h3] at hn; exact h i hi hn k hk hk2
theorem SmL.cg {S T S2 T2 : HS} (h : SmL S T) (h1 : ∀ q, q < 400 → ∀ k, k < 11 → sI S2 (fid 2 k) (1000 + q) = sI S (fid 2 k) (1000 + q)) (h2 : ∀ k, 13 ≤ k → k ≤ 23 → mA T2 k = mA T k) (h3 : mI T2 27 = mI T 27) : SmL S2 T2 := fun q hq hn k hk => by
  rw [h1 q hq k hk, h2 (lr k) (lr_in k hk).1 (lr_in k hk).2]; rw [h3] at hn; exact h q hq hn k hk
theorem SmT.cg {S T S2 T2 : HS} (h : SmT S T) (h1 : sA S2 9 = sA S 9) (h2 : mA T2 43 = mA T 43) (h3 : mI T2 47 = mI T 47) : SmT S2 T2 := fun j hj => by
  rw [h1, h2]; rw [h3] at hj; exact h j hj
theorem SmR.cg {S T S2 T2 : HS} (h : SmR S T) (h1 : sQ S2 10 = sQ S 10) (h2 : ∀ b, b < 4 → sA S2 (301 + 2 * b) = sA S (301 + 2 * b) ∧ sI S2 (fid 5 1) (300 + 2 * b) = sI S (fid 5 1) (300 + 2 * b)) (h3 : mA T2 44 = mA T 44) (h4 : mA T2 46 = mA T 46) : SmR S2 T2 := fun b hb => by
  rw [h1, (h2 b hb).1, (h2 b hb).2, h3, h4]; exact h b hb
theorem RgC.cg {T T2 : HS} (h : RgC T) (h2 : ∀ k, k ≤ 1 → mA T2 k = mA T k) : RgC T2 := fun j hj => by
  rw [h2 0 (by omega), h2 1 (by omega)]; exact h j hj
theorem RgB.cg {T T2 : HS} (h : RgB T) (h2 : ∀ k, 2 ≤ k → k ≤ 7 → mA T2 k = mA T k) (h3 : mI T2 25 = mI T 25) (h4 : mI T2 27 = mI T 27) : RgB T2 := fun i hi => by
  rw [h2 2 (by omega) (by omega), h2 3 (by omega) (by omega), h2 6 (by omega) (by omega), h3, h4]
  obtain ⟨a, b, c, d⟩ := h i hi
  exact ⟨a, b, c, fun z k k1 k2 => by rw [h2 k (by omega) k2]; exact d z k k1 k2⟩
theorem RgP.cg {T T2 : HS} (h : RgP T) (h2 : ∀ k, 8 ≤ k → k ≤ 9 → mA T2 k = mA T k) (h3 : mI T2 25 = mI T 25) : RgP T2 := fun i hi x hx => by
  rw [h2 8 (by omega) (by omega), h2 9 (by omega) (by omega), h3]; exact h i hi x hx
theorem RgY.cg {T T2 : HS} (h : RgY T) (h2 : ∀ k, 10 ≤ k → k ≤ 12 → mA T2 k = mA T k) (h3 : mI T2 26 = mI T 26) : RgY T2 := fun y hy => by
  rw [h2 10 (by omega) (by omega), h2 11 (by omega) (by omega), h2 12 (by omega) (by omega), h3]; exact h y hy
theorem RgL.cg {T T2 : HS} (h : RgL T) (h2 : ∀ k, 13 ≤ k → k ≤ 23 → mA T2 k = mA T k) (h3 : mI T2 26 = mI T 26) (h4 : mI T2 27 = mI T 27) : RgL T2 := fun q hq => by
  rw [h2 16 (by omega) (by omega), h2 17 (by omega) (by omega), h2 18 (by omega) (by omega), h2 19 (by omega) (by omega), h2 22 (by omega) (by omega), h2 23 (by omega) (by omega), h3, h4]; exact h q hq
/-! what the contracts want -/
theorem Sim.c {S T : HS} (h : Sim S T) : ShC S := h.1
theorem Sim.m {S T : HS} (h : Sim S T) : ShM T := h.2.2.1.1
theorem Sim.rn {S T : HS} (h : Sim S T) : RgN T := h.2.2.1.2.1
theorem Sim.n {S T : HS} (h : Sim S T) : SmN S T := h.2.2.2.1
theorem Sim.invG {S T : HS} (h : Sim S T) : InvG S := by
  obtain ⟨h1, h2, ⟨g0, gN, gC, gB, gP, gY, gL⟩, hN, hC, hB, hP, hY, hL, hT, hR⟩ := h
  unfold InvG
  rw [hN.2.1, hN.2.2.1]
  have b1 := gN.2.1
  have b2 := gN.2.2.1
  refine ⟨fun j hj => ?_, fun k hk => ?_⟩
  · have hj4 : j < 4 := by unfold nn at hj; omega
    rw [hY j hj4 hj 1 (by omega) (by omega)]
    exact ((gY j hj4).2.1 hj).1
  · have hk4 : k < 400 := by unfold nn at hk; omega
    rw [hL k hk4 hk 3 (by omega), hL k hk4 hk 4 (by omega)]
    exact (gL k hk4).1 hk
