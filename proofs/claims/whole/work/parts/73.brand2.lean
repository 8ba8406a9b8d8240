/-! ===== brand ===== -/
theorem brX_v {S : HS} {i : Nat} (h : ShC S) (hi : i < 4) : ShC (brX S i) ∧ (∀ f a, a ≠ 300 + 2 * i → sI (brX S i) f a = sI S f a) ∧ (∀ t, t ≠ 301 + 2 * i → sA (brX S i) t = sA S t) ∧ ∀ b, sQ (brX S i) 10 b = if b = i then some (300 + 2 * i) else sQ S 10 b := by
  have h10 := h.2.2.2.2.2.2.2.2.1 i hi
  unfold brX
  cases e : sQ S 10 i with
  | none =>
    refine ⟨mkT_sh h hi e, fun f a ha => mkT_I ha, fun t ht => ?_, fun b => ?_⟩
    · unfold mkT
      rw [sA_setQ, sA_setR, sA_newA, va_up_ne _ _ ht, sA_newO]
    · unfold mkT
      rw [sQ_setQ]
      simp only [va_up]
      rfl
  | some x =>
    rw [e] at h10
    rcases h10 with q | q
    · cases q
    · refine ⟨h, fun _ _ _ => rfl, fun _ _ => rfl, fun b => ?_⟩
      by_cases z : b = i
      · rw [if_pos z, z, e]; exact q.1
      · rw [if_neg z]
/-- the system's heap behind a brand taken -/
theorem brE_v {S : HS} {i : Nat} {g : GT} {r : Nat → Int32} (h : ShC S) (hi : i < 4) : ShC (brE S i g r) ∧ (∀ f a, f ≠ fid 5 1 → (f < 64 ∨ 66 < f) → a ≠ 300 + 2 * i → sI (brE S i g r) f a = sI S f a) ∧ (∀ a, sI (brE S i g r) (fid 5 1) a = if a = 8 then 0 else if a = 300 + 2 * i then sI S (fid 5 1) 8 else sI S (fid 5 1) a) ∧ (∀ t, t ≠ 301 + 2 * i → sA (brE S i g r) t = sA S t) ∧ sA (brE S i g r) (301 + 2 * i) = r ∧ ∀ b, sQ (brE S i g r) 10 b = if b = i then some (300 + 2 * i) else sQ S 10 b := by
  obtain ⟨k1, k2, k3, k4⟩ := brX_v (S := setG S g) (setG_sh h) hi
  unfold brE
  generalize brX (setG S g) i = Y at *
  refine ⟨((k1.setI (by decide)).setA).setI (by decide), fun f a q1 q2 q3 => ?_, fun a => ?_, fun t ht => ?_, ?_, fun b => ?_⟩
  · rw [sI_setIn (Or.inl q1), sI_setA, sI_setIn (Or.inl q1), k2 f a q3, setG_I q2]
  · by_cases a8 : a = 8
    · rw [if_pos a8, a8, sI_setIe]
    · rw [if_neg a8, sI_setIn (Or.inr a8), sI_setA]
      by_cases a3 : a = 300 + 2 * i
      · rw [if_pos a3, a3, sI_setIe]
      · rw [if_neg a3, sI_setIn (Or.inr a3), k2 _ a a3, setG_I (by decide)]
  · rw [sA_setI, sA_setn ht, sA_setI, k3 t ht]
    rfl
  · rw [sA_setI, sA_set]
  · rw [sQ_setI, sQ_setA, sQ_setI]
    exact k4 b
theorem brM_v {T : HS} {b : Nat} {w : TX} : (∀ k, k < 48 → k ≠ 47 → mI (brM T b w) k = mI T k) ∧ mI (brM T b w) 47 = 0 ∧ (∀ k, k ≠ 44 → k ≠ 45 → k ≠ 46 → mA (brM T b w) k = mA T k) ∧ mA (brM T b w) 44 = fb_put (mA T 44) (upd w.2.2.2.2 w.2.2.2.1 3) (420 * b) (w.2.2.2.1 + 1) ∧ mA (brM T b w) 46 = upd (mA T 46) b 1 := by
  unfold brM
  refine ⟨fun k hk h47 => ?_, sI_setIe _ _ _ _, fun k q1 q2 q3 => ?_, ?_, ?_⟩
  · show sI (setI _ _ _ _) (fid 9 k) 2000 = _
    rw [sI_setIn (Or.inl (by unfold fid; omega)), sI_setA, sI_setA]
    exact tx_I ⟨by unfold fid; omega, by unfold fid; omega, by unfold fid; omega, by unfold fid; omega⟩
  · show sA (setI _ _ _ _) (ma k) = _
    rw [sA_setI, sA_setn (by unfold ma; omega), sA_setn (by unfold ma; omega)]
    exact tx_A (by unfold ma; omega)
  · show sA (setI _ _ _ _) (ma 44) = _
    rw [sA_setI, sA_setn (by decide), sA_set]
    rfl
  · show sA (setI _ _ _ _) (ma 46) = _
    rw [sA_setI, sA_set]
theorem cdI_S (C : Nat → Int32) (v : Int32 → Int32) (p : Nat → Int32) : ∀ i, cdI C v p i = cdS C v (0, 0, p) i
  | 0 => rfl
  | i + 1 => congrArg (cdN C v) (cdI_S C v p i)
/-- a text taken says what its codes say -/
theorem says_txc {T : HS} {w : TX} (h : SaysT T w) {row C : Nat → Int32} (hr : ∀ j, j < szM T → row j = mA T 43 j) (hC : ∀ j, j < w.2.2.2.1 → C j = w.2.2.2.2 j) (h3 : C w.2.2.2.1 = 3) : TxC row (szM T) C := by
  intro m v hmv s n p
  obtain ⟨h0, h1⟩ := h
  obtain ⟨F, w1, w2⟩ := h1 m v hmv s n
  obtain ⟨p2, ⟨N, e, o⟩, -, f1⟩ := w2 C hC 0 p (Nat.le_refl _)
  refine ⟨N, ⟨fun i hi => by rw [cdI_S]; exact o i hi, ?_, ?_, ?_⟩, ?_⟩
  · rw [cdI_S, e]; show w.2.2.2.1 < 420; omega
  · rw [cdI_S, e]; exact h3
  · rw [cdI_S, e]
    show p2 0 = 0 ∨ p2 0 = 1
    rw [f1]
    cases F <;> decide
  · rw [cdI_S, e, vRun_cg hr, w1.1]
    show _ ↔ ¬ p2 0 = 0
    rw [f1]
    cases F <;> decide
theorem msk_in {C g : Nat → Int32} {b n k : Nat} (hk : k < n) (hn : n ≤ 420) : msk (fb_put C g (420 * b) n) b k = g k := by
  unfold msk
  rw [if_pos (by omega), fb_put_in (by omega) (by omega), show 420 * b + k - 420 * b = k by omega]
theorem msk_out {C g : Nat → Int32} {b c n : Nat} (hbc : c ≠ b) (hn : n ≤ 420) : msk (fb_put C g (420 * b) n) c = msk C c := by
  funext k
  unfold msk
  by_cases q : k < 420
  · rw [if_pos q, if_pos q, fb_put_out (by omega)]
  · rw [if_neg q, if_neg q]
set_option maxHeartbeats 1000000 in
theorem Sim.brand {S T : HS} {i : Nat} {g : GT} {row : Nat → Int32} {w : TX} (h : Sim S T) (hi : i < 4) (hw : SaysT T w) (hr : ∀ j, j < nn (sI S (fid 5 1) 8) → row j = sA S 9 j) (hM : ShM (brM T i w)) : Sim (brE S i g row) (brM T i w) := by
  obtain ⟨e1, e, e51, eA, eAr, eQ⟩ := brE_v (g := g) (r := row) h.1 hi
  obtain ⟨mi, m47, mm, m44, m46⟩ := brM_v (T := T) (b := i) (w := w)
  generalize brE S i g row = S2 at *
  generalize brM T i w = T2 at *
  obtain ⟨h1, h2, ⟨g0, gN, gC, gB, gP, gY, gL⟩, hN, hC, hB, hP, hY, hL, hT, hR⟩ := id h
  obtain ⟨n9, n10, n11, n12, n13, n14, n15, n16, n17, nw, ng, nz⟩ := id hN
  obtain ⟨r25, r26, r27, r24, r28, r29, r47⟩ := id gN
  have hw4 := hw.1
  refine ⟨e1, fun t => ?_, ⟨hM, ?_, gC.cg (fun k _ => mm k (by omega) (by omega) (by omega)), gB.cg (fun k _ _ => mm k (by omega) (by omega) (by omega)) (mi 25 (by omega) (by omega)) (mi 27 (by omega) (by omega)), gP.cg (fun k _ _ => mm k (by omega) (by omega) (by omega)) (mi 25 (by omega) (by omega)), gY.cg (fun k _ _ => mm k (by omega) (by omega) (by omega)) (mi 26 (by omega) (by omega)), gL.cg (fun k _ _ => mm k (by omega) (by omega) (by omega)) (mi 26 (by omega) (by omega)) (mi 27 (by omega) (by omega))⟩, ?_, hC.cg (fun _ _ => by rw [eA 2 (by omega), eA 3 (by omega)]; exact ⟨rfl, rfl⟩) (fun k _ => mm k (by omega) (by omega) (by omega)), hB.cg (fun b _ k _ _ => e _ _ (by unfold fid; omega) (by unfold fid; omega) (by omega)) (fun k _ _ => mm k (by omega) (by omega) (by omega)) (mi 25 (by omega) (by omega)), hP.cg (fun b _ => ⟨eA _ (by omega), eA _ (by omega)⟩) (fun k _ _ => mm k (by omega) (by omega) (by omega)) (mi 25 (by omega) (by omega)), hY.cg (fun b _ k _ _ => e _ _ (by unfold fid; omega) (by unfold fid; omega) (by omega)) (fun k _ _ => mm k (by omega) (by omega) (by omega)) (mi 26 (by omega) (by omega)), hL.cg (fun b _ k _ => e _ _ (by unfold fid; omega) (by unfold fid; omega) (by omega)) (fun k _ _ => mm k (by omega) (by omega) (by omega)) (mi 27 (by omega) (by omega)), fun j hj => ?_, fun b hb => ?_⟩
  · rw [e51]
    split
    · exact ⟨Int.le_refl _, by decide⟩
    · split
      · exact h2 8
      · exact h2 t
  · unfold RgN
    rw [mi 25 (by omega) (by omega), mi 26 (by omega) (by omega), mi 27 (by omega) (by omega), mi 24 (by omega) (by omega), mi 28 (by omega) (by omega), mi 29 (by omega) (by omega), m47]
    exact ⟨r25, r26, r27, r24, r28, r29, ⟨Int.le_refl _, by decide⟩⟩
  · unfold SmN
    rw [mi 25 (by omega) (by omega), mi 26 (by omega) (by omega), mi 27 (by omega) (by omega), mi 24 (by omega) (by omega), mi 28 (by omega) (by omega), mi 29 (by omega) (by omega), mi 30 (by omega) (by omega), mi 31 (by omega) (by omega), mi 32 (by omega) (by omega), mi 33 (by omega) (by omega), mi 34 (by omega) (by omega), m47]
    refine ⟨(e _ _ (by decide) (by decide) (by omega)).trans n9, (e _ _ (by decide) (by decide) (by omega)).trans n10, (e _ _ (by decide) (by decide) (by omega)).trans n11, (e _ _ (by decide) (by decide) (by omega)).trans n12, (e _ _ (by decide) (by decide) (by omega)).trans n13, (e _ _ (by decide) (by decide) (by omega)).trans n14, (e _ _ (by decide) (by decide) (by omega)).trans n15, (e _ _ (by decide) (by decide) (by omega)).trans n16, (e _ _ (by decide) (by decide) (by omega)).trans n17, (e _ _ (by decide) (by decide) (by omega)).trans nw, (e _ _ (by decide) (by decide) (by omega)).trans ng, ?_⟩
    rw [e51, if_pos rfl]
  · rw [m47] at hj
    exact absurd hj (Nat.not_lt_zero _)
  · rw [eQ, m44, m46]
    by_cases q : b = i
    · right
      rw [if_pos q, q, eAr, e51, if_neg (by omega), if_pos rfl, pk_us, nz]
      refine ⟨rfl, by decide, ?_⟩
      refine says_txc hw (fun j hj => ?_) (fun j hj => ?_) ?_
      · rw [hr j (by rw [nz]; exact hj)]; exact (hT j hj).1
      · rw [msk_in (by omega) (by omega), pk_un (by omega)]
      · rw [msk_in (by omega) (by omega), pk_us]
    · rw [if_neg q, pk_un q, msk_out q (by omega), eA _ (by omega), e51, if_neg (by omega), if_neg (by omega)]
      exact hR b hb
set_option maxHeartbeats 1000000 in
theorem st_brand {S T S2 T2 : HS} {a r1 r2 : Int32} (h : Sim S T) (ha : 0 ≤ a.toInt ∧ a.toInt ≤ 3) (h8 : (¬ (0 ≤ a.toInt ∧ a.toInt ≤ 3) → r1 = 0 ∧ S2 = S) ∧ (0 ≤ a.toInt ∧ a.toInt ≤ 3 → ∃ x g, fltR S x ∧ (x ≠ -1 → r1 = 0 ∧ S2 = setG S g) ∧ (x = -1 → r1 = 1 ∧ ∃ row, S2 = brE S (nn a) g row ∧ ∀ j, j < nn (sI S (fid 5 1) 8) → row j = sA S 9 j))) (h9 : ∃ u n, prM T n 2 (tx0 T) = some u ∧ (¬ (fnM T u).2.1 = -1 → r2 = 0 ∧ T2 = txM T (fnM T u)) ∧ ((fnM T u).2.1 = -1 → r2 = 1 ∧ T2 = brM T (nn a) (fnM T u))) (hM : ∀ w, ShM (brM T (nn a) w)) : r1 = r2 ∧ Sim S2 T2 := by
  obtain ⟨x, g, hx, k1, k2⟩ := h8.2 ha
  obtain ⟨u, n, hu, k3, k4⟩ := h9
  have hf := fn_all h.sz h.by_ hu
  have ex := flt_eq h hx hf
  by_cases q : (fnM T u).2.1 = -1
  · obtain ⟨a1, row, a2, a3⟩ := k2 (ex.trans q)
    obtain ⟨b1, b2⟩ := k4 q
    rw [a1, b1, a2, b2]
    refine ⟨rfl, Sim.brand h (by unfold nn; omega) ?_ a3 (hM _)⟩
    rcases hf with z | ⟨p, z1, z2⟩
    · exact z.2.2
    · rw [q] at z1
      exact absurd z1.symm (nI_nm (by have := z2.1; have := h.sz; omega))
  · obtain ⟨a1, a2⟩ := k1 (fun z => q (ex.symm.trans z))
    obtain ⟨b1, b2⟩ := k3 q
    rw [a1, b1, a2, b2]
    exact ⟨rfl, (h.sG g).sX _⟩
theorem st_brandN {S T S2 T2 : HS} {a r1 r2 : Int32} (h : Sim S T) (ha : ¬ (0 ≤ a.toInt ∧ a.toInt ≤ 3)) (h8 : (¬ (0 ≤ a.toInt ∧ a.toInt ≤ 3) → r1 = 0 ∧ S2 = S) ∧ (0 ≤ a.toInt ∧ a.toInt ≤ 3 → ∃ x g, fltR S x ∧ (x ≠ -1 → r1 = 0 ∧ S2 = setG S g) ∧ (x = -1 → r1 = 1 ∧ ∃ row, S2 = brE S (nn a) g row ∧ ∀ j, j < nn (sI S (fid 5 1) 8) → row j = sA S 9 j))) (h9 : r2 = 0 ∧ T2 = T) : r1 = r2 ∧ Sim S2 T2 := by
  obtain ⟨a1, a2⟩ := h8.1 ha
  obtain ⟨b1, b2⟩ := h9
  rw [a1, b1, a2, b2]
  exact ⟨rfl, h⟩
theorem brM_sh {T : HS} (h : ShM T) (b : Nat) (w : TX) : ShM (brM T b w) := (((tx_sh h _).setA _ _).setA _ _).setI _ _ _
