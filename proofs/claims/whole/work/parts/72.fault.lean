/-! ===== fault ===== -/
theorem gRun_cg {r s : Nat → Int32} : ∀ {p : Nat}, (∀ j, j < p → r j = s j) → gRun r p = gRun s p
  | 0, _ => rfl
  | p + 1, h => by
    show (tTakes (r p) (gRun r p)).2 = (tTakes (s p) (gRun s p)).2
    rw [gRun_cg (fun j hj => h j (by omega)), h p (by omega)]
theorem gOk_cg {r s : Nat → Int32} {p : Nat} (h : ∀ j, j < p + 1 → r j = s j) : gOk r p ↔ gOk s p := by
  unfold gOk
  rw [gRun_cg (fun j hj => h j (by omega)), h p (by omega)]
theorem vRun_cg {m : Int32 → Int32} {r s : Nat → Int32} {V : VT} : ∀ {p : Nat}, (∀ j, j < p → r j = s j) → vRun m r V p = vRun m s V p
  | 0, _ => rfl
  | p + 1, h => by
    show vRead m (r p) (vRun m r V p) = vRead m (s p) (vRun m s V p)
    rw [vRun_cg (fun j hj => h j (by omega)), h p (by omega)]
/-- no fault -/
def NF (T : HS) : Prop := (∀ k, k < szM T → gOk (mA T 43) k) ∧ (gRun (mA T 43) (szM T)).1.toInt = 3 ∧ (gRun (mA T 43) (szM T)).2.1.toInt = 0
/-- what a text without a fault says -/
def SaysT (T : HS) (w : TX) : Prop := w.2.2.2.1 ≤ 400 ∧ ∀ (m v : Int32 → Int32), (m 99 = v 0 ∧ m 115 = v 1 ∧ m 119 = v 2 ∧ m 97 = v 3 ∧ m 112 = v 4) → ∀ s n : Int32, ∃ F, WE m (vRun m (mA T 43) (0, 1, 0, s, n) (szM T)) 0 1 F ∧ ∀ C, (∀ j, j < w.2.2.2.1 → C j = w.2.2.2.2 j) → Ev C v 0 w.2.2.2.1 F
theorem rd_all {T : HS} {m v : Int32 → Int32} {s x : Int32} (hs : szM T ≤ 200) (hby : ∀ j, j < szM T → ¬ mA T 43 j = -1) (hmv : m 99 = v 0 ∧ m 115 = v 1 ∧ m 119 = v 2 ∧ m 97 = v 3 ∧ m 112 = v 4) {n : Nat} {u : TX} (h : prM T n 2 (tx0 T) = some u) : G2 T m v (0, 1, 0, s, x) (tx0 T) u 0 1 0 ∨ Bad T u := by
  refine (K_all (V0 := (0, 1, 0, s, x)) hs hby hmv n).2.2.1 (tx0 T) u 0 1 0 h ⟨⟨rfl, rfl, by decide, ?_⟩, ⟨rfl, rfl, rfl⟩, by decide, by decide, Nat.le_refl _⟩ rfl rfl
  exact ⟨Nat.zero_le _, fun k hk => absurd hk (Nat.not_lt_zero _), rfl, rfl⟩
theorem fn_all {T : HS} (hs : szM T ≤ 200) (hby : ∀ j, j < szM T → ¬ mA T 43 j = -1) {n : Nat} {u : TX} (h : prM T n 2 (tx0 T) = some u) : ((fnM T u).2.1 = -1 ∧ NF T ∧ SaysT T (fnM T u)) ∨ ∃ p, (fnM T u).2.1 = nI p ∧ Flt T p := by
  have h2 : (fnM T u).2.2 = u.2.2 := by
    unfold fnM
    split
    · split <;> rfl
    · rfl
  rcases rd_all (m := fun _ => 0) (v := fun _ => 0) (s := 0) (x := 0) hs hby ⟨rfl, rfl, rfl, rfl, rfl⟩ h with ⟨⟨u1, u2, ⟨u3, u4, u5⟩, u6⟩, ⟨u7, u8, u9⟩, -⟩ | hB
  · by_cases c : lkC T u.1 = -1
    · have hsz : u.1 = szM T := by
        have := u2.1.1
        rcases Nat.lt_or_ge u.1 (szM T) with w | w
        · have ec : lkC T u.1 = mA T 43 u.1 := if_pos w
          rw [ec] at c
          exact absurd c (hby _ w)
        · omega
      left
      have e1 : (fnM T u).2.1 = -1 := by
        unfold fnM
        rw [if_pos u1, u7, if_pos c]
        exact u1
      refine ⟨e1, ⟨?_, ?_, ?_⟩, ?_, fun m v hmv s x => ?_⟩
      · rw [← hsz]; exact u2.1.2.1
      · rw [← hsz]; exact u2.1.2.2.1
      · rw [← hsz, u2.1.2.2.2]; rfl
      · rw [h2]
        have u5 : u.2.2.2.1 + 2 * 0 ≤ 0 + 2 * u.1 := u5
        omega
      · rw [h2]
        rcases rd_all (s := s) (x := x) hs hby hmv h with ⟨-, -, F, w1, w2⟩ | hB
        · rw [hsz] at w1
          exact ⟨F, w1, fun C hC => w2.2 C (fun j _ hj => hC j hj)⟩
        · exact absurd u1 (hB.ne hs)
    · right
      obtain ⟨w1, ec⟩ := lkC_at (T := T) c
      refine ⟨u.1, ?_, ?_⟩
      · unfold fnM
        rw [if_pos u1, u7, if_neg c]
      · rw [← ec] at u8 u9
        have := (lkP_sp T u.1).2.2.2
        rw [u7] at this
        exact b_no u2 w1 (fun z => this ⟨w1, z⟩) u8 u9 (fun _ => rfl)
  · right
    have hne := hB.ne hs
    obtain ⟨p, p1, p2⟩ := hB
    refine ⟨p, ?_, p2⟩
    unfold fnM
    rw [if_neg hne]
    exact p1
/-- the system's fault and the reference's are one -/
theorem flt_eq {S T : HS} (h : Sim S T) {x : Int32} (hx : fltR S x) {w : TX} (hw : (w.2.1 = -1 ∧ NF T ∧ SaysT T w) ∨ ∃ p, w.2.1 = nI p ∧ Flt T p) : x = w.2.1 := by
  have hT := h.2.2.2.2.2.2.2.2.2.1
  have nz := h.n.2.2.2.2.2.2.2.2.2.2.2
  have r47 := h.rn.2.2.2.2.2.2
  have hr : ∀ j, j < szM T → sA S 9 j = mA T 43 j := fun j hj => (hT j hj).1
  have hI : nI (szM T) = mI T 47 := nI_nn r47.1
  unfold fltR at hx
  rw [nz] at hx
  have e1 : nn (mI T 47) = szM T := rfl
  rw [e1, gRun_cg hr] at hx
  have eo : ∀ k, k < szM T → (gOk (sA S 9) k ↔ gOk (mA T 43) k) := fun k hk => gOk_cg (fun j hj => hr j (by omega))
  rcases hw with ⟨w1, ⟨f1, f2, f3⟩, -⟩ | ⟨p, w1, f1, f2, f3, f4⟩
  · rw [w1]
    rcases hx with ⟨j, j1, -, j3, -⟩ | ⟨-, j2⟩
    · exact absurd ((eo j j1).mpr (f1 j j1)) j3
    · rw [j2, if_pos ⟨f2, f3⟩]
  · rw [w1]
    rcases hx with ⟨j, j1, j2, j3, j4⟩ | ⟨j1, j2⟩
    · rw [j4]
      have : j = p := by
        rcases Nat.lt_trichotomy j p with q | q | q
        · exact absurd ((eo j j1).mpr (f2 j q)) j3
        · exact q
        · exact absurd ((eo p (by omega)).mp (j2 p q)) (f3 (by omega))
      rw [this]
    · rcases Nat.lt_or_ge p (szM T) with q | q
      · exact absurd ((eo p q).mp (j1 p q)) (f3 q)
      · have ep : p = szM T := by omega
        rw [ep] at f4
        rw [j2, if_neg (f4 rfl), ep, hI]
theorem Sim.sG {S T : HS} (h : Sim S T) (g : GT) : Sim (setG S g) T := by
  obtain ⟨h1, h2, gg, hN, hC, hB, hP, hY, hL, hT, hR⟩ := h
  obtain ⟨n9, n10, n11, n12, n13, n14, n15, n16, n17, nw, ng, nz⟩ := hN
  have e : ∀ f a, f < 64 ∨ 66 < f → sI (setG S g) f a = sI S f a := fun f a q => setG_I q
  refine ⟨setG_sh h1, fun t => by rw [e _ _ (by decide)]; exact h2 t, gg, ⟨(e _ _ (by decide)).trans n9, (e _ _ (by decide)).trans n10, (e _ _ (by decide)).trans n11, (e _ _ (by decide)).trans n12, (e _ _ (by decide)).trans n13, (e _ _ (by decide)).trans n14, (e _ _ (by decide)).trans n15, (e _ _ (by decide)).trans n16, (e _ _ (by decide)).trans n17, (e _ _ (by decide)).trans nw, (e _ _ (by decide)).trans ng, (e _ _ (by decide)).trans nz⟩, hC.cg (fun j _ => ⟨rfl, rfl⟩) (fun _ _ => rfl), hB.cg (fun i _ k _ _ => e _ _ (by unfold fid; omega)) (fun _ _ _ => rfl) rfl, hP.cg (fun i _ => ⟨rfl, rfl⟩) (fun _ _ _ => rfl) rfl, hY.cg (fun i _ k _ _ => e _ _ (by unfold fid; omega)) (fun _ _ _ => rfl) rfl, hL.cg (fun i _ k _ => e _ _ (by unfold fid; omega)) (fun _ _ _ => rfl) rfl, hT.cg rfl rfl rfl, hR.cg rfl (fun b _ => ⟨rfl, e _ _ (by decide)⟩) rfl rfl⟩
theorem Sim.sV {S T : HS} (h : Sim S T) (v : VT) : Sim (setV S v) T := by
  obtain ⟨h1, h2, gg, hN, hC, hB, hP, hY, hL, hT, hR⟩ := h
  obtain ⟨n9, n10, n11, n12, n13, n14, n15, n16, n17, nw, ng, nz⟩ := hN
  have e : ∀ f a, f < 384 ∨ 388 < f → sI (setV S v) f a = sI S f a := fun f a q => setV_I q
  refine ⟨setV_sh h1, fun t => by rw [e _ _ (by decide)]; exact h2 t, gg, ⟨(e _ _ (by decide)).trans n9, (e _ _ (by decide)).trans n10, (e _ _ (by decide)).trans n11, (e _ _ (by decide)).trans n12, (e _ _ (by decide)).trans n13, (e _ _ (by decide)).trans n14, (e _ _ (by decide)).trans n15, (e _ _ (by decide)).trans n16, (e _ _ (by decide)).trans n17, (e _ _ (by decide)).trans nw, (e _ _ (by decide)).trans ng, (e _ _ (by decide)).trans nz⟩, hC.cg (fun j _ => ⟨rfl, rfl⟩) (fun _ _ => rfl), hB.cg (fun i _ k _ _ => e _ _ (by unfold fid; omega)) (fun _ _ _ => rfl) rfl, hP.cg (fun i _ => ⟨rfl, rfl⟩) (fun _ _ _ => rfl) rfl, hY.cg (fun i _ k _ _ => e _ _ (by unfold fid; omega)) (fun _ _ _ => rfl) rfl, hL.cg (fun i _ k _ => e _ _ (by unfold fid; omega)) (fun _ _ _ => rfl) rfl, hT.cg rfl rfl rfl, hR.cg rfl (fun b _ => ⟨rfl, e _ _ (by decide)⟩) rfl rfl⟩
theorem Sim.sX {S T : HS} (h : Sim S T) (t : TX) : Sim S (txM T t) := by
  obtain ⟨h1, h2, ⟨g0, gN, gC, gB, gP, gY, gL⟩, hN, hC, hB, hP, hY, hL, hT, hR⟩ := h
  have eA : ∀ k, k ≠ 45 → mA (txM T t) k = mA T k := fun k hk => tx_A (by unfold ma; omega)
  have eI : ∀ k, k < 48 → mI (txM T t) k = mI T k := fun k hk => tx_I ⟨by unfold fid; omega, by unfold fid; omega, by unfold fid; omega, by unfold fid; omega⟩
  refine ⟨h1, h2, ⟨tx_sh g0 t, ?_, gC.cg (fun k _ => eA k (by omega)), gB.cg (fun k _ _ => eA k (by omega)) (eI 25 (by omega)) (eI 27 (by omega)), gP.cg (fun k _ _ => eA k (by omega)) (eI 25 (by omega)), gY.cg (fun k _ _ => eA k (by omega)) (eI 26 (by omega)), gL.cg (fun k _ _ => eA k (by omega)) (eI 26 (by omega)) (eI 27 (by omega))⟩, ?_, hC.cg (fun _ _ => ⟨rfl, rfl⟩) (fun k _ => eA k (by omega)), hB.cg (fun _ _ _ _ _ => rfl) (fun k _ _ => eA k (by omega)) (eI 25 (by omega)), hP.cg (fun _ _ => ⟨rfl, rfl⟩) (fun k _ _ => eA k (by omega)) (eI 25 (by omega)), hY.cg (fun _ _ _ _ _ => rfl) (fun k _ _ => eA k (by omega)) (eI 26 (by omega)), hL.cg (fun _ _ _ _ => rfl) (fun k _ _ => eA k (by omega)) (eI 27 (by omega)), hT.cg rfl (eA 43 (by omega)) (eI 47 (by omega)), hR.cg rfl (fun _ _ => ⟨rfl, rfl⟩) (eA 44 (by omega)) (eA 46 (by omega))⟩
  · unfold RgN
    rw [eI 25 (by omega), eI 26 (by omega), eI 27 (by omega), eI 24 (by omega), eI 28 (by omega), eI 29 (by omega), eI 47 (by omega)]
    exact gN
  · unfold SmN
    rw [eI 25 (by omega), eI 26 (by omega), eI 27 (by omega), eI 24 (by omega), eI 28 (by omega), eI 29 (by omega), eI 47 (by omega), eI 30 (by omega), eI 31 (by omega), eI 32 (by omega), eI 33 (by omega), eI 34 (by omega)]
    exact hN
theorem Sim.sz {S T : HS} (h : Sim S T) : szM T ≤ 200 := nn_leN h.rn.2.2.2.2.2.2.2
theorem Sim.by_ {S T : HS} (h : Sim S T) : ∀ j, j < szM T → ¬ mA T 43 j = -1 := fun j hj => (h.2.2.2.2.2.2.2.2.2.1 j hj).2
theorem st_fault {S T S2 T2 : HS} {r1 r2 : Int32} (h : Sim S T) (h8 : ((∃ j, j < nn (sI S (fid 5 1) 8) ∧ (∀ k, k < j → gOk (sA S 9) k) ∧ ¬ gOk (sA S 9) j ∧ r1 = nI j) ∨ ((∀ k, k < nn (sI S (fid 5 1) 8) → gOk (sA S 9) k) ∧ r1 = if (gRun (sA S 9) (nn (sI S (fid 5 1) 8))).1.toInt = 3 ∧ (gRun (sA S 9) (nn (sI S (fid 5 1) 8))).2.1.toInt = 0 then -1 else sI S (fid 5 1) 8)) ∧ ∃ g : GT, S2 = setG S g) (h9 : ∃ u n, prM T n 2 (tx0 T) = some u ∧ r2 = (fnM T u).2.1 ∧ T2 = txM T (fnM T u)) : r1 = r2 ∧ Sim S2 T2 := by
  obtain ⟨h8, g, rfl⟩ := h8
  obtain ⟨u, n, hu, rfl, rfl⟩ := h9
  exact ⟨flt_eq h h8 (fn_all h.sz h.by_ hu), (h.sG g).sX _⟩
