/-! ===== the reference: haul ===== -/
/-- what boat b hauls with in cell c -/
def hmf (S : HS) (c : Int32) (b : Nat) : Nat := if b < nn (mI S 25) ∧ mA S 3 b = c then nn (mA S 2 b) else 0
def hsu (S : HS) (c : Int32) : Nat := min (2 * fb_sm (hmf S c) 12) (nn (mA S 0 c.toNatClampNeg))
abbrev HA : Type := Nat × (Nat → Nat) × (Nat → Int32) × (Nat → Int32)
/-- boats below i that haul, pressed together -/
def hIv (S : HS) (c : Int32) (i : Nat) (a : HA) : Prop := a.1 ≤ i ∧ Cmp a.2.1 (fun k => hmf S c (a.2.1 k)) (hmf S c) a.1 i ∧ ∀ k, k < a.1 → a.2.2.1 k = nI (a.2.1 k) ∧ a.2.2.2 k = nI (hmf S c (a.2.1 k)) ∧ hmf S c (a.2.1 k) ≠ 0
theorem hIv_0 {S : HS} {c : Int32} {w : Nat → Nat} {W M : Nat → Int32} : hIv S c 0 (0, w, W, M) := by
  refine ⟨Nat.le_refl _, ⟨fun i j _ h => absurd h (Nat.not_lt_zero _), fun i h => absurd h (Nat.not_lt_zero _), fun b h => absurd h (Nat.not_lt_zero _), fun i h => absurd h (Nat.not_lt_zero _)⟩, fun k h => absurd h (Nat.not_lt_zero _)⟩
theorem hIv_skip {S : HS} {c : Int32} {i : Nat} {a : HA} (h : hIv S c i a) (h0 : hmf S c i = 0) : hIv S c (i + 1) a := by
  obtain ⟨h1, ⟨h2, h3, h4, h5⟩, h6⟩ := h
  refine ⟨by omega, ⟨h2, fun k hk => by have := h3 k hk; omega, fun b hb hn => ?_, h5⟩, h6⟩
  rcases Nat.lt_succ_iff_lt_or_eq.mp hb with q | q
  · exact h4 b q hn
  · rw [q] at hn; exact absurd h0 hn
theorem hIv_take {S : HS} {c : Int32} {i : Nat} {a : HA} {x : Int32} (h : hIv S c i a) (h0 : hmf S c i ≠ 0) (hx : x = nI (hmf S c i)) : hIv S c (i + 1) (a.1 + 1, (fun k => if k = a.1 then i else a.2.1 k), upd a.2.2.1 a.1 (nI i), upd a.2.2.2 a.1 x) := by
  obtain ⟨n, w, W, M⟩ := a
  obtain ⟨h1, ⟨h2, h3, h4, h5⟩, h6⟩ := h
  dsimp only at *
  refine ⟨by show n + 1 ≤ i + 1; omega, ⟨?_, ?_, ?_, fun _ _ => rfl⟩, ?_⟩
  · intro p q hpq hq
    dsimp only at *
    rw [if_neg (by omega : ¬ p = n)]
    by_cases e : q = n
    · rw [if_pos e]; exact h3 p (by omega)
    · rw [if_neg e]; exact h2 p q hpq (by omega)
  · intro p hp
    dsimp only at *
    by_cases e : p = n
    · rw [if_pos e]; omega
    · rw [if_neg e]; have := h3 p (by omega); omega
  · intro b hb hn
    dsimp only at *
    rcases Nat.lt_succ_iff_lt_or_eq.mp hb with q | q
    · obtain ⟨k, hk, e⟩ := h4 b q hn
      exact ⟨k, by omega, by rw [if_neg (by omega)]; exact e⟩
    · exact ⟨n, by omega, by rw [if_pos rfl]; exact q.symm⟩
  · intro k hk
    dsimp only at *
    by_cases e : k = n
    · subst e
      rw [if_pos rfl]
      exact ⟨by simp [upd], by simp [upd, hx], h0⟩
    · rw [if_neg e]
      obtain ⟨p1, p2, p3⟩ := h6 k (by omega)
      exact ⟨by simp [upd, e, p1], by simp [upd, e, p2], p3⟩
theorem hIv_end {S : HS} {c : Int32} {w : Nat → Nat} {W M : Nat → Int32} {n : Nat} (h : hIv S c (nn (mI S 25)) (n, w, W, M)) (hb : nn (mI S 25) ≤ 12) : Cmp w (fun k => hmf S c (w k)) (hmf S c) n 12 := by
  obtain ⟨h1, ⟨h2, h3, h4, h5⟩, h6⟩ := h
  refine ⟨h2, fun k hk => by have := h3 k hk; dsimp only at this; omega, fun b hb2 hn => ?_, h5⟩
  refine h4 b ?_ hn
  unfold hmf at hn
  split at hn
  · rename_i q; exact q.1
  · exact absurd rfl hn
/-- rows 5 and 4 of the first k who hauled -/
def hFv (S : HS) (c : Int32) (w : Nat → Nat) (k : Nat) (a : (Nat → Int32) × (Nat → Int32)) : Prop := ∀ b, ((∃ i, i < k ∧ w i = b) → a.1 b = nI (prt (hsu S c) (hmf S c) 12 b) ∧ a.2 b = mA S 4 b + nI (prt (hsu S c) (hmf S c) 12 b)) ∧ ((¬ ∃ i, i < k ∧ w i = b) → a.1 b = mA S 5 b ∧ a.2 b = mA S 4 b)
theorem hFv_0 {S : HS} {c : Int32} {w : Nat → Nat} : hFv S c w 0 (mA S 5, mA S 4) := fun b => ⟨fun ⟨i, h, _⟩ => absurd h (Nat.not_lt_zero _), fun _ => ⟨rfl, rfl⟩⟩
theorem hFv_step {S : HS} {c : Int32} {w : Nat → Nat} {k : Nat} {a : (Nat → Int32) × (Nat → Int32)} (h : hFv S c w k a) (hw : ∀ i, i < k → w i ≠ w k) : hFv S c w (k + 1) (upd a.1 (w k) (nI (prt (hsu S c) (hmf S c) 12 (w k))), upd a.2 (w k) (a.2 (w k) + nI (prt (hsu S c) (hmf S c) 12 (w k)))) := by
  intro b
  by_cases e : b = w k
  · subst e
    refine ⟨fun _ => ⟨by simp [upd], ?_⟩, fun q => absurd ⟨k, Nat.lt_succ_self _, rfl⟩ q⟩
    have := (h (w k)).2 (fun ⟨i, hi, ei⟩ => hw i hi ei)
    simp [upd, this.2]
  · obtain ⟨p, q⟩ := h b
    refine ⟨fun ⟨i, hi, ei⟩ => ?_, fun hn => ?_⟩
    · have := p ⟨i, by rcases Nat.lt_succ_iff_lt_or_eq.mp hi with z | z; exact z; rw [z] at ei; exact absurd ei.symm e, ei⟩
      simp only [upd, e, if_false]
      exact this
    · have := q (fun ⟨i, hi, ei⟩ => hn ⟨i, by omega, ei⟩)
      simp only [upd, e, if_false]
      exact this
/-- the reference after a haul, but for its rows for parting -/
def haM (S : HS) (c : Int32) : HS := setA (setA (setA S (ma 5) (fun b => if hmf S c b ≠ 0 then nI (prt (hsu S c) (hmf S c) 12 b) else mA S 5 b)) (ma 4) (fun b => if hmf S c b ≠ 0 then mA S 4 b + nI (prt (hsu S c) (hmf S c) 12 b) else mA S 4 b)) (ma 0) (upd (mA S 0) c.toNatClampNeg (mA S 0 c.toNatClampNeg - nI (hsu S c)))
theorem haM_none {S : HS} {c : Int32} (h : ∀ b, hmf S c b = 0) : hsu S c = 0 ∧ haM S c = S := by
  have e0 : fb_sm (hmf S c) 12 = 0 := by
    have := fb_sm_bound (f := hmf S c) (c := 0) (n := 12) (fun k _ => by rw [h k]; exact Nat.le_refl _)
    omega
  have e1 : hsu S c = 0 := by unfold hsu; rw [e0]; omega
  refine ⟨e1, ?_⟩
  unfold haM
  rw [e1, show (fun b => if hmf S c b ≠ 0 then nI (prt 0 (hmf S c) 12 b) else mA S 5 b) = mA S 5 from funext fun b => if_neg (fun q => q (h b)), show (fun b => if hmf S c b ≠ 0 then mA S 4 b + nI (prt 0 (hmf S c) 12 b) else mA S 4 b) = mA S 4 from funext fun b => if_neg (fun q => q (h b))]
  rw [show mA S 5 = sA S (ma 5) from rfl, setA_self, show mA S 4 = sA S (ma 4) from rfl, setA_self]
  rw [show upd (mA S 0) c.toNatClampNeg (mA S 0 c.toNatClampNeg - nI 0) = sA S (ma 0) from ?_, setA_self]
  funext j
  unfold upd
  split
  · rename_i q; subst q; rw [show nI 0 = 0 from rfl, Int32.sub_zero]
  · rfl
theorem hFv_end {S : HS} {c : Int32} {w : Nat → Nat} {n : Nat} {a : (Nat → Int32) × (Nat → Int32)} (h : hFv S c w n a) (hC : Cmp w (fun k => hmf S c (w k)) (hmf S c) n 12) (hw : ∀ k, k < n → hmf S c (w k) ≠ 0) (hz : ∀ b, 12 ≤ b → hmf S c b = 0) : a.1 = (fun b => if hmf S c b ≠ 0 then nI (prt (hsu S c) (hmf S c) 12 b) else mA S 5 b) ∧ a.2 = (fun b => if hmf S c b ≠ 0 then mA S 4 b + nI (prt (hsu S c) (hmf S c) 12 b) else mA S 4 b) := by
  have key : ∀ b, (∃ i, i < n ∧ w i = b) ↔ hmf S c b ≠ 0 := fun b => ⟨fun ⟨i, hi, e⟩ => e ▸ hw i hi, fun hn => hC.2.2.1 b (Nat.lt_of_not_le fun q => hn (hz b q)) hn⟩
  constructor
  · funext b
    by_cases e : hmf S c b ≠ 0
    · rw [if_pos e]; exact ((h b).1 ((key b).mpr e)).1
    · rw [if_neg e]; exact ((h b).2 (fun q => e ((key b).mp q))).1
  · funext b
    by_cases e : hmf S c b ≠ 0
    · rw [if_pos e]; exact ((h b).1 ((key b).mpr e)).2
    · rw [if_neg e]; exact ((h b).2 (fun q => e ((key b).mp q))).2
theorem ha_5 (S : HS) (p q r a b c d : Nat → Int32) : setA (scM (setA (setA S (ma 5) p) (ma 4) q) a b c d) (ma 5) r = scM (setA (setA S (ma 5) r) (ma 4) q) a b c d := by
  rw [scM_o _ _ _ _ _ _ (Or.inl (by decide)), setA_comm _ (show ma 4 ≠ ma 5 by decide), setA_setA]
theorem ha_4 (S : HS) (p q r a b c d : Nat → Int32) : setA (scM (setA (setA S (ma 5) p) (ma 4) q) a b c d) (ma 4) r = scM (setA (setA S (ma 5) p) (ma 4) r) a b c d := by
  rw [scM_o _ _ _ _ _ _ (Or.inl (by decide)), setA_setA]
theorem ha_A5 (S : HS) (p q a b c d : Nat → Int32) : sA (scM (setA (setA S (ma 5) p) (ma 4) q) a b c d) (ma 5) = p := by
  rw [scM_A (Or.inl (by decide)), sA_setn (by decide), sA_set]
theorem ha_A4 (S : HS) (p q a b c d : Nat → Int32) : sA (scM (setA (setA S (ma 5) p) (ma 4) q) a b c d) (ma 4) = q := by
  rw [scM_A (Or.inl (by decide)), sA_set]
theorem ha_A0 (S : HS) (p q a b c d : Nat → Int32) : sA (scM (setA (setA S (ma 5) p) (ma 4) q) a b c d) (ma 0) = sA S (ma 0) := by
  rw [scM_A (Or.inl (by decide)), sA_setn (by decide), sA_setn (by decide)]
theorem hmf_in {S : HS} {c : Int32} {b : Nat} (hb : b < nn (mI S 25)) (e : mA S 3 b = c) : hmf S c b = nn (mA S 2 b) := if_pos ⟨hb, e⟩
theorem hmf_no {S : HS} {c : Int32} {b : Nat} (e : ¬ mA S 3 b = c) : hmf S c b = 0 := if_neg (fun q => e q.2)
theorem hmf_le {S : HS} {c : Int32} (hn : ∀ b, b < 12 → 0 ≤ (mA S 2 b).toInt ∧ (mA S 2 b).toInt ≤ 60) (hb : nn (mI S 25) ≤ 12) (b : Nat) : hmf S c b ≤ 60 := by
  unfold hmf
  split
  · rename_i q; have := hn b (by omega); unfold nn; omega
  · omega
theorem mn_nI {x z : Nat} (hx : x < 2 ^ 31) (hz : z < 2 ^ 31) : (if nI z < nI x then nI z else nI x) = nI (min x z) := by
  by_cases h : z < x
  · rw [if_pos (by rw [fa_lt, nI_toInt (by omega), nI_toInt (by omega)]; omega)]; congr 1; omega
  · rw [if_neg (by rw [fa_lt, nI_toInt (by omega), nI_toInt (by omega)]; omega)]; congr 1; omega
theorem nI_2 (a : Nat) : 2 * nI a = nI (2 * a) := by
  rw [show (2 : Int32) * nI a = nI a + nI a from ?_]
  · rw [nI_add]; congr 1; omega
  · apply Int32.toBitVec_inj.mp
    simp only [Int32.toBitVec_mul, Int32.toBitVec_add]
    rw [show (2 : Int32).toBitVec = 2#32 from rfl]
    generalize (nI a).toBitVec = x
    apply BitVec.eq_of_toNat_eq
    simp only [BitVec.toNat_mul, BitVec.toNat_add, BitVec.toNat_ofNat]
    omega
set_option maxHeartbeats 4000000 in
theorem c_X9_haul {l : Launch} {G : va_G} {cy : Nat → ClassId} (c : Int32) (S : HS) (h : ShM S) (hb : 0 ≤ (mI S 25).toInt ∧ (mI S 25).toInt ≤ 12) (hn : ∀ b, b < 12 → 0 ≤ (mA S 2 b).toInt ∧ (mA S 2 b).toInt ≤ 60) (hc : 0 ≤ c.toInt ∧ c.toInt < 36) (hcr : 0 ≤ (mA S 0 c.toNatClampNeg).toInt ∧ (mA S 0 c.toNatClampNeg).toInt ≤ 10000) : Cn l G cy yX9_haul cX9_haul 6 (some .int) 1 [.ref 2000, .int c] S 0 0 (qI (fun r S2 => r = nI (hsu S c) ∧ ∃ a b e d, S2 = scM (haM S c) a b e d)) := by
  refine Cn.of [some (.ref 2000), some (.int c), none, none, none, none] (by decide) rfl (Nat.le_of_ble_eq_true rfl) ?_
  have hnb : nn (mI S 25) ≤ 12 := by unfold nn; omega
  have hnbI : nI (nn (mI S 25)) = mI S 25 := nI_nn hb.1
  have hle := hmf_le (c := c) hn hnb
  have hsm : ∀ k, k ≤ 12 → fb_sm (hmf S c) k ≤ 720 := fun k hk => by
    have := fb_sm_bound (f := hmf S c) (c := 60) (n := k) (fun k _ => hle k)
    omega
  have hsh := h
  refine R.heap (S2 := scM S (mA S 35) (mA S 36) (mA S 37) (mA S 38)) (scM_self S) ?_
  refine r_iconst (v := 0) dX9_haul_0 (by decide) ?_
  refine r_ist2 dX9_haul_1 (Nat.le_of_ble_eq_true rfl) rfl ?_
  refine r_iconst (v := 0) dX9_haul_2 (by decide) ?_
  refine r_ist3 dX9_haul_3 (Nat.le_of_ble_eq_true rfl) rfl ?_
  refine r_iconst (v := 0) dX9_haul_4 (by decide) ?_
  refine r_ist4 dX9_haul_5 (Nat.le_of_ble_eq_true rfl) rfl ?_
  refine R.for (α := HA) (nn (mI S 25)) (fun i a => [some (.ref 2000), some (.int c), some (.int (nI a.1)), some (.int (nI (fb_sm (hmf S c) i))), some (.int (nI i)), none]) (fun i a => (scM S a.2.2.2 (mA S 36) (mA S 37) a.2.2.1)) (fun i a => hIv S c i a) ?_ ?_ 0 (0, (fun _ => 0), mA S 38, mA S 35) (Nat.zero_le _) hIv_0
  · intro a hI
    have hsh : ShM (scM S a.2.2.2 (mA S 36) (mA S 37) a.2.2.1) := h.scM _ _ _ _
    have h25 : sI (scM S a.2.2.2 (mA S 36) (mA S 37) a.2.2.1) (fid 9 25) 2000 = mI S 25 := scM_I _ _ _ _ _ _
    obtain ⟨cn, w, W, Mr⟩ := a
    have hC := hIv_end hI hnb
    have hI3 := hI.2.2
    have hcn : cn ≤ 12 := Nat.le_trans hI.1 hnb
    dsimp only at *
    refine r_iload dX9_haul_7 rfl ?_
    refine r_aload_n dX9_haul_9 rfl rfl ?_
    refine r_getI dX9_haul_10 lf_X9_126 rfl rfl ?_
    refine r_icmp_ge 77 dX9_haul_13 (by decide) (fun q13 => ?_) (fun q13 => ?_)
    · skip
      refine r_iload_n dX9_haul_77 rfl rfl ?_
      refine r_if_ne 83 dX9_haul_78 (by decide) (fun q78 => ?_) (fun q78 => ?_)
      · skip
        have hcn0 : 0 < cn := Nat.pos_of_ne_zero (fun q => q78 (by rw [q]; rfl))
        have h0 : 0 < fb_sm (hmf S c) 12 := by
          have := fb_sm_part (hmf S c) (hC.2.1 0 hcn0)
          have := (hI3 0 hcn0).2.2
          omega
        have hall : fb_sm (hmf S c) (nn (mI S 25)) = fb_sm (hmf S c) 12 := by
          have e := hI.2.1.sm
          have e2 := hC.sm
          dsimp only at e e2
          omega
        have hsum : hsu S c ≤ 10000 := by unfold hsu nn; omega
        refine r_iconst (v := 2) dX9_haul_83 (by decide) ?_
        refine r_iload_n dX9_haul_84 rfl rfl ?_
        refine r_imul dX9_haul_85 ?_
        refine r_aload_n dX9_haul_86 rfl rfl ?_
        refine r_getR dX9_haul_87 lf_X9_9 rfl rfl (shM_R hsh (j := 0) rfl) (shM_L hsh (j := 0) rfl) ?_
        refine r_iload_n dX9_haul_90 rfl rfl ?_
        refine r_iald dX9_haul_91 rfl (show vp_in c 36 from vp_in_iff.mpr ⟨hc.1, hc.2⟩) ?_
        rw [scM_A (j := 0) (Or.inl (by decide)), nI_2, hall, show sA S (ma 0) c.toNatClampNeg = nI (nn (mA S 0 c.toNatClampNeg)) from (nI_nn hcr.1).symm]
        refine r_mmin dX9_haul_92 lm_X9_143 (Nat.le_of_ble_eq_true rfl) (Nat.le_of_ble_eq_true rfl) (Nat.zero_le _) (Nat.zero_le _) ?_
        rw [mn_nI (by have := hsm 12 (Nat.le_refl _); omega) (by unfold nn; omega), show min (2 * fb_sm (hmf S c) 12) (nn (mA S 0 c.toNatClampNeg)) = hsu S c from rfl]
        refine R.heap (S2 := scM S Mr (mA S 36) (mA S 37) W) rfl ?_
        refine r_ist4 dX9_haul_95 (Nat.le_of_ble_eq_true rfl) rfl ?_
        refine r_aload_n dX9_haul_97 rfl rfl ?_
        refine r_iload dX9_haul_98 rfl ?_
        refine r_i2l dX9_haul_100 ?_
        refine r_iload_n dX9_haul_101 rfl rfl ?_
        rw [show (nI (hsu S c)).toInt64 = lN (hsu S c) from nI_l (by omega)]
        refine r_invV2v dX9_haul_102 lm_X9_149 rfl (c_X9_partAmong (hsu S c) cn (fun k => hmf S c (w k)) _ (h.scM _ _ _ _) (by omega) hcn (fun k hk => ⟨by rw [show mA (scM S Mr (mA S 36) (mA S 37) W) 35 = Mr from scM_A35]; exact (hI3 k hk).2.1, by have := hle (w k); omega⟩) (by rw [hC.sm]; exact h0)) (Nat.le_of_ble_eq_true rfl) (Nat.le_of_ble_eq_true rfl) (Nat.zero_le _) (Nat.zero_le _) (fun S102 hq102 => ?_)
        replace hq102 : S102 = (scM (setA (setA S (ma 5) (mA S 5)) (ma 4) (mA S 4)) Mr (shT (hsu S c) (fun k => hmf S c (w k)) cn (mA S 36) (pL (hsu S c) (fun k => hmf S c (w k)) cn)) (moT (hsu S c) (fun k => hmf S c (w k)) cn (mA S 37) (pL (hsu S c) (fun k => hmf S c (w k)) cn)) W) := by
          rw [hq102, scM_pa, show mA S 5 = sA S (ma 5) from rfl, setA_self, show mA S 4 = sA S (ma 4) from rfl, setA_self]
        subst hq102
        refine r_iconst (v := 0) dX9_haul_105 (by decide) ?_
        refine r_ist5 dX9_haul_106 (Nat.le_of_ble_eq_true rfl) rfl ?_
        refine R.for (α := (Nat → Int32) × (Nat → Int32)) (cn) (fun i a => [some (.ref 2000), some (.int c), some (.int (nI cn)), some (.int (nI (fb_sm (hmf S c) 12))), some (.int (nI (hsu S c))), some (.int (nI i))]) (fun i a => (scM (setA (setA S (ma 5) a.1) (ma 4) a.2) Mr (shT (hsu S c) (fun k => hmf S c (w k)) cn (mA S 36) (pL (hsu S c) (fun k => hmf S c (w k)) cn)) (moT (hsu S c) (fun k => hmf S c (w k)) cn (mA S 37) (pL (hsu S c) (fun k => hmf S c (w k)) cn)) W)) (fun i a => hFv S c w i a) ?_ ?_ 0 (mA S 5, mA S 4) (Nat.zero_le _) hFv_0
        · intro a hI
          have hsh : ShM (scM (setA (setA S (ma 5) a.1) (ma 4) a.2) Mr (shT (hsu S c) (fun k => hmf S c (w k)) cn (mA S 36) (pL (hsu S c) (fun k => hmf S c (w k)) cn)) (moT (hsu S c) (fun k => hmf S c (w k)) cn (mA S 37) (pL (hsu S c) (fun k => hmf S c (w k)) cn)) W) := ((h.setA _ _).setA _ _).scM _ _ _ _
          refine r_iload dX9_haul_108 rfl ?_
          refine r_iload_n dX9_haul_110 rfl rfl ?_
          refine r_icmp_ge 161 dX9_haul_111 (by decide) (fun q111 => ?_) (fun q111 => ?_)
          · skip
            refine r_aload_n dX9_haul_161 rfl rfl ?_
            refine r_getR dX9_haul_162 lf_X9_9 rfl rfl (shM_R hsh (j := 0) rfl) (shM_L hsh (j := 0) rfl) ?_
            refine r_iload_n dX9_haul_165 rfl rfl ?_
            refine r_dup2 dX9_haul_166 rfl rfl ?_
            refine r_iald dX9_haul_167 rfl (show vp_in c 36 from vp_in_iff.mpr ⟨hc.1, hc.2⟩) ?_
            rw [ha_A0]
            refine r_iload dX9_haul_168 rfl ?_
            refine r_isub dX9_haul_170 ?_
            refine r_iast dX9_haul_171 rfl (show vp_in c 36 from vp_in_iff.mpr ⟨hc.1, hc.2⟩) ?_
            refine r_iload dX9_haul_172 rfl ?_
            exact r_iret dX9_haul_174 rfl (Nat.zero_le _) (Nat.zero_le _) ⟨_, rfl, by
                obtain ⟨e1, e2⟩ := hFv_end hI hC (fun k hk => (hI3 k hk).2.2) (fun b hb => if_neg (by omega))
                refine ⟨rfl, Mr, (shT (hsu S c) (fun k => hmf S c (w k)) cn (mA S 36) (pL (hsu S c) (fun k => hmf S c (w k)) cn)), (moT (hsu S c) (fun k => hmf S c (w k)) cn (mA S 37) (pL (hsu S c) (fun k => hmf S c (w k)) cn)), W, ?_⟩
                rw [ha_A0, scM_o _ _ _ _ _ _ (Or.inl (by decide)), e1, e2]
                rfl⟩
          · skip
            exact absurd (Int32.le_refl _) q111
        · intro i a hi hI ih
          have hsh : ShM (scM (setA (setA S (ma 5) a.1) (ma 4) a.2) Mr (shT (hsu S c) (fun k => hmf S c (w k)) cn (mA S 36) (pL (hsu S c) (fun k => hmf S c (w k)) cn)) (moT (hsu S c) (fun k => hmf S c (w k)) cn (mA S 37) (pL (hsu S c) (fun k => hmf S c (w k)) cn)) W) := ((h.setA _ _).setA _ _).scM _ _ _ _
          have hii : (nI i).toInt = i := nI_toInt (by omega)
          have hic : (nI i).toNatClampNeg = i := nI_clamp (by omega)
          have hwi : w i < 12 := hC.2.1 i hi
          have hwc : (nI (w i)).toNatClampNeg = w i := nI_clamp (by omega)
          have hW : W i = nI (w i) := (hI3 i hi).1
          have hsv : (shT (hsu S c) (fun k => hmf S c (w k)) cn (mA S 36) (pL (hsu S c) (fun k => hmf S c (w k)) cn)) i = (nI (prt (hsu S c) (hmf S c) 12 (w i))) := by rw [shT_prt hi, hC.pt h0 hi]
          refine r_iload dX9_haul_108 rfl ?_
          refine r_iload_n dX9_haul_110 rfl rfl ?_
          refine r_icmp_ge 161 dX9_haul_111 (by decide) (fun q111 => ?_) (fun q111 => ?_)
          · skip
            exact absurd q111 (by rw [fa_le, hii, nI_toInt (by omega)]; omega)
          · skip
            refine r_aload_n dX9_haul_114 rfl rfl ?_
            refine r_getR dX9_haul_115 lf_X9_26 rfl rfl (shM_R hsh (j := 5) rfl) (shM_L hsh (j := 5) rfl) ?_
            refine r_aload_n dX9_haul_118 rfl rfl ?_
            refine r_getR dX9_haul_119 lf_X9_96 rfl rfl (shM_R hsh (j := 38) rfl) (shM_L hsh (j := 38) rfl) ?_
            refine r_iload dX9_haul_122 rfl ?_
            refine r_iald dX9_haul_124 rfl (show vp_in (nI i) 12 from vp_in_nI (by omega) (by omega)) ?_
            rw [scM_A38, hic, hW]
            refine r_aload_n dX9_haul_125 rfl rfl ?_
            refine r_getR dX9_haul_126 lf_X9_90 rfl rfl (shM_R hsh (j := 36) rfl) (shM_L hsh (j := 36) rfl) ?_
            refine r_iload dX9_haul_129 rfl ?_
            refine r_iald dX9_haul_131 rfl (show vp_in (nI i) 12 from vp_in_nI (by omega) (by omega)) ?_
            rw [scM_A36, hic, hsv]
            refine r_iast dX9_haul_132 rfl (show vp_in (nI (w i)) 12 from vp_in_nI (by omega) (by omega)) ?_
            rw [hwc, ha_A5, ha_5]
            have hsh : ShM (scM (setA (setA S (ma 5) (upd a.1 (w i) (nI (prt (hsu S c) (hmf S c) 12 (w i))))) (ma 4) a.2) Mr (shT (hsu S c) (fun k => hmf S c (w k)) cn (mA S 36) (pL (hsu S c) (fun k => hmf S c (w k)) cn)) (moT (hsu S c) (fun k => hmf S c (w k)) cn (mA S 37) (pL (hsu S c) (fun k => hmf S c (w k)) cn)) W) := ((h.setA _ _).setA _ _).scM _ _ _ _
            refine r_aload_n dX9_haul_133 rfl rfl ?_
            refine r_getR dX9_haul_134 lf_X9_23 rfl rfl (shM_R hsh (j := 4) rfl) (shM_L hsh (j := 4) rfl) ?_
            refine r_aload_n dX9_haul_137 rfl rfl ?_
            refine r_getR dX9_haul_138 lf_X9_96 rfl rfl (shM_R hsh (j := 38) rfl) (shM_L hsh (j := 38) rfl) ?_
            refine r_iload dX9_haul_141 rfl ?_
            refine r_iald dX9_haul_143 rfl (show vp_in (nI i) 12 from vp_in_nI (by omega) (by omega)) ?_
            rw [scM_A38, hic, hW]
            refine r_dup2 dX9_haul_144 rfl rfl ?_
            refine r_iald dX9_haul_145 rfl (show vp_in (nI (w i)) 12 from vp_in_nI (by omega) (by omega)) ?_
            rw [hwc, ha_A4]
            refine r_aload_n dX9_haul_146 rfl rfl ?_
            refine r_getR dX9_haul_147 lf_X9_90 rfl rfl (shM_R hsh (j := 36) rfl) (shM_L hsh (j := 36) rfl) ?_
            refine r_iload dX9_haul_150 rfl ?_
            refine r_iald dX9_haul_152 rfl (show vp_in (nI i) 12 from vp_in_nI (by omega) (by omega)) ?_
            rw [scM_A36, hic, hsv]
            refine r_iadd dX9_haul_153 ?_
            refine r_iast dX9_haul_154 rfl (show vp_in (nI (w i)) 12 from vp_in_nI (by omega) (by omega)) ?_
            rw [hwc, ha_A4, ha_4]
            refine r_in5 dX9_haul_155 (show _ + Int32.ofInt 1 = _ + 1 from rfl) (Nat.le_of_ble_eq_true rfl) rfl ?_
            refine r_goto 108 dX9_haul_158 (by decide) ?_
            rw [nI_1 i]
            exact ih (upd a.1 (w i) (nI (prt (hsu S c) (hmf S c) 12 (w i))), upd a.2 (w i) (a.2 (w i) + (nI (prt (hsu S c) (hmf S c) 12 (w i))))) (hFv_step hI (fun j hj e => by have := hC.1 j i hj hi; omega))
      · skip
        have e0 : cn = 0 := by have := congrArg Int32.toInt q78; rw [nI_toInt (by omega)] at this; have h9 : (0 : Int32).toInt = 0 := rfl; omega
        refine r_iconst (v := 0) dX9_haul_81 (by decide) ?_
        exact r_iret dX9_haul_82 rfl (Nat.zero_le _) (Nat.zero_le _) ⟨_, rfl, by
            have hz : ∀ b, hmf S c b = 0 := fun b => by
              by_cases q : hmf S c b = 0
              · exact q
              · by_cases qb : b < 12
                · obtain ⟨k, hk, _⟩ := hC.2.2.1 b qb q
                  omega
                · exact absurd (if_neg (by omega)) q
            obtain ⟨e1, e2⟩ := haM_none hz
            rw [e1, e2]
            exact ⟨rfl, _, _, _, _, rfl⟩⟩
    · skip
      exact absurd (by rw [h25, hnbI]; exact Int32.le_refl _) q13
  · intro i a hi hI ih
    have hsh : ShM (scM S a.2.2.2 (mA S 36) (mA S 37) a.2.2.1) := h.scM _ _ _ _
    have h25 : sI (scM S a.2.2.2 (mA S 36) (mA S 37) a.2.2.1) (fid 9 25) 2000 = mI S 25 := scM_I _ _ _ _ _ _
    have hii : (nI i).toInt = i := nI_toInt (by omega)
    have hic : (nI i).toNatClampNeg = i := nI_clamp (by omega)
    have hn1 : a.1 ≤ i := hI.1
    have hnc : (nI a.1).toNatClampNeg = a.1 := nI_clamp (by omega)
    refine r_iload dX9_haul_7 rfl ?_
    refine r_aload_n dX9_haul_9 rfl rfl ?_
    refine r_getI dX9_haul_10 lf_X9_126 rfl rfl ?_
    refine r_icmp_ge 77 dX9_haul_13 (by decide) (fun q13 => ?_) (fun q13 => ?_)
    · skip
      exact absurd q13 (by rw [h25, ← hnbI, fa_le, hii, nI_toInt (by omega)]; omega)
    · skip
      refine r_aload_n dX9_haul_16 rfl rfl ?_
      refine r_getR dX9_haul_17 lf_X9_20 rfl rfl (shM_R hsh (j := 3) rfl) (shM_L hsh (j := 3) rfl) ?_
      refine r_iload dX9_haul_20 rfl ?_
      refine r_iald dX9_haul_22 rfl (show vp_in (nI i) 12 from vp_in_nI (by omega) (by omega)) ?_
      rw [scM_A (j := 3) (Or.inl (by decide)), hic]
      refine r_iload_n dX9_haul_23 rfl rfl ?_
      refine r_icmp_ne 71 dX9_haul_24 (by decide) (fun q24 => ?_) (fun q24 => ?_)
      · skip
        have h0 : hmf S c i = 0 := hmf_no q24
        refine r_in4 dX9_haul_71 (show _ + Int32.ofInt 1 = _ + 1 from rfl) (Nat.le_of_ble_eq_true rfl) rfl ?_
        refine r_goto 7 dX9_haul_74 (by decide) ?_
        have hs := fb_sm_succ (hmf S c) i
        first
          | (rw [h0] at hs; rw [nI_1 i]; have h9 := ih a (hIv_skip hI h0); rw [hs, Nat.add_zero] at h9; exact h9)
          | (have h9 := ih _ (hIv_take hI h1 rfl); rw [hs] at h9; dsimp only at h9; rw [nI_1 i, nI_1 a.1]; exact h9)
      · skip
        refine r_aload_n dX9_haul_27 rfl rfl ?_
        refine r_getR dX9_haul_28 lf_X9_17 rfl rfl (shM_R hsh (j := 2) rfl) (shM_L hsh (j := 2) rfl) ?_
        refine r_iload dX9_haul_31 rfl ?_
        refine r_iald dX9_haul_33 rfl (show vp_in (nI i) 12 from vp_in_nI (by omega) (by omega)) ?_
        rw [scM_A (j := 2) (Or.inl (by decide)), hic]
        refine r_if_le 71 dX9_haul_34 (by decide) (fun q34 => ?_) (fun q34 => ?_)
        · skip
          have h0 : hmf S c i = 0 := by rw [hmf_in hi q24]; rw [fa_le] at q34; unfold nn; have : (0 : Int32).toInt = 0 := rfl; have : (mA S 2 i).toInt = (sA S (ma 2) i).toInt := rfl; omega
          refine r_in4 dX9_haul_71 (show _ + Int32.ofInt 1 = _ + 1 from rfl) (Nat.le_of_ble_eq_true rfl) rfl ?_
          refine r_goto 7 dX9_haul_74 (by decide) ?_
          have hs := fb_sm_succ (hmf S c) i
          first
            | (rw [h0] at hs; rw [nI_1 i]; have h9 := ih a (hIv_skip hI h0); rw [hs, Nat.add_zero] at h9; exact h9)
            | (have h9 := ih _ (hIv_take hI h1 rfl); rw [hs] at h9; dsimp only at h9; rw [nI_1 i, nI_1 a.1]; exact h9)
        · skip
          have h1 : hmf S c i ≠ 0 := by
            rw [hmf_in hi q24]
            rw [fa_le] at q34
            unfold nn
            have : (0 : Int32).toInt = 0 := rfl
            have : (mA S 2 i).toInt = (sA S (ma 2) i).toInt := rfl
            omega
          have h2 : mA S 2 i = nI (hmf S c i) := by rw [hmf_in hi q24, nI_nn (hn i (by omega)).1]
          refine r_aload_n dX9_haul_37 rfl rfl ?_
          refine r_getR dX9_haul_38 lf_X9_96 rfl rfl (shM_R hsh (j := 38) rfl) (shM_L hsh (j := 38) rfl) ?_
          refine r_iload_n dX9_haul_41 rfl rfl ?_
          refine r_iload dX9_haul_42 rfl ?_
          refine r_iast dX9_haul_44 rfl (show vp_in (nI a.1) 12 from vp_in_nI (by omega) (by omega)) ?_
          rw [hnc, scM_A38, scM_38]
          have hsh : ShM (scM S a.2.2.2 (mA S 36) (mA S 37) (upd a.2.2.1 a.1 (nI i))) := h.scM _ _ _ _
          refine r_aload_n dX9_haul_45 rfl rfl ?_
          refine r_getR dX9_haul_46 lf_X9_87 rfl rfl (shM_R hsh (j := 35) rfl) (shM_L hsh (j := 35) rfl) ?_
          refine r_iload_n dX9_haul_49 rfl rfl ?_
          refine r_aload_n dX9_haul_50 rfl rfl ?_
          refine r_getR dX9_haul_51 lf_X9_17 rfl rfl (shM_R hsh (j := 2) rfl) (shM_L hsh (j := 2) rfl) ?_
          refine r_iload dX9_haul_54 rfl ?_
          refine r_iald dX9_haul_56 rfl (show vp_in (nI i) 12 from vp_in_nI (by omega) (by omega)) ?_
          rw [scM_A (j := 2) (Or.inl (by decide)), hic]
          refine r_iast dX9_haul_57 rfl (show vp_in (nI a.1) 12 from vp_in_nI (by omega) (by omega)) ?_
          rw [hnc, scM_A35, scM_35]
          have hsh : ShM (scM S (upd a.2.2.2 a.1 (mA S 2 i)) (mA S 36) (mA S 37) (upd a.2.2.1 a.1 (nI i))) := h.scM _ _ _ _
          refine r_iload_n dX9_haul_58 rfl rfl ?_
          refine r_aload_n dX9_haul_59 rfl rfl ?_
          refine r_getR dX9_haul_60 lf_X9_17 rfl rfl (shM_R hsh (j := 2) rfl) (shM_L hsh (j := 2) rfl) ?_
          refine r_iload dX9_haul_63 rfl ?_
          refine r_iald dX9_haul_65 rfl (show vp_in (nI i) 12 from vp_in_nI (by omega) (by omega)) ?_
          rw [scM_A (j := 2) (Or.inl (by decide)), hic, show sA S (ma 2) i = nI (hmf S c i) from h2]
          refine r_iadd dX9_haul_66 ?_
          rw [nI_add]
          refine r_ist3 dX9_haul_67 (Nat.le_of_ble_eq_true rfl) rfl ?_
          refine r_in2 dX9_haul_68 (show _ + Int32.ofInt 1 = _ + 1 from rfl) (Nat.le_of_ble_eq_true rfl) rfl ?_
          refine r_in4 dX9_haul_71 (show _ + Int32.ofInt 1 = _ + 1 from rfl) (Nat.le_of_ble_eq_true rfl) rfl ?_
          refine r_goto 7 dX9_haul_74 (by decide) ?_
          have hs := fb_sm_succ (hmf S c) i
          first
            | (rw [h0] at hs; rw [nI_1 i]; have h9 := ih a (hIv_skip hI h0); rw [hs, Nat.add_zero] at h9; exact h9)
            | (have h9 := ih _ (hIv_take hI h1 rfl); rw [hs] at h9; dsimp only at h9; rw [nI_1 i, nI_1 a.1]; exact h9)
