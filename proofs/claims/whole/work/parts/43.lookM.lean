/-! ===== the reference: texts looked at; numbers ===== -/
/-- where it looks, what is wrong, how deep, how much is said, what -/
abbrev TX : Type := Nat × Int32 × Nat × Nat × (Nat → Int32)
def txM (S : HS) (t : TX) : HS := setA (setI (setI (setI (setI S (fid 9 48) 2000 (nI t.1)) (fid 9 49) 2000 t.2.1) (fid 9 50) 2000 (nI t.2.2.1)) (fid 9 51) 2000 (nI t.2.2.2.1)) (ma 45) t.2.2.2.2
theorem tx_sh {S : HS} (h : ShM S) (t : TX) : ShM (txM S t) := ((((h.setI _ _ _).setI _ _ _).setI _ _ _).setI _ _ _).setA _ _
theorem tx_I {S : HS} {t : TX} {f a : Nat} (h : f ≠ fid 9 48 ∧ f ≠ fid 9 49 ∧ f ≠ fid 9 50 ∧ f ≠ fid 9 51) : sI (txM S t) f a = sI S f a := by
  unfold txM
  rw [sI_setA, sI_setIn (Or.inl h.2.2.2), sI_setIn (Or.inl h.2.2.1), sI_setIn (Or.inl h.2.1), sI_setIn (Or.inl h.1)]
theorem tx_48 {S : HS} {t : TX} : sI (txM S t) (fid 9 48) 2000 = nI t.1 := by
  unfold txM
  rw [sI_setA, sI_setIn (Or.inl (by decide)), sI_setIn (Or.inl (by decide)), sI_setIn (Or.inl (by decide)), sI_setIe]
theorem tx_49 {S : HS} {t : TX} : sI (txM S t) (fid 9 49) 2000 = t.2.1 := by
  unfold txM
  rw [sI_setA, sI_setIn (Or.inl (by decide)), sI_setIn (Or.inl (by decide)), sI_setIe]
theorem tx_50 {S : HS} {t : TX} : sI (txM S t) (fid 9 50) 2000 = nI t.2.2.1 := by
  unfold txM
  rw [sI_setA, sI_setIn (Or.inl (by decide)), sI_setIe]
theorem tx_51 {S : HS} {t : TX} : sI (txM S t) (fid 9 51) 2000 = nI t.2.2.2.1 := by
  unfold txM
  rw [sI_setA, sI_setIe]
theorem tx_45 {S : HS} {t : TX} : sA (txM S t) (ma 45) = t.2.2.2.2 := by
  unfold txM
  rw [sA_set]
theorem tx_A {S : HS} {t : TX} {a : Nat} (h : a ≠ ma 45) : sA (txM S t) a = sA S a := by
  unfold txM
  rw [sA_setn h, sA_setI, sA_setI, sA_setI, sA_setI]
theorem setI_setA2 (S : HS) (f x : Nat) (v : Int32) (a : Nat) (r : Nat → Int32) : setI (setA S a r) f x v = setA (setI S f x v) a r := rfl
theorem tx_s48 (S : HS) (t : TX) (n : Nat) : setI (txM S t) (fid 9 48) 2000 (nI n) = txM S (n, t.2) := by
  unfold txM
  rw [setI_setA2, setI_comm _ _ _ (show fid 9 51 ≠ fid 9 48 by decide), setI_comm _ _ _ (show fid 9 50 ≠ fid 9 48 by decide), setI_comm _ _ _ (show fid 9 49 ≠ fid 9 48 by decide), setI_setI]
theorem tx_s49 (S : HS) (t : TX) (v : Int32) : setI (txM S t) (fid 9 49) 2000 v = txM S (t.1, v, t.2.2) := by
  unfold txM
  rw [setI_setA2, setI_comm _ _ _ (show fid 9 51 ≠ fid 9 49 by decide), setI_comm _ _ _ (show fid 9 50 ≠ fid 9 49 by decide), setI_setI]
theorem tx_s50 (S : HS) (t : TX) (n : Nat) : setI (txM S t) (fid 9 50) 2000 (nI n) = txM S (t.1, t.2.1, n, t.2.2.2) := by
  unfold txM
  rw [setI_setA2, setI_comm _ _ _ (show fid 9 51 ≠ fid 9 50 by decide), setI_setI]
theorem tx_say (S : HS) (t : TX) (n : Nat) (r : Nat → Int32) : setI (setA (txM S t) (ma 45) r) (fid 9 51) 2000 (nI n) = txM S (t.1, t.2.1, t.2.2.1, n, r) := by
  unfold txM
  rw [setA_setA, setI_setA2, setI_setI]
/-- past blanks, n places at most -/
def skM (row : Nat → Int32) : Nat → Nat → Nat
  | a, 0 => a
  | a, n + 1 => if row a = 32 then skM row (a + 1) n else a
theorem skM_sp (row : Nat → Int32) : ∀ n a, a ≤ skM row a n ∧ skM row a n ≤ a + n ∧ (∀ j, a ≤ j → j < skM row a n → row j = 32) ∧ (skM row a n < a + n → ¬ row (skM row a n) = 32)
  | 0, a => ⟨Nat.le_refl _, Nat.le_refl _, fun j h1 h2 => absurd h2 (by show ¬ j < a; omega), fun h => absurd h (by show ¬ a < a + 0; omega)⟩
  | n + 1, a => by
    obtain ⟨h1, h2, h3, h4⟩ := skM_sp row n (a + 1)
    unfold skM
    by_cases q : row a = 32
    · rw [if_pos q]
      refine ⟨by omega, by omega, fun j e1 e2 => ?_, fun e => h4 (by omega)⟩
      by_cases z : j = a
      · rw [z]; exact q
      · exact h3 j (by omega) e2
    · rw [if_neg q]
      exact ⟨Nat.le_refl _, by omega, fun j e1 e2 => absurd e2 (by omega), fun _ => q⟩
/-- the size of the tape -/
def szM (S : HS) : Nat := nn (mI S 47)
/-- where it stands once it has looked -/
def lkP (S : HS) (a : Nat) : Nat := skM (mA S 43) a (szM S - a)
/-- what it sees there -/
def lkC (S : HS) (a : Nat) : Int32 := if a < szM S then mA S 43 a else -1
theorem lkP_sp (S : HS) (a : Nat) : a ≤ lkP S a ∧ (lkP S a ≤ szM S ∨ lkP S a = a) ∧ (∀ j, a ≤ j → j < lkP S a → j < szM S ∧ mA S 43 j = 32) ∧ ¬ (lkP S a < szM S ∧ mA S 43 (lkP S a) = 32) := by
  obtain ⟨h1, h2, h3, h4⟩ := skM_sp (mA S 43) (szM S - a) a
  unfold lkP
  by_cases q : a ≤ szM S
  · exact ⟨h1, Or.inl (by omega), fun j e1 e2 => ⟨by omega, h3 j e1 e2⟩, fun z => h4 (by omega) z.2⟩
  · rw [show szM S - a = 0 by omega]
    exact ⟨Nat.le_refl _, Or.inr rfl, fun j e1 e2 => absurd e2 (by show ¬ j < a; omega), fun z => absurd z.1 (by show ¬ a < szM S; omega)⟩
/-- a digit stands at a -/
def dgB (S : HS) (a : Nat) : Bool := decide (a < szM S ∧ 48 ≤ (mA S 43 a).toInt ∧ (mA S 43 a).toInt ≤ 57)
theorem dgB_iff {S : HS} {a : Nat} : dgB S a = true ↔ (a < szM S ∧ 48 ≤ (mA S 43 a).toInt ∧ (mA S 43 a).toInt ≤ 57) := decide_eq_true_iff
/-- digits, n at most, behind the value v -/
def nuL (S : HS) : Nat → Nat → Int32 → Nat × Option Int32
  | 0, a, v => if dgB S a = true then (a, none) else (a, some v)
  | n + 1, a, v => if dgB S a = true then nuL S n (a + 1) (10 * v + mA S 43 a - 48) else (a, some v)
def nuE (t : TX) (x : Nat × Option Int32) : TX := match x.2 with
  | none => (x.1, nI x.1, t.2.2)
  | some v => (x.1, t.2.1, t.2.2.1, t.2.2.2.1 + 1, upd t.2.2.2.2 t.2.2.2.1 v)
def nuM (S : HS) (t : TX) : TX := if dgB S (lkP S t.1) = true then nuE t (nuL S 5 (lkP S t.1) 0) else (lkP S t.1, nI (lkP S t.1), t.2.2)
set_option maxHeartbeats 4000000 in
theorem c_X9_look {l : Launch} {G : va_G} {cy : Nat → ClassId} (t : TX) (S : HS) (h : ShM S) (hz : 0 ≤ (mI S 47).toInt ∧ (mI S 47).toInt ≤ 200) (ha : t.1 ≤ 215) : Cn l G cy yX9_look cX9_look 1 (some .int) 0 [.ref 2000] (txM S t) 0 0 (qI (fun r S2 => r = lkC S (lkP S t.1) ∧ S2 = txM S ((lkP S t.1), t.2))) := by
  refine Cn.of [some (.ref 2000)] (by decide) rfl (Nat.le_of_ble_eq_true rfl) ?_
  have hsz : szM S ≤ 200 := by unfold szM nn; omega
  have hszI : nI (szM S) = mI S 47 := nI_nn hz.1
  obtain ⟨k1, k2, k3, k4⟩ := lkP_sp S t.1
  have hsh : ShM (txM S t) := tx_sh h t
  refine R.heap (S2 := txM S (t.1 + 0, t.2)) rfl ?_
  refine R.for (α := Unit) (((lkP S t.1) - t.1)) (fun i a => [some (.ref 2000)]) (fun i a => (txM S (t.1 + i, t.2))) (fun i a => True) ?_ ?_ 0 () (Nat.zero_le _) trivial
  · intro a hI
    rw [show t.1 + ((lkP S t.1) - t.1) = (lkP S t.1) by omega]
    have hsh : ShM (txM S ((lkP S t.1), t.2)) := tx_sh h _
    have e48 : sI (txM S ((lkP S t.1), t.2)) (fid 9 48) 2000 = nI ((lkP S t.1)) := tx_48
    have e47 : sI (txM S ((lkP S t.1), t.2)) (fid 9 47) 2000 = mI S 47 := tx_I (by decide)
    have e43 : sA (txM S ((lkP S t.1), t.2)) (ma 43) = mA S 43 := tx_A (by decide)
    have hii : (nI ((lkP S t.1))).toInt = (((lkP S t.1) : Nat) : Int) := nI_toInt (by omega)
    have hic : (nI ((lkP S t.1))).toNatClampNeg = (lkP S t.1) := nI_clamp (by omega)
    skip
    refine r_aload_n dX9_look_0 rfl rfl ?_
    refine r_getI dX9_look_1 lf_X9_218 rfl rfl ?_
    rw [e48]
    refine r_aload_n dX9_look_4 rfl rfl ?_
    refine r_getI dX9_look_5 lf_X9_215 rfl rfl ?_
    rw [e47]
    refine r_icmp_ge 38 dX9_look_8 (by decide) (fun q8 => ?_) (fun q8 => ?_)
    · skip
      refine r_aload_n dX9_look_38 rfl rfl ?_
      refine r_getI dX9_look_39 lf_X9_218 rfl rfl ?_
      rw [e48]
      refine r_aload_n dX9_look_42 rfl rfl ?_
      refine r_getI dX9_look_43 lf_X9_215 rfl rfl ?_
      rw [e47]
      refine r_icmp_ge 61 dX9_look_46 (by decide) (fun q46 => ?_) (fun q46 => ?_)
      · skip
        refine r_iconst (v := (-1)) dX9_look_61 (by decide) ?_
        exact r_iret dX9_look_62 rfl (Nat.zero_le _) (Nat.zero_le _) ⟨_, rfl, by
            refine ⟨?_, rfl⟩
            rw [← hszI, fa_le, hii, nI_toInt (by omega)] at q46
            unfold lkC
            first
              | (rw [if_pos (by omega)])
              | (rw [if_neg (by omega)])⟩
      · skip
        refine r_aload_n dX9_look_49 rfl rfl ?_
        refine r_getR dX9_look_50 lf_X9_111 rfl rfl (shM_R hsh (j := 43) rfl) (shM_L hsh (j := 43) rfl) ?_
        refine r_aload_n dX9_look_53 rfl rfl ?_
        refine r_getI dX9_look_54 lf_X9_218 rfl rfl ?_
        rw [e48]
        refine r_iald dX9_look_57 rfl (vp_in_iff.mpr (show 0 ≤ (nI _).toInt ∧ (nI _).toInt < 220 from by rw [← hszI, fa_le, hii, nI_toInt (by omega)] at q46; omega)) ?_
        rw [e43, hic]
        refine r_goto 62 dX9_look_58 (by decide) ?_
        exact r_iret dX9_look_62 rfl (Nat.zero_le _) (Nat.zero_le _) ⟨_, rfl, by
            refine ⟨?_, rfl⟩
            rw [← hszI, fa_le, hii, nI_toInt (by omega)] at q46
            unfold lkC
            first
              | (rw [if_pos (by omega)])
              | (rw [if_neg (by omega)])⟩
    · skip
      refine r_aload_n dX9_look_11 rfl rfl ?_
      refine r_getR dX9_look_12 lf_X9_111 rfl rfl (shM_R hsh (j := 43) rfl) (shM_L hsh (j := 43) rfl) ?_
      refine r_aload_n dX9_look_15 rfl rfl ?_
      refine r_getI dX9_look_16 lf_X9_218 rfl rfl ?_
      rw [e48]
      refine r_iald dX9_look_19 rfl (vp_in_iff.mpr (show 0 ≤ (nI _).toInt ∧ (nI _).toInt < 220 from by rw [← hszI, fa_le, hii, nI_toInt (by omega)] at q8; omega)) ?_
      rw [e43, hic]
      refine r_bipush (v := 32) dX9_look_20 (by decide) ?_
      refine r_icmp_ne 38 dX9_look_22 (by decide) (fun q22 => ?_) (fun q22 => ?_)
      · skip
        refine r_aload_n dX9_look_38 rfl rfl ?_
        refine r_getI dX9_look_39 lf_X9_218 rfl rfl ?_
        rw [e48]
        refine r_aload_n dX9_look_42 rfl rfl ?_
        refine r_getI dX9_look_43 lf_X9_215 rfl rfl ?_
        rw [e47]
        refine r_icmp_ge 61 dX9_look_46 (by decide) (fun q46 => ?_) (fun q46 => ?_)
        · skip
          refine r_iconst (v := (-1)) dX9_look_61 (by decide) ?_
          exact r_iret dX9_look_62 rfl (Nat.zero_le _) (Nat.zero_le _) ⟨_, rfl, by
              refine ⟨?_, rfl⟩
              rw [← hszI, fa_le, hii, nI_toInt (by omega)] at q46
              unfold lkC
              first
                | (rw [if_pos (by omega)])
                | (rw [if_neg (by omega)])⟩
        · skip
          refine r_aload_n dX9_look_49 rfl rfl ?_
          refine r_getR dX9_look_50 lf_X9_111 rfl rfl (shM_R hsh (j := 43) rfl) (shM_L hsh (j := 43) rfl) ?_
          refine r_aload_n dX9_look_53 rfl rfl ?_
          refine r_getI dX9_look_54 lf_X9_218 rfl rfl ?_
          rw [e48]
          refine r_iald dX9_look_57 rfl (vp_in_iff.mpr (show 0 ≤ (nI _).toInt ∧ (nI _).toInt < 220 from by rw [← hszI, fa_le, hii, nI_toInt (by omega)] at q46; omega)) ?_
          rw [e43, hic]
          refine r_goto 62 dX9_look_58 (by decide) ?_
          exact r_iret dX9_look_62 rfl (Nat.zero_le _) (Nat.zero_le _) ⟨_, rfl, by
              refine ⟨?_, rfl⟩
              rw [← hszI, fa_le, hii, nI_toInt (by omega)] at q46
              unfold lkC
              first
                | (rw [if_pos (by omega)])
                | (rw [if_neg (by omega)])⟩
      · skip
        exact absurd ⟨by rw [← hszI, fa_le, hii, nI_toInt (by omega)] at q8; omega, q22⟩ k4
  · intro i a hi hI ih
    have hj := k3 (t.1 + i) (by omega) (by omega)
    have hsh : ShM (txM S (t.1 + i, t.2)) := tx_sh h _
    have e48 : sI (txM S (t.1 + i, t.2)) (fid 9 48) 2000 = nI (t.1 + i) := tx_48
    have e47 : sI (txM S (t.1 + i, t.2)) (fid 9 47) 2000 = mI S 47 := tx_I (by decide)
    have e43 : sA (txM S (t.1 + i, t.2)) (ma 43) = mA S 43 := tx_A (by decide)
    have hii : (nI (t.1 + i)).toInt = ((t.1 + i : Nat) : Int) := nI_toInt (by omega)
    have hic : (nI (t.1 + i)).toNatClampNeg = t.1 + i := nI_clamp (by omega)
    skip
    refine r_aload_n dX9_look_0 rfl rfl ?_
    refine r_getI dX9_look_1 lf_X9_218 rfl rfl ?_
    rw [e48]
    refine r_aload_n dX9_look_4 rfl rfl ?_
    refine r_getI dX9_look_5 lf_X9_215 rfl rfl ?_
    rw [e47]
    refine r_icmp_ge 38 dX9_look_8 (by decide) (fun q8 => ?_) (fun q8 => ?_)
    · skip
      exact absurd q8 (by rw [← hszI, fa_le, hii, nI_toInt (by omega)]; omega)
    · skip
      refine r_aload_n dX9_look_11 rfl rfl ?_
      refine r_getR dX9_look_12 lf_X9_111 rfl rfl (shM_R hsh (j := 43) rfl) (shM_L hsh (j := 43) rfl) ?_
      refine r_aload_n dX9_look_15 rfl rfl ?_
      refine r_getI dX9_look_16 lf_X9_218 rfl rfl ?_
      rw [e48]
      refine r_iald dX9_look_19 rfl (vp_in_iff.mpr (show 0 ≤ (nI _).toInt ∧ (nI _).toInt < 220 from by rw [← hszI, fa_le, hii, nI_toInt (by omega)] at q8; omega)) ?_
      rw [e43, hic]
      refine r_bipush (v := 32) dX9_look_20 (by decide) ?_
      refine r_icmp_ne 38 dX9_look_22 (by decide) (fun q22 => ?_) (fun q22 => ?_)
      · skip
        exact absurd hj.2 q22
      · skip
        refine r_aload_n dX9_look_25 rfl rfl ?_
        refine r_dup dX9_look_26 rfl ?_
        refine r_getI dX9_look_27 lf_X9_218 rfl rfl ?_
        rw [e48]
        refine r_iconst (v := 1) dX9_look_30 (by decide) ?_
        refine r_iadd dX9_look_31 ?_
        refine r_putI dX9_look_32 (lp_X9_218 _) rfl rfl ?_
        refine r_goto 0 dX9_look_35 (by decide) ?_
        skip
        rw [nI_1 (t.1 + i), tx_s48]
        exact ih () trivial
