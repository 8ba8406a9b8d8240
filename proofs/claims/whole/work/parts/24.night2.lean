/-! ===== the system: a night's beginning, hauls ===== -/
theorem ShC.same {S S2 : HS} (h : ShC S) (hL : sL S2 = sL S) (hR : sR S2 = sR S) (hQ : sQ S2 = sQ S) (h9 : sI S2 (fid 8 9) 0 = sI S (fid 8 9) 0) (h10 : sI S2 (fid 8 10) 0 = sI S (fid 8 10) 0) (h11 : sI S2 (fid 8 11) 0 = sI S (fid 8 11) 0) : ShC S2 := by
  unfold ShC ShF cI at *
  rw [hL, hR, hQ, h9, h10, h11]
  exact h
theorem ShC.setI {S : HS} (h : ShC S) {f a : Nat} {v : Int32} (hf : f < 512) : ShC (setI S f a v) := by
  refine h.same rfl rfl rfl ?_ ?_ ?_ <;> simp only [sI_setI, up2] <;> rw [if_neg (by unfold fid; omega)]
theorem ShC.setA {S : HS} (h : ShC S) {a : Nat} {r : Nat → Int32} : ShC (setA S a r) := h.same rfl rfl rfl rfl rfl rfl
theorem ShC.scr {S : HS} (h : ShC S) {x : Int32} {a b c : Nat → Int32} : ShC (scr S x a b c) := (((h.setI (by decide)).setA).setA).setA
def stormC (S : HS) (c g : Int32) : Prop := ¬ g.toInt = 0 ∧ (0 ≤ c.toInt ∧ c.toInt < 36) ∧ ¬ (sA S 3 c.toNatClampNeg).toInt = 0
def stormD (S : HS) (c g : Int32) : Decidable (stormC S c g) := by unfold stormC; exact inferInstance
def loseS (S : HS) (o : Nat) : HS := setI (setI S (fid 0 2) o (sI S (fid 0 2) o - sI S (fid 0 2) o / 5)) (fid 0 7) o (sI S (fid 0 7) o + sI S (fid 0 2) o / 5)
/-- the heap when i boats have begun their night -/
def bnS (g : Int32) (S : HS) : Nat → HS
  | 0 => S
  | i + 1 => if ¬ g.toInt = 0 ∧ (0 ≤ (sI (bnS g S i) (fid 0 3) (100 + 3 * i)).toInt ∧ (sI (bnS g S i) (fid 0 3) (100 + 3 * i)).toInt < 36) ∧ ¬ (sA (bnS g S i) 3 (sI (bnS g S i) (fid 0 3) (100 + 3 * i)).toNatClampNeg).toInt = 0 then loseS (setI (bnS g S i) (fid 0 5) (100 + 3 * i) 0) (100 + 3 * i) else setI (bnS g S i) (fid 0 5) (100 + 3 * i) 0
/-- the heap when i yards have begun their day -/
def ydS (S : HS) : Nat → HS
  | 0 => S
  | i + 1 => setA (setI (ydS S i) (fid 7 4) (200 + 2 * i) (sI (ydS S i) (fid 7 2) (200 + 2 * i))) (201 + 2 * i) (fillR (fun _ => 0) (sA (ydS S i) (201 + 2 * i)) 6)
theorem bnS_sh {g : Int32} {S : HS} (h : ShC S) : ∀ i, ShC (bnS g S i)
  | 0 => h
  | i + 1 => by
    have ih := bnS_sh (g := g) h i
    have h1 : ShC (setI (bnS g S i) (fid 0 5) (100 + 3 * i) 0) := ih.setI (by decide)
    show ShC (if _ then _ else _)
    split
    · exact (h1.setI (by decide)).setI (by decide)
    · exact h1
theorem bnS_I {g : Int32} {S : HS} {f : Nat} (hf : 64 ≤ f) (a : Nat) : ∀ i, sI (bnS g S i) f a = sI S f a
  | 0 => rfl
  | i + 1 => by
    have ih := bnS_I (g := g) (S := S) hf a i
    show sI (if _ then _ else _) f a = _
    split
    · simp only [loseS, sI_setI, up2]
      rw [if_neg (by unfold fid; omega), if_neg (by unfold fid; omega), if_neg (by unfold fid; omega)]
      exact ih
    · simp only [sI_setI, up2]
      rw [if_neg (by unfold fid; omega)]
      exact ih
theorem ydS_sh {S : HS} (h : ShC S) : ∀ i, ShC (ydS S i)
  | 0 => h
  | i + 1 => ((ydS_sh h i).setI (by decide)).setA
theorem ydS_I {S : HS} {f : Nat} (hf : 512 ≤ f) (a : Nat) : ∀ i, sI (ydS S i) f a = sI S f a
  | 0 => rfl
  | i + 1 => by
    show up2 (sI (ydS S i)) _ _ _ f a = _
    unfold up2
    rw [if_neg (by unfold fid; omega)]
    exact ydS_I hf a i
set_option maxHeartbeats 4000000 in
theorem c_X8_beginNight {l : Launch} {G : va_G} {cy : Nat → ClassId} (g : Int32) (S : HS) (h : ShC S) : Cn l G cy yX8_beginNight cX8_beginNight 4 none 2 [.ref 0, .int g] S 0 0 (qV (fun S2 => S2 = ydS (bnS g S (nn (cI S 9))) (nn (cI S 10)))) := by
  refine Cn.of [some (.ref 0), some (.int g), none, none] (by decide) rfl (Nat.le_of_ble_eq_true rfl) ?_
  refine r_iconst (v := 0) dX8_beginNight_0 (by decide) ?_
  refine r_ist2 dX8_beginNight_1 (Nat.le_of_ble_eq_true rfl) rfl ?_
  refine R.for (α := Option Value) (nn (cI S 9)) (fun i a => [some (.ref 0), some (.int g), some (.int (nI i)), a]) (fun i a => (bnS g S i)) (fun i a => True) ?_ ?_ 0 none (Nat.zero_le _) trivial
  · intro a hI
    have hbb := h.b
    have hnb := nn_int hbb.1
    have hii : (nI (nn (cI S 9))).toInt = ((nn (cI S 9) : Nat) : Int) := nI_toInt (by omega)
    refine r_iload_n dX8_beginNight_2 rfl rfl ?_
    refine r_aload_n dX8_beginNight_3 rfl rfl ?_
    refine r_getI dX8_beginNight_4 lf_X8_89 rfl rfl ?_
    refine r_icmp_ge 47 dX8_beginNight_7 (by decide) (fun q7 => ?_) (fun q7 => ?_)
    · skip
      refine r_iconst (v := 0) dX8_beginNight_47 (by decide) ?_
      refine r_ist2 dX8_beginNight_48 (Nat.le_of_ble_eq_true rfl) rfl ?_
      refine R.for (α := Option Value) (nn (cI S 10)) (fun i a => [some (.ref 0), some (.int g), some (.int (nI i)), a]) (fun i a => (ydS (bnS g S (nn (cI S 9))) i)) (fun i a => True) ?_ ?_ 0 a (Nat.zero_le _) trivial
      · intro a hI
        have hyy := h.y
        have hny := nn_int hyy.1
        have hii : (nI (nn (cI S 10))).toInt = ((nn (cI S 10) : Nat) : Int) := nI_toInt (by omega)
        refine r_iload_n dX8_beginNight_49 rfl rfl ?_
        refine r_aload_n dX8_beginNight_50 rfl rfl ?_
        refine r_getI dX8_beginNight_51 lf_X8_105 rfl rfl ?_
        refine r_icmp_ge 77 dX8_beginNight_54 (by decide) (fun q54 => ?_) (fun q54 => ?_)
        · skip
          exact r_vret dX8_beginNight_77 rfl (Nat.zero_le _) (Nat.zero_le _) ⟨rfl, rfl⟩
        · skip
          rw [ydS_I (by decide), bnS_I (by decide)] at q54
          exact absurd q54 (by (try simp only [b2i_eq0, b2i_ne0, decide_eq_true_eq] at *); (try simp only [cI, sI_setA, sI_setQ, sI_setR, sA_setI, sA_setR, sA_setQ, fa_lt, fa_le, fa_eq, Int32.reduceToInt] at *); omega)
      · intro i a hi hI ih
        have hyy := h.y
        have hny := nn_int hyy.1
        have hii : (nI i).toInt = i := nI_toInt (by omega)
        have hic : (nI i).toNatClampNeg = i := nI_clamp (by omega)
        have hlt : i < 4 := by omega
        have hkb := tkY hlt
        have hkf := tkYf hlt
        have hnf := tnYf hlt
        have hni : nn (nI i) = i := by unfold nn; omega
        have hsh := ydS_sh (bnS_sh (g := g) h (nn (cI S 9))) i
        have h10 : cI (ydS (bnS g S (nn (cI S 9))) i) 10 = cI S 10 := (ydS_I (by decide) 0 i).trans (bnS_I (by decide) 0 _)
        have hlb : i < nn (cI (ydS (bnS g S (nn (cI S 9))) i) 10) := by rw [h10]; exact hi
        refine r_iload_n dX8_beginNight_49 rfl rfl ?_
        refine r_aload_n dX8_beginNight_50 rfl rfl ?_
        refine r_getI dX8_beginNight_51 lf_X8_105 rfl rfl ?_
        refine r_icmp_ge 77 dX8_beginNight_54 (by decide) (fun q54 => ?_) (fun q54 => ?_)
        · skip
          rw [ydS_I (by decide), bnS_I (by decide)] at q54
          exact absurd q54 (by (try simp only [b2i_eq0, b2i_ne0, decide_eq_true_eq] at *); (try simp only [cI, sI_setA, sI_setQ, sI_setR, sA_setI, sA_setR, sA_setQ, fa_lt, fa_le, fa_eq, Int32.reduceToInt] at *); omega)
        · skip
          refine r_aload_n dX8_beginNight_57 rfl rfl ?_
          refine r_iload_n dX8_beginNight_58 rfl rfl ?_
          refine r_invV1r dX8_beginNight_59 lm_X8_111 rfl (c_X8_yardAt _ (ydS (bnS g S (nn (cI S 9))) i) hsh) (Nat.le_of_ble_eq_true rfl) (Nat.le_of_ble_eq_true rfl) (Nat.zero_le _) (Nat.zero_le _) (fun r59 S59 hq59 => ?_)
          obtain ⟨rfl, hz59⟩ := hq59
          replace hz59 := hz59.symm
          subst hz59
          rw [if_pos (α := Option Nat) (by rw [h10]; omega), hni]
          refine r_ast3 dX8_beginNight_62 (Nat.le_of_ble_eq_true rfl) rfl ?_
          refine r_aload_n dX8_beginNight_63 rfl rfl ?_
          refine r_ifnull dX8_beginNight_64 ?_
          refine r_aload_n dX8_beginNight_67 rfl rfl ?_
          refine r_invV0v dX8_beginNight_68 lm_X8_264 (by first | assumption | rfl) (c_X7_beginDay (200 + 2 * i) (201 + 2 * i) (ydS (bnS g S (nn (cI S 9))) i) hkb (hsh.rY hlb).2 (hsh.lY hlb (j := 1) (by decide)) hkf hnf) (Nat.le_of_ble_eq_true rfl) (Nat.le_of_ble_eq_true rfl) (Nat.zero_le _) (Nat.zero_le _) (fun S68 hq68 => ?_)
          replace hq68 := hq68.symm
          subst hq68
          refine r_in2 dX8_beginNight_71 (show _ + Int32.ofInt 1 = _ + 1 from rfl) (Nat.le_of_ble_eq_true rfl) rfl ?_
          refine r_goto 49 dX8_beginNight_74 (by decide) ?_
          rw [nI_1]
          exact ih (some (.ref (200 + 2 * i))) trivial
    · skip
      rw [bnS_I (by decide)] at q7
      exact absurd q7 (by (try simp only [b2i_eq0, b2i_ne0, decide_eq_true_eq] at *); (try simp only [cI, sI_setA, sI_setQ, sI_setR, sA_setI, sA_setR, sA_setQ, fa_lt, fa_le, fa_eq, Int32.reduceToInt] at *); omega)
  · intro i a hi hI ih
    have hbb := h.b
    have hnb := nn_int hbb.1
    have hii : (nI i).toInt = i := nI_toInt (by omega)
    have hic : (nI i).toNatClampNeg = i := nI_clamp (by omega)
    have hlt : i < 12 := by omega
    have hkb := tkB hlt
    have hni : nn (nI i) = i := by unfold nn; omega
    have hsh := bnS_sh (g := g) h i
    have h9 : cI (bnS g S i) 9 = cI S 9 := bnS_I (by decide) 0 i
    refine r_iload_n dX8_beginNight_2 rfl rfl ?_
    refine r_aload_n dX8_beginNight_3 rfl rfl ?_
    refine r_getI dX8_beginNight_4 lf_X8_89 rfl rfl ?_
    refine r_icmp_ge 47 dX8_beginNight_7 (by decide) (fun q7 => ?_) (fun q7 => ?_)
    · skip
      rw [bnS_I (by decide)] at q7
      exact absurd q7 (by (try simp only [b2i_eq0, b2i_ne0, decide_eq_true_eq] at *); (try simp only [cI, sI_setA, sI_setQ, sI_setR, sA_setI, sA_setR, sA_setQ, fa_lt, fa_le, fa_eq, Int32.reduceToInt] at *); omega)
    · skip
      refine r_aload_n dX8_beginNight_10 rfl rfl ?_
      refine r_iload_n dX8_beginNight_11 rfl rfl ?_
      refine r_invV1r dX8_beginNight_12 lm_X8_95 rfl (c_X8_boatAt _ (bnS g S i) hsh) (Nat.le_of_ble_eq_true rfl) (Nat.le_of_ble_eq_true rfl) (Nat.zero_le _) (Nat.zero_le _) (fun r12 S12 hq12 => ?_)
      obtain ⟨rfl, hz12⟩ := hq12
      replace hz12 := hz12.symm
      subst hz12
      rw [if_pos (α := Option Nat) (by rw [h9]; omega), hni]
      refine r_ast3 dX8_beginNight_15 (Nat.le_of_ble_eq_true rfl) rfl ?_
      refine r_aload_n dX8_beginNight_16 rfl rfl ?_
      refine r_ifnull dX8_beginNight_17 ?_
      refine r_aload_n dX8_beginNight_20 rfl rfl ?_
      refine r_iconst (v := 0) dX8_beginNight_21 (by decide) ?_
      refine r_putI dX8_beginNight_22 (lp_X8_204 _) rfl (by first | assumption | rfl) ?_
      refine r_aload_n dX8_beginNight_25 rfl rfl ?_
      refine r_aload_n dX8_beginNight_26 rfl rfl ?_
      refine r_getI dX8_beginNight_27 lf_X8_99 rfl (by first | assumption | rfl) ?_
      refine r_iload_n dX8_beginNight_30 rfl rfl ?_
      refine r_invV2i dX8_beginNight_31 lm_X8_257 rfl (c_X8_isStormy _ _ _ (hsh.setI (by decide)).F) (Nat.le_of_ble_eq_true rfl) (Nat.le_of_ble_eq_true rfl) (Nat.zero_le _) (Nat.zero_le _) (fun r31 S31 hq31 => ?_)
      obtain ⟨rfl, hz31⟩ := hq31
      replace hz31 := hz31.symm
      subst hz31
      refine r_if_eq 41 dX8_beginNight_34 (by decide) (fun q34 => ?_) (fun q34 => ?_)
      · skip
        refine r_in2 dX8_beginNight_41 (show _ + Int32.ofInt 1 = _ + 1 from rfl) (Nat.le_of_ble_eq_true rfl) rfl ?_
        refine r_goto 2 dX8_beginNight_44 (by decide) ?_
        rw [nI_1]
        first
          | (refine R.heap (S2 := bnS g S (i + 1)) (show _ = if (¬ g.toInt = 0 ∧ (0 ≤ (sI (bnS g S i) (fid 0 3) (100 + 3 * i)).toInt ∧ (sI (bnS g S i) (fid 0 3) (100 + 3 * i)).toInt < 36) ∧ ¬ (sA (bnS g S i) 3 (sI (bnS g S i) (fid 0 3) (100 + 3 * i)).toNatClampNeg).toInt = 0) then _ else _ from (if_pos (b2i_ne0.mp q34)).symm) (ih (some (.ref (100 + 3 * i))) trivial); done)
          | (refine R.heap (S2 := bnS g S (i + 1)) (show _ = if (¬ g.toInt = 0 ∧ (0 ≤ (sI (bnS g S i) (fid 0 3) (100 + 3 * i)).toInt ∧ (sI (bnS g S i) (fid 0 3) (100 + 3 * i)).toInt < 36) ∧ ¬ (sA (bnS g S i) 3 (sI (bnS g S i) (fid 0 3) (100 + 3 * i)).toNatClampNeg).toInt = 0) then _ else _ from (if_neg (b2i_eq0.mp q34)).symm) (ih (some (.ref (100 + 3 * i))) trivial); done)
      · skip
        refine r_aload_n dX8_beginNight_37 rfl rfl ?_
        refine r_invV0v dX8_beginNight_38 lm_X8_261 (by first | assumption | rfl) (c_X0_loseNets _ _ hkb) (Nat.le_of_ble_eq_true rfl) (Nat.le_of_ble_eq_true rfl) (Nat.zero_le _) (Nat.zero_le _) (fun S38 hq38 => ?_)
        replace hq38 := hq38.symm
        subst hq38
        refine r_in2 dX8_beginNight_41 (show _ + Int32.ofInt 1 = _ + 1 from rfl) (Nat.le_of_ble_eq_true rfl) rfl ?_
        refine r_goto 2 dX8_beginNight_44 (by decide) ?_
        rw [nI_1]
        first
          | (refine R.heap (S2 := bnS g S (i + 1)) (show _ = if (¬ g.toInt = 0 ∧ (0 ≤ (sI (bnS g S i) (fid 0 3) (100 + 3 * i)).toInt ∧ (sI (bnS g S i) (fid 0 3) (100 + 3 * i)).toInt < 36) ∧ ¬ (sA (bnS g S i) 3 (sI (bnS g S i) (fid 0 3) (100 + 3 * i)).toNatClampNeg).toInt = 0) then _ else _ from (if_pos (b2i_ne0.mp q34)).symm) (ih (some (.ref (100 + 3 * i))) trivial); done)
          | (refine R.heap (S2 := bnS g S (i + 1)) (show _ = if (¬ g.toInt = 0 ∧ (0 ≤ (sI (bnS g S i) (fid 0 3) (100 + 3 * i)).toInt ∧ (sI (bnS g S i) (fid 0 3) (100 + 3 * i)).toInt < 36) ∧ ¬ (sA (bnS g S i) 3 (sI (bnS g S i) (fid 0 3) (100 + 3 * i)).toNatClampNeg).toInt = 0) then _ else _ from (if_neg (b2i_eq0.mp q34)).symm) (ih (some (.ref (100 + 3 * i))) trivial); done)
