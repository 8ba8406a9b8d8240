/-! ===== the system: texts and the grammar ===== -/
theorem HS_ext {S S2 : HS} (h1 : sL S = sL S2) (h2 : sI S = sI S2) (h3 : sR S = sR S2) (h4 : sA S = sA S2) (h5 : sQ S = sQ S2) : S = S2 := by
  obtain ⟨a, b, c, e, f⟩ := S
  obtain ⟨a2, b2, c2, e2, f2⟩ := S2
  simp only [sL, sI, sR, sA, sQ] at h1 h2 h3 h4 h5
  subst h1; subst h2; subst h3; subst h4; subst h5
  rfl
theorem setI_setI (S : HS) (f a : Nat) (v w : Int32) : setI (setI S f a v) f a w = setI S f a w := by
  refine HS_ext rfl ?_ rfl rfl rfl
  funext g c
  simp only [sI_setI, up2]
  split <;> rfl
theorem setI_comm (S : HS) {f g : Nat} (a c : Nat) (h : f ≠ g) (v w : Int32) : setI (setI S f a v) g c w = setI (setI S g c w) f a v := by
  refine HS_ext rfl ?_ rfl rfl rfl
  funext i j
  simp only [sI_setI, up2]
  by_cases h1 : i = f
  · subst h1
    rw [if_neg (fun q => h q.1)]
    split <;> simp_all
  · rw [if_neg (show ¬ (i = f ∧ j = a) from fun q => h1 q.1), if_neg (show ¬ (i = f ∧ j = a) from fun q => h1 q.1)]
abbrev GT : Type := Int32 × Int32 × Int32
def setG (S : HS) (g : GT) : HS := setI (setI (setI S (fid 1 0) 15 g.1) (fid 1 1) 15 g.2.1) (fid 1 2) 15 g.2.2
theorem setG_0 (S : HS) (g : GT) (v : Int32) : setI (setG S g) (fid 1 0) 15 v = setG S (v, g.2.1, g.2.2) := by
  unfold setG
  rw [setI_comm _ _ _ (show fid 1 2 ≠ fid 1 0 by decide), setI_comm _ _ _ (show fid 1 1 ≠ fid 1 0 by decide), setI_setI]
theorem setG_1 (S : HS) (g : GT) (v : Int32) : setI (setG S g) (fid 1 1) 15 v = setG S (g.1, v, g.2.2) := by
  unfold setG
  rw [setI_comm _ _ _ (show fid 1 2 ≠ fid 1 1 by decide), setI_setI]
theorem setG_2 (S : HS) (g : GT) (v : Int32) : setI (setG S g) (fid 1 2) 15 v = setG S (g.1, g.2.1, v) := by
  unfold setG
  rw [setI_setI]
def tUnit (n : Int32) (g : GT) : Int32 × GT := if n.toInt = 40 then (b2i ((g.2.1 + 1).toInt ≤ 8), (g.1, g.2.1 + 1, g.2.2)) else (b2i (n.toInt = 99 ∨ n.toInt = 115 ∨ n.toInt = 119 ∨ n.toInt = 97 ∨ n.toInt = 112), (1, g.2.1, g.2.2))
def tSign (n : Int32) (g : GT) : Int32 × GT := (b2i (n.toInt = 61 ∨ n.toInt = 60 ∨ n.toInt = 62), (2, g.2.1, g.2.2))
def tFirst (n : Int32) (g : GT) : Int32 × GT := (b2i (48 ≤ n ∧ n ≤ 57), (3, g.2.1, 4))
def tBehind (n : Int32) (g : GT) : Int32 × GT := if 48 ≤ n.toInt ∧ n.toInt ≤ 57 then (b2i (0 ≤ (g.2.2 - 1).toInt), (g.1, g.2.1, g.2.2 - 1)) else if n.toInt = 41 then (b2i (0 ≤ (g.2.1 - 1).toInt), (g.1, g.2.1 - 1, 0)) else (b2i (n.toInt = 38 ∨ n.toInt = 124), (0, g.2.1, 0))
def tTakes (n : Int32) (g : GT) : Int32 × GT := if n.toInt = 32 then (1, (g.1, g.2.1, 0)) else if g.1.toInt = 0 then tUnit n g else if g.1.toInt = 1 then tSign n g else if g.1.toInt = 2 then tFirst n g else tBehind n g
theorem nar01 {x : Int32} (h : x = 0 ∨ x = 1) : narrow .boolean (.int x) = .int x := by rcases h with rfl | rfl <;> rfl
theorem b2i_01 {q : Prop} [Decidable q] : b2i q = 0 ∨ b2i q = 1 := by unfold b2i; split <;> simp
theorem tUnit_01 (n : Int32) (g : GT) : (tUnit n g).1 = 0 ∨ (tUnit n g).1 = 1 := by unfold tUnit; split <;> exact b2i_01
theorem tSign_01 (n : Int32) (g : GT) : (tSign n g).1 = 0 ∨ (tSign n g).1 = 1 := b2i_01
theorem tFirst_01 (n : Int32) (g : GT) : (tFirst n g).1 = 0 ∨ (tFirst n g).1 = 1 := b2i_01
theorem tBehind_01 (n : Int32) (g : GT) : (tBehind n g).1 = 0 ∨ (tBehind n g).1 = 1 := by unfold tBehind; split <;> (try split) <;> exact b2i_01
/-- the grammar's state behind i bytes, and whether it took the next -/
def gRun (row : Nat → Int32) : Nat → GT
  | 0 => (0, 0, 0)
  | i + 1 => (tTakes (row i) (gRun row i)).2
def gOk (row : Nat → Int32) (i : Nat) : Prop := ¬ (tTakes (row i) (gRun row i)).1 = 0
def shf : Nat → Int32
  | 0 => 24
  | 1 => 16
  | 2 => 8
  | 3 => 0
  | _ => -8
theorem shf_s : ∀ {i : Nat}, i < 4 → shf i + (-8) = shf (i + 1)
  | 0, _ => by decide
  | 1, _ => by decide
  | 2, _ => by decide
  | 3, _ => by decide
theorem shf_n : ∀ {i : Nat}, i < 4 → ¬ shf i < 0
  | 0, _ => by decide
  | 1, _ => by decide
  | 2, _ => by decide
  | 3, _ => by decide
def by4 (w : Int32) (i : Nat) : Int32 := (w.toUInt32 >>> ((shf i).toUInt32 &&& Int32.toUInt32 31)).toInt32 &&& 255
def cnt4 (w : Int32) : Nat → Int32
  | 0 => 0
  | i + 1 => if by4 w i = 0 then cnt4 w i else cnt4 w i + 1
theorem cnt4_t {w : Int32} {i : Nat} (h : by4 w i = 0) : cnt4 w (i + 1) = cnt4 w i := if_pos h
theorem cnt4_f {w : Int32} {i : Nat} (h : ¬ by4 w i = 0) : cnt4 w (i + 1) = cnt4 w i + 1 := if_neg h
/-- a word's bytes behind a row and its length -/
def awF (w : Int32) (s : (Nat → Int32) × Int32) : Nat → (Nat → Int32) × Int32
  | 0 => s
  | i + 1 => if ¬ by4 w i = 0 ∧ (awF w s i).2.toInt < 200 then (upd (awF w s i).1 (awF w s i).2.toNatClampNeg (by4 w i), (awF w s i).2 + 1) else awF w s i
theorem awF_t {w : Int32} {s : (Nat → Int32) × Int32} {i : Nat} (h : ¬ by4 w i = 0 ∧ (awF w s i).2.toInt < 200) : awF w s (i + 1) = (upd (awF w s i).1 (awF w s i).2.toNatClampNeg (by4 w i), (awF w s i).2 + 1) := if_pos h
theorem awF_f {w : Int32} {s : (Nat → Int32) × Int32} {i : Nat} (h : ¬ (¬ by4 w i = 0 ∧ (awF w s i).2.toInt < 200)) : awF w s (i + 1) = awF w s i := if_neg h
theorem awF_len {w : Int32} {s : (Nat → Int32) × Int32} (h : 0 ≤ s.2.toInt ∧ s.2.toInt ≤ 200) : ∀ i, 0 ≤ (awF w s i).2.toInt ∧ (awF w s i).2.toInt ≤ 200
  | 0 => h
  | i + 1 => by
    have ih := awF_len (w := w) h i
    by_cases hc : ¬ by4 w i = 0 ∧ (awF w s i).2.toInt < 200
    · rw [awF_t hc]
      have e : ((awF w s i).2 + 1).toInt = (awF w s i).2.toInt + 1 := by rw [fb_addI] <;> simp only [Int32.reduceToInt] <;> omega
      show 0 ≤ ((awF w s i).2 + 1).toInt ∧ ((awF w s i).2 + 1).toInt ≤ 200
      omega
    · rw [awF_f hc]
      exact ih
def setT (S : HS) (o ob : Nat) (s : (Nat → Int32) × Int32) : HS := setI (setA S ob s.1) (fid 5 1) o s.2
theorem setT_step (S : HS) (o ob : Nat) (s : (Nat → Int32) × Int32) (r : Nat → Int32) (v : Int32) : setI (setA (setT S o ob s) ob r) (fid 5 1) o v = setT S o ob (r, v) := by
  refine HS_ext rfl ?_ rfl ?_ rfl
  · funext f a
    simp only [setT, sI_setI, sI_setA, up2]
    split <;> rfl
  · funext t
    simp only [setT, sA_setI, sA_setA, va_up]
    split <;> rfl
theorem setT_self (S : HS) (o ob : Nat) : setT S o ob (sA S ob, sI S (fid 5 1) o) = S := by
  unfold setT
  rw [setA_self]
  exact setI_self S (fid 5 1) o
set_option maxHeartbeats 4000000 in
theorem c_X1_takesUnit {l : Launch} {G : va_G} {cy : Nat → ClassId} (n : Int32) (g : GT) (S : HS) : Cn l G cy yX1_takesUnit cX1_takesUnit 2 (some .boolean) 0 [.ref 15, .int n] (setG S g) 0 0 (qI (fun r S2 => r = (tUnit n g).1 ∧ S2 = setG S (tUnit n g).2)) := by
  refine Cn.of [some (.ref 15), some (.int n)] (by decide) rfl (Nat.le_of_ble_eq_true rfl) ?_
  refine r_iload_n dX1_takesUnit_0 rfl rfl ?_
  refine r_bipush (v := 40) dX1_takesUnit_1 (by decide) ?_
  refine r_icmp_ne 31 dX1_takesUnit_3 (by decide) (fun q3 => ?_) (fun q3 => ?_)
  · skip
    refine r_aload_n dX1_takesUnit_31 rfl rfl ?_
    refine r_iconst (v := 1) dX1_takesUnit_32 (by decide) ?_
    refine r_putI dX1_takesUnit_33 (lp_X1_11 _) rfl rfl ?_
    refine r_iload_n dX1_takesUnit_36 rfl rfl ?_
    refine r_bipush (v := 99) dX1_takesUnit_37 (by decide) ?_
    refine r_icmp_eq 66 dX1_takesUnit_39 (by decide) (fun q39 => ?_) (fun q39 => ?_)
    · skip
      refine r_iconst (v := 1) dX1_takesUnit_66 (by decide) ?_
      refine r_goto 71 dX1_takesUnit_67 (by decide) ?_
      exact r_zret dX1_takesUnit_71 rfl rfl (Nat.zero_le _) (Nat.zero_le _) ⟨_, rfl, by unfold tUnit; first | (rw [if_pos (by (try simp only [b2i_eq0, b2i_ne0, decide_eq_true_eq] at *); (try simp only [cI, sI_setA, sI_setQ, sI_setR, sA_setI, sA_setR, sA_setQ, fa_lt, fa_le, fa_eq, Int32.reduceToInt] at *); omega)]; first | exact ⟨(b2i_t (by (try simp only [b2i_eq0, b2i_ne0, decide_eq_true_eq] at *); (try simp only [cI, sI_setA, sI_setQ, sI_setR, sA_setI, sA_setR, sA_setQ, fa_lt, fa_le, fa_eq, Int32.reduceToInt] at *); omega)).symm, by (simp only [setG_0, setG_1, setG_2]); (try rfl)⟩ | exact ⟨(b2i_f (by (try simp only [b2i_eq0, b2i_ne0, decide_eq_true_eq] at *); (try simp only [cI, sI_setA, sI_setQ, sI_setR, sA_setI, sA_setR, sA_setQ, fa_lt, fa_le, fa_eq, Int32.reduceToInt] at *); omega)).symm, by (simp only [setG_0, setG_1, setG_2]); (try rfl)⟩ | exact ⟨(b2i_t (by (try simp only [b2i_eq0, b2i_ne0, decide_eq_true_eq] at *); (try simp only [cI, sI_setA, sI_setQ, sI_setR, sA_setI, sA_setR, sA_setQ, fa_lt, fa_le, fa_eq, Int32.reduceToInt] at *); omega)).symm, rfl⟩ | exact ⟨(b2i_f (by (try simp only [b2i_eq0, b2i_ne0, decide_eq_true_eq] at *); (try simp only [cI, sI_setA, sI_setQ, sI_setR, sA_setI, sA_setR, sA_setQ, fa_lt, fa_le, fa_eq, Int32.reduceToInt] at *); omega)).symm, rfl⟩) | (rw [if_neg (by (try simp only [b2i_eq0, b2i_ne0, decide_eq_true_eq] at *); (try simp only [cI, sI_setA, sI_setQ, sI_setR, sA_setI, sA_setR, sA_setQ, fa_lt, fa_le, fa_eq, Int32.reduceToInt] at *); omega)]; first | exact ⟨(b2i_t (by (try simp only [b2i_eq0, b2i_ne0, decide_eq_true_eq] at *); (try simp only [cI, sI_setA, sI_setQ, sI_setR, sA_setI, sA_setR, sA_setQ, fa_lt, fa_le, fa_eq, Int32.reduceToInt] at *); omega)).symm, by (simp only [setG_0, setG_1, setG_2]); (try rfl)⟩ | exact ⟨(b2i_f (by (try simp only [b2i_eq0, b2i_ne0, decide_eq_true_eq] at *); (try simp only [cI, sI_setA, sI_setQ, sI_setR, sA_setI, sA_setR, sA_setQ, fa_lt, fa_le, fa_eq, Int32.reduceToInt] at *); omega)).symm, by (simp only [setG_0, setG_1, setG_2]); (try rfl)⟩ | exact ⟨(b2i_t (by (try simp only [b2i_eq0, b2i_ne0, decide_eq_true_eq] at *); (try simp only [cI, sI_setA, sI_setQ, sI_setR, sA_setI, sA_setR, sA_setQ, fa_lt, fa_le, fa_eq, Int32.reduceToInt] at *); omega)).symm, rfl⟩ | exact ⟨(b2i_f (by (try simp only [b2i_eq0, b2i_ne0, decide_eq_true_eq] at *); (try simp only [cI, sI_setA, sI_setQ, sI_setR, sA_setI, sA_setR, sA_setQ, fa_lt, fa_le, fa_eq, Int32.reduceToInt] at *); omega)).symm, rfl⟩)⟩
    · skip
      refine r_iload_n dX1_takesUnit_42 rfl rfl ?_
      refine r_bipush (v := 115) dX1_takesUnit_43 (by decide) ?_
      refine r_icmp_eq 66 dX1_takesUnit_45 (by decide) (fun q45 => ?_) (fun q45 => ?_)
      · skip
        refine r_iconst (v := 1) dX1_takesUnit_66 (by decide) ?_
        refine r_goto 71 dX1_takesUnit_67 (by decide) ?_
        exact r_zret dX1_takesUnit_71 rfl rfl (Nat.zero_le _) (Nat.zero_le _) ⟨_, rfl, by unfold tUnit; first | (rw [if_pos (by (try simp only [b2i_eq0, b2i_ne0, decide_eq_true_eq] at *); (try simp only [cI, sI_setA, sI_setQ, sI_setR, sA_setI, sA_setR, sA_setQ, fa_lt, fa_le, fa_eq, Int32.reduceToInt] at *); omega)]; first | exact ⟨(b2i_t (by (try simp only [b2i_eq0, b2i_ne0, decide_eq_true_eq] at *); (try simp only [cI, sI_setA, sI_setQ, sI_setR, sA_setI, sA_setR, sA_setQ, fa_lt, fa_le, fa_eq, Int32.reduceToInt] at *); omega)).symm, by (simp only [setG_0, setG_1, setG_2]); (try rfl)⟩ | exact ⟨(b2i_f (by (try simp only [b2i_eq0, b2i_ne0, decide_eq_true_eq] at *); (try simp only [cI, sI_setA, sI_setQ, sI_setR, sA_setI, sA_setR, sA_setQ, fa_lt, fa_le, fa_eq, Int32.reduceToInt] at *); omega)).symm, by (simp only [setG_0, setG_1, setG_2]); (try rfl)⟩ | exact ⟨(b2i_t (by (try simp only [b2i_eq0, b2i_ne0, decide_eq_true_eq] at *); (try simp only [cI, sI_setA, sI_setQ, sI_setR, sA_setI, sA_setR, sA_setQ, fa_lt, fa_le, fa_eq, Int32.reduceToInt] at *); omega)).symm, rfl⟩ | exact ⟨(b2i_f (by (try simp only [b2i_eq0, b2i_ne0, decide_eq_true_eq] at *); (try simp only [cI, sI_setA, sI_setQ, sI_setR, sA_setI, sA_setR, sA_setQ, fa_lt, fa_le, fa_eq, Int32.reduceToInt] at *); omega)).symm, rfl⟩) | (rw [if_neg (by (try simp only [b2i_eq0, b2i_ne0, decide_eq_true_eq] at *); (try simp only [cI, sI_setA, sI_setQ, sI_setR, sA_setI, sA_setR, sA_setQ, fa_lt, fa_le, fa_eq, Int32.reduceToInt] at *); omega)]; first | exact ⟨(b2i_t (by (try simp only [b2i_eq0, b2i_ne0, decide_eq_true_eq] at *); (try simp only [cI, sI_setA, sI_setQ, sI_setR, sA_setI, sA_setR, sA_setQ, fa_lt, fa_le, fa_eq, Int32.reduceToInt] at *); omega)).symm, by (simp only [setG_0, setG_1, setG_2]); (try rfl)⟩ | exact ⟨(b2i_f (by (try simp only [b2i_eq0, b2i_ne0, decide_eq_true_eq] at *); (try simp only [cI, sI_setA, sI_setQ, sI_setR, sA_setI, sA_setR, sA_setQ, fa_lt, fa_le, fa_eq, Int32.reduceToInt] at *); omega)).symm, by (simp only [setG_0, setG_1, setG_2]); (try rfl)⟩ | exact ⟨(b2i_t (by (try simp only [b2i_eq0, b2i_ne0, decide_eq_true_eq] at *); (try simp only [cI, sI_setA, sI_setQ, sI_setR, sA_setI, sA_setR, sA_setQ, fa_lt, fa_le, fa_eq, Int32.reduceToInt] at *); omega)).symm, rfl⟩ | exact ⟨(b2i_f (by (try simp only [b2i_eq0, b2i_ne0, decide_eq_true_eq] at *); (try simp only [cI, sI_setA, sI_setQ, sI_setR, sA_setI, sA_setR, sA_setQ, fa_lt, fa_le, fa_eq, Int32.reduceToInt] at *); omega)).symm, rfl⟩)⟩
      · skip
        refine r_iload_n dX1_takesUnit_48 rfl rfl ?_
        refine r_bipush (v := 119) dX1_takesUnit_49 (by decide) ?_
        refine r_icmp_eq 66 dX1_takesUnit_51 (by decide) (fun q51 => ?_) (fun q51 => ?_)
        · skip
          refine r_iconst (v := 1) dX1_takesUnit_66 (by decide) ?_
          refine r_goto 71 dX1_takesUnit_67 (by decide) ?_
          exact r_zret dX1_takesUnit_71 rfl rfl (Nat.zero_le _) (Nat.zero_le _) ⟨_, rfl, by unfold tUnit; first | (rw [if_pos (by (try simp only [b2i_eq0, b2i_ne0, decide_eq_true_eq] at *); (try simp only [cI, sI_setA, sI_setQ, sI_setR, sA_setI, sA_setR, sA_setQ, fa_lt, fa_le, fa_eq, Int32.reduceToInt] at *); omega)]; first | exact ⟨(b2i_t (by (try simp only [b2i_eq0, b2i_ne0, decide_eq_true_eq] at *); (try simp only [cI, sI_setA, sI_setQ, sI_setR, sA_setI, sA_setR, sA_setQ, fa_lt, fa_le, fa_eq, Int32.reduceToInt] at *); omega)).symm, by (simp only [setG_0, setG_1, setG_2]); (try rfl)⟩ | exact ⟨(b2i_f (by (try simp only [b2i_eq0, b2i_ne0, decide_eq_true_eq] at *); (try simp only [cI, sI_setA, sI_setQ, sI_setR, sA_setI, sA_setR, sA_setQ, fa_lt, fa_le, fa_eq, Int32.reduceToInt] at *); omega)).symm, by (simp only [setG_0, setG_1, setG_2]); (try rfl)⟩ | exact ⟨(b2i_t (by (try simp only [b2i_eq0, b2i_ne0, decide_eq_true_eq] at *); (try simp only [cI, sI_setA, sI_setQ, sI_setR, sA_setI, sA_setR, sA_setQ, fa_lt, fa_le, fa_eq, Int32.reduceToInt] at *); omega)).symm, rfl⟩ | exact ⟨(b2i_f (by (try simp only [b2i_eq0, b2i_ne0, decide_eq_true_eq] at *); (try simp only [cI, sI_setA, sI_setQ, sI_setR, sA_setI, sA_setR, sA_setQ, fa_lt, fa_le, fa_eq, Int32.reduceToInt] at *); omega)).symm, rfl⟩) | (rw [if_neg (by (try simp only [b2i_eq0, b2i_ne0, decide_eq_true_eq] at *); (try simp only [cI, sI_setA, sI_setQ, sI_setR, sA_setI, sA_setR, sA_setQ, fa_lt, fa_le, fa_eq, Int32.reduceToInt] at *); omega)]; first | exact ⟨(b2i_t (by (try simp only [b2i_eq0, b2i_ne0, decide_eq_true_eq] at *); (try simp only [cI, sI_setA, sI_setQ, sI_setR, sA_setI, sA_setR, sA_setQ, fa_lt, fa_le, fa_eq, Int32.reduceToInt] at *); omega)).symm, by (simp only [setG_0, setG_1, setG_2]); (try rfl)⟩ | exact ⟨(b2i_f (by (try simp only [b2i_eq0, b2i_ne0, decide_eq_true_eq] at *); (try simp only [cI, sI_setA, sI_setQ, sI_setR, sA_setI, sA_setR, sA_setQ, fa_lt, fa_le, fa_eq, Int32.reduceToInt] at *); omega)).symm, by (simp only [setG_0, setG_1, setG_2]); (try rfl)⟩ | exact ⟨(b2i_t (by (try simp only [b2i_eq0, b2i_ne0, decide_eq_true_eq] at *); (try simp only [cI, sI_setA, sI_setQ, sI_setR, sA_setI, sA_setR, sA_setQ, fa_lt, fa_le, fa_eq, Int32.reduceToInt] at *); omega)).symm, rfl⟩ | exact ⟨(b2i_f (by (try simp only [b2i_eq0, b2i_ne0, decide_eq_true_eq] at *); (try simp only [cI, sI_setA, sI_setQ, sI_setR, sA_setI, sA_setR, sA_setQ, fa_lt, fa_le, fa_eq, Int32.reduceToInt] at *); omega)).symm, rfl⟩)⟩
        · skip
          refine r_iload_n dX1_takesUnit_54 rfl rfl ?_
          refine r_bipush (v := 97) dX1_takesUnit_55 (by decide) ?_
          refine r_icmp_eq 66 dX1_takesUnit_57 (by decide) (fun q57 => ?_) (fun q57 => ?_)
          · skip
            refine r_iconst (v := 1) dX1_takesUnit_66 (by decide) ?_
            refine r_goto 71 dX1_takesUnit_67 (by decide) ?_
            exact r_zret dX1_takesUnit_71 rfl rfl (Nat.zero_le _) (Nat.zero_le _) ⟨_, rfl, by unfold tUnit; first | (rw [if_pos (by (try simp only [b2i_eq0, b2i_ne0, decide_eq_true_eq] at *); (try simp only [cI, sI_setA, sI_setQ, sI_setR, sA_setI, sA_setR, sA_setQ, fa_lt, fa_le, fa_eq, Int32.reduceToInt] at *); omega)]; first | exact ⟨(b2i_t (by (try simp only [b2i_eq0, b2i_ne0, decide_eq_true_eq] at *); (try simp only [cI, sI_setA, sI_setQ, sI_setR, sA_setI, sA_setR, sA_setQ, fa_lt, fa_le, fa_eq, Int32.reduceToInt] at *); omega)).symm, by (simp only [setG_0, setG_1, setG_2]); (try rfl)⟩ | exact ⟨(b2i_f (by (try simp only [b2i_eq0, b2i_ne0, decide_eq_true_eq] at *); (try simp only [cI, sI_setA, sI_setQ, sI_setR, sA_setI, sA_setR, sA_setQ, fa_lt, fa_le, fa_eq, Int32.reduceToInt] at *); omega)).symm, by (simp only [setG_0, setG_1, setG_2]); (try rfl)⟩ | exact ⟨(b2i_t (by (try simp only [b2i_eq0, b2i_ne0, decide_eq_true_eq] at *); (try simp only [cI, sI_setA, sI_setQ, sI_setR, sA_setI, sA_setR, sA_setQ, fa_lt, fa_le, fa_eq, Int32.reduceToInt] at *); omega)).symm, rfl⟩ | exact ⟨(b2i_f (by (try simp only [b2i_eq0, b2i_ne0, decide_eq_true_eq] at *); (try simp only [cI, sI_setA, sI_setQ, sI_setR, sA_setI, sA_setR, sA_setQ, fa_lt, fa_le, fa_eq, Int32.reduceToInt] at *); omega)).symm, rfl⟩) | (rw [if_neg (by (try simp only [b2i_eq0, b2i_ne0, decide_eq_true_eq] at *); (try simp only [cI, sI_setA, sI_setQ, sI_setR, sA_setI, sA_setR, sA_setQ, fa_lt, fa_le, fa_eq, Int32.reduceToInt] at *); omega)]; first | exact ⟨(b2i_t (by (try simp only [b2i_eq0, b2i_ne0, decide_eq_true_eq] at *); (try simp only [cI, sI_setA, sI_setQ, sI_setR, sA_setI, sA_setR, sA_setQ, fa_lt, fa_le, fa_eq, Int32.reduceToInt] at *); omega)).symm, by (simp only [setG_0, setG_1, setG_2]); (try rfl)⟩ | exact ⟨(b2i_f (by (try simp only [b2i_eq0, b2i_ne0, decide_eq_true_eq] at *); (try simp only [cI, sI_setA, sI_setQ, sI_setR, sA_setI, sA_setR, sA_setQ, fa_lt, fa_le, fa_eq, Int32.reduceToInt] at *); omega)).symm, by (simp only [setG_0, setG_1, setG_2]); (try rfl)⟩ | exact ⟨(b2i_t (by (try simp only [b2i_eq0, b2i_ne0, decide_eq_true_eq] at *); (try simp only [cI, sI_setA, sI_setQ, sI_setR, sA_setI, sA_setR, sA_setQ, fa_lt, fa_le, fa_eq, Int32.reduceToInt] at *); omega)).symm, rfl⟩ | exact ⟨(b2i_f (by (try simp only [b2i_eq0, b2i_ne0, decide_eq_true_eq] at *); (try simp only [cI, sI_setA, sI_setQ, sI_setR, sA_setI, sA_setR, sA_setQ, fa_lt, fa_le, fa_eq, Int32.reduceToInt] at *); omega)).symm, rfl⟩)⟩
          · skip
            refine r_iload_n dX1_takesUnit_60 rfl rfl ?_
            refine r_bipush (v := 112) dX1_takesUnit_61 (by decide) ?_
            refine r_icmp_ne 70 dX1_takesUnit_63 (by decide) (fun q63 => ?_) (fun q63 => ?_)
            · skip
              refine r_iconst (v := 0) dX1_takesUnit_70 (by decide) ?_
              exact r_zret dX1_takesUnit_71 rfl rfl (Nat.zero_le _) (Nat.zero_le _) ⟨_, rfl, by unfold tUnit; first | (rw [if_pos (by (try simp only [b2i_eq0, b2i_ne0, decide_eq_true_eq] at *); (try simp only [cI, sI_setA, sI_setQ, sI_setR, sA_setI, sA_setR, sA_setQ, fa_lt, fa_le, fa_eq, Int32.reduceToInt] at *); omega)]; first | exact ⟨(b2i_t (by (try simp only [b2i_eq0, b2i_ne0, decide_eq_true_eq] at *); (try simp only [cI, sI_setA, sI_setQ, sI_setR, sA_setI, sA_setR, sA_setQ, fa_lt, fa_le, fa_eq, Int32.reduceToInt] at *); omega)).symm, by (simp only [setG_0, setG_1, setG_2]); (try rfl)⟩ | exact ⟨(b2i_f (by (try simp only [b2i_eq0, b2i_ne0, decide_eq_true_eq] at *); (try simp only [cI, sI_setA, sI_setQ, sI_setR, sA_setI, sA_setR, sA_setQ, fa_lt, fa_le, fa_eq, Int32.reduceToInt] at *); omega)).symm, by (simp only [setG_0, setG_1, setG_2]); (try rfl)⟩ | exact ⟨(b2i_t (by (try simp only [b2i_eq0, b2i_ne0, decide_eq_true_eq] at *); (try simp only [cI, sI_setA, sI_setQ, sI_setR, sA_setI, sA_setR, sA_setQ, fa_lt, fa_le, fa_eq, Int32.reduceToInt] at *); omega)).symm, rfl⟩ | exact ⟨(b2i_f (by (try simp only [b2i_eq0, b2i_ne0, decide_eq_true_eq] at *); (try simp only [cI, sI_setA, sI_setQ, sI_setR, sA_setI, sA_setR, sA_setQ, fa_lt, fa_le, fa_eq, Int32.reduceToInt] at *); omega)).symm, rfl⟩) | (rw [if_neg (by (try simp only [b2i_eq0, b2i_ne0, decide_eq_true_eq] at *); (try simp only [cI, sI_setA, sI_setQ, sI_setR, sA_setI, sA_setR, sA_setQ, fa_lt, fa_le, fa_eq, Int32.reduceToInt] at *); omega)]; first | exact ⟨(b2i_t (by (try simp only [b2i_eq0, b2i_ne0, decide_eq_true_eq] at *); (try simp only [cI, sI_setA, sI_setQ, sI_setR, sA_setI, sA_setR, sA_setQ, fa_lt, fa_le, fa_eq, Int32.reduceToInt] at *); omega)).symm, by (simp only [setG_0, setG_1, setG_2]); (try rfl)⟩ | exact ⟨(b2i_f (by (try simp only [b2i_eq0, b2i_ne0, decide_eq_true_eq] at *); (try simp only [cI, sI_setA, sI_setQ, sI_setR, sA_setI, sA_setR, sA_setQ, fa_lt, fa_le, fa_eq, Int32.reduceToInt] at *); omega)).symm, by (simp only [setG_0, setG_1, setG_2]); (try rfl)⟩ | exact ⟨(b2i_t (by (try simp only [b2i_eq0, b2i_ne0, decide_eq_true_eq] at *); (try simp only [cI, sI_setA, sI_setQ, sI_setR, sA_setI, sA_setR, sA_setQ, fa_lt, fa_le, fa_eq, Int32.reduceToInt] at *); omega)).symm, rfl⟩ | exact ⟨(b2i_f (by (try simp only [b2i_eq0, b2i_ne0, decide_eq_true_eq] at *); (try simp only [cI, sI_setA, sI_setQ, sI_setR, sA_setI, sA_setR, sA_setQ, fa_lt, fa_le, fa_eq, Int32.reduceToInt] at *); omega)).symm, rfl⟩)⟩
            · skip
              refine r_iconst (v := 1) dX1_takesUnit_66 (by decide) ?_
              refine r_goto 71 dX1_takesUnit_67 (by decide) ?_
              exact r_zret dX1_takesUnit_71 rfl rfl (Nat.zero_le _) (Nat.zero_le _) ⟨_, rfl, by unfold tUnit; first | (rw [if_pos (by (try simp only [b2i_eq0, b2i_ne0, decide_eq_true_eq] at *); (try simp only [cI, sI_setA, sI_setQ, sI_setR, sA_setI, sA_setR, sA_setQ, fa_lt, fa_le, fa_eq, Int32.reduceToInt] at *); omega)]; first | exact ⟨(b2i_t (by (try simp only [b2i_eq0, b2i_ne0, decide_eq_true_eq] at *); (try simp only [cI, sI_setA, sI_setQ, sI_setR, sA_setI, sA_setR, sA_setQ, fa_lt, fa_le, fa_eq, Int32.reduceToInt] at *); omega)).symm, by (simp only [setG_0, setG_1, setG_2]); (try rfl)⟩ | exact ⟨(b2i_f (by (try simp only [b2i_eq0, b2i_ne0, decide_eq_true_eq] at *); (try simp only [cI, sI_setA, sI_setQ, sI_setR, sA_setI, sA_setR, sA_setQ, fa_lt, fa_le, fa_eq, Int32.reduceToInt] at *); omega)).symm, by (simp only [setG_0, setG_1, setG_2]); (try rfl)⟩ | exact ⟨(b2i_t (by (try simp only [b2i_eq0, b2i_ne0, decide_eq_true_eq] at *); (try simp only [cI, sI_setA, sI_setQ, sI_setR, sA_setI, sA_setR, sA_setQ, fa_lt, fa_le, fa_eq, Int32.reduceToInt] at *); omega)).symm, rfl⟩ | exact ⟨(b2i_f (by (try simp only [b2i_eq0, b2i_ne0, decide_eq_true_eq] at *); (try simp only [cI, sI_setA, sI_setQ, sI_setR, sA_setI, sA_setR, sA_setQ, fa_lt, fa_le, fa_eq, Int32.reduceToInt] at *); omega)).symm, rfl⟩) | (rw [if_neg (by (try simp only [b2i_eq0, b2i_ne0, decide_eq_true_eq] at *); (try simp only [cI, sI_setA, sI_setQ, sI_setR, sA_setI, sA_setR, sA_setQ, fa_lt, fa_le, fa_eq, Int32.reduceToInt] at *); omega)]; first | exact ⟨(b2i_t (by (try simp only [b2i_eq0, b2i_ne0, decide_eq_true_eq] at *); (try simp only [cI, sI_setA, sI_setQ, sI_setR, sA_setI, sA_setR, sA_setQ, fa_lt, fa_le, fa_eq, Int32.reduceToInt] at *); omega)).symm, by (simp only [setG_0, setG_1, setG_2]); (try rfl)⟩ | exact ⟨(b2i_f (by (try simp only [b2i_eq0, b2i_ne0, decide_eq_true_eq] at *); (try simp only [cI, sI_setA, sI_setQ, sI_setR, sA_setI, sA_setR, sA_setQ, fa_lt, fa_le, fa_eq, Int32.reduceToInt] at *); omega)).symm, by (simp only [setG_0, setG_1, setG_2]); (try rfl)⟩ | exact ⟨(b2i_t (by (try simp only [b2i_eq0, b2i_ne0, decide_eq_true_eq] at *); (try simp only [cI, sI_setA, sI_setQ, sI_setR, sA_setI, sA_setR, sA_setQ, fa_lt, fa_le, fa_eq, Int32.reduceToInt] at *); omega)).symm, rfl⟩ | exact ⟨(b2i_f (by (try simp only [b2i_eq0, b2i_ne0, decide_eq_true_eq] at *); (try simp only [cI, sI_setA, sI_setQ, sI_setR, sA_setI, sA_setR, sA_setQ, fa_lt, fa_le, fa_eq, Int32.reduceToInt] at *); omega)).symm, rfl⟩)⟩
  · skip
    refine r_aload_n dX1_takesUnit_6 rfl rfl ?_
    refine r_dup dX1_takesUnit_7 rfl ?_
    refine r_getI dX1_takesUnit_8 lf_X1_15 rfl rfl ?_
    refine r_iconst (v := 1) dX1_takesUnit_11 (by decide) ?_
    refine r_iadd dX1_takesUnit_12 ?_
    refine r_putI dX1_takesUnit_13 (lp_X1_15 _) rfl rfl ?_
    refine r_aload_n dX1_takesUnit_16 rfl rfl ?_
    refine r_getI dX1_takesUnit_17 lf_X1_15 rfl rfl ?_
    change R l G cy yX1_takesUnit cX1_takesUnit 2 (some .boolean) 0 0 0 _ 20 _ [.int (g.2.1 + 1)] _ 0 0
    refine r_bipush (v := 8) dX1_takesUnit_20 (by decide) ?_
    refine r_icmp_gt 29 dX1_takesUnit_22 (by decide) (fun q22 => ?_) (fun q22 => ?_)
    · skip
      refine r_iconst (v := 0) dX1_takesUnit_29 (by decide) ?_
      exact r_zret dX1_takesUnit_30 rfl rfl (Nat.zero_le _) (Nat.zero_le _) ⟨_, rfl, by unfold tUnit; first | (rw [if_pos (by (try simp only [b2i_eq0, b2i_ne0, decide_eq_true_eq] at *); (try simp only [cI, sI_setA, sI_setQ, sI_setR, sA_setI, sA_setR, sA_setQ, fa_lt, fa_le, fa_eq, Int32.reduceToInt] at *); omega)]; first | exact ⟨(b2i_t (by (try simp only [b2i_eq0, b2i_ne0, decide_eq_true_eq] at *); (try simp only [cI, sI_setA, sI_setQ, sI_setR, sA_setI, sA_setR, sA_setQ, fa_lt, fa_le, fa_eq, Int32.reduceToInt] at *); omega)).symm, by (simp only [setG_0, setG_1, setG_2]); (try rfl)⟩ | exact ⟨(b2i_f (by (try simp only [b2i_eq0, b2i_ne0, decide_eq_true_eq] at *); (try simp only [cI, sI_setA, sI_setQ, sI_setR, sA_setI, sA_setR, sA_setQ, fa_lt, fa_le, fa_eq, Int32.reduceToInt] at *); omega)).symm, by (simp only [setG_0, setG_1, setG_2]); (try rfl)⟩ | exact ⟨(b2i_t (by (try simp only [b2i_eq0, b2i_ne0, decide_eq_true_eq] at *); (try simp only [cI, sI_setA, sI_setQ, sI_setR, sA_setI, sA_setR, sA_setQ, fa_lt, fa_le, fa_eq, Int32.reduceToInt] at *); omega)).symm, rfl⟩ | exact ⟨(b2i_f (by (try simp only [b2i_eq0, b2i_ne0, decide_eq_true_eq] at *); (try simp only [cI, sI_setA, sI_setQ, sI_setR, sA_setI, sA_setR, sA_setQ, fa_lt, fa_le, fa_eq, Int32.reduceToInt] at *); omega)).symm, rfl⟩) | (rw [if_neg (by (try simp only [b2i_eq0, b2i_ne0, decide_eq_true_eq] at *); (try simp only [cI, sI_setA, sI_setQ, sI_setR, sA_setI, sA_setR, sA_setQ, fa_lt, fa_le, fa_eq, Int32.reduceToInt] at *); omega)]; first | exact ⟨(b2i_t (by (try simp only [b2i_eq0, b2i_ne0, decide_eq_true_eq] at *); (try simp only [cI, sI_setA, sI_setQ, sI_setR, sA_setI, sA_setR, sA_setQ, fa_lt, fa_le, fa_eq, Int32.reduceToInt] at *); omega)).symm, by (simp only [setG_0, setG_1, setG_2]); (try rfl)⟩ | exact ⟨(b2i_f (by (try simp only [b2i_eq0, b2i_ne0, decide_eq_true_eq] at *); (try simp only [cI, sI_setA, sI_setQ, sI_setR, sA_setI, sA_setR, sA_setQ, fa_lt, fa_le, fa_eq, Int32.reduceToInt] at *); omega)).symm, by (simp only [setG_0, setG_1, setG_2]); (try rfl)⟩ | exact ⟨(b2i_t (by (try simp only [b2i_eq0, b2i_ne0, decide_eq_true_eq] at *); (try simp only [cI, sI_setA, sI_setQ, sI_setR, sA_setI, sA_setR, sA_setQ, fa_lt, fa_le, fa_eq, Int32.reduceToInt] at *); omega)).symm, rfl⟩ | exact ⟨(b2i_f (by (try simp only [b2i_eq0, b2i_ne0, decide_eq_true_eq] at *); (try simp only [cI, sI_setA, sI_setQ, sI_setR, sA_setI, sA_setR, sA_setQ, fa_lt, fa_le, fa_eq, Int32.reduceToInt] at *); omega)).symm, rfl⟩)⟩
    · skip
      refine r_iconst (v := 1) dX1_takesUnit_25 (by decide) ?_
      refine r_goto 30 dX1_takesUnit_26 (by decide) ?_
      exact r_zret dX1_takesUnit_30 rfl rfl (Nat.zero_le _) (Nat.zero_le _) ⟨_, rfl, by unfold tUnit; first | (rw [if_pos (by (try simp only [b2i_eq0, b2i_ne0, decide_eq_true_eq] at *); (try simp only [cI, sI_setA, sI_setQ, sI_setR, sA_setI, sA_setR, sA_setQ, fa_lt, fa_le, fa_eq, Int32.reduceToInt] at *); omega)]; first | exact ⟨(b2i_t (by (try simp only [b2i_eq0, b2i_ne0, decide_eq_true_eq] at *); (try simp only [cI, sI_setA, sI_setQ, sI_setR, sA_setI, sA_setR, sA_setQ, fa_lt, fa_le, fa_eq, Int32.reduceToInt] at *); omega)).symm, by (simp only [setG_0, setG_1, setG_2]); (try rfl)⟩ | exact ⟨(b2i_f (by (try simp only [b2i_eq0, b2i_ne0, decide_eq_true_eq] at *); (try simp only [cI, sI_setA, sI_setQ, sI_setR, sA_setI, sA_setR, sA_setQ, fa_lt, fa_le, fa_eq, Int32.reduceToInt] at *); omega)).symm, by (simp only [setG_0, setG_1, setG_2]); (try rfl)⟩ | exact ⟨(b2i_t (by (try simp only [b2i_eq0, b2i_ne0, decide_eq_true_eq] at *); (try simp only [cI, sI_setA, sI_setQ, sI_setR, sA_setI, sA_setR, sA_setQ, fa_lt, fa_le, fa_eq, Int32.reduceToInt] at *); omega)).symm, rfl⟩ | exact ⟨(b2i_f (by (try simp only [b2i_eq0, b2i_ne0, decide_eq_true_eq] at *); (try simp only [cI, sI_setA, sI_setQ, sI_setR, sA_setI, sA_setR, sA_setQ, fa_lt, fa_le, fa_eq, Int32.reduceToInt] at *); omega)).symm, rfl⟩) | (rw [if_neg (by (try simp only [b2i_eq0, b2i_ne0, decide_eq_true_eq] at *); (try simp only [cI, sI_setA, sI_setQ, sI_setR, sA_setI, sA_setR, sA_setQ, fa_lt, fa_le, fa_eq, Int32.reduceToInt] at *); omega)]; first | exact ⟨(b2i_t (by (try simp only [b2i_eq0, b2i_ne0, decide_eq_true_eq] at *); (try simp only [cI, sI_setA, sI_setQ, sI_setR, sA_setI, sA_setR, sA_setQ, fa_lt, fa_le, fa_eq, Int32.reduceToInt] at *); omega)).symm, by (simp only [setG_0, setG_1, setG_2]); (try rfl)⟩ | exact ⟨(b2i_f (by (try simp only [b2i_eq0, b2i_ne0, decide_eq_true_eq] at *); (try simp only [cI, sI_setA, sI_setQ, sI_setR, sA_setI, sA_setR, sA_setQ, fa_lt, fa_le, fa_eq, Int32.reduceToInt] at *); omega)).symm, by (simp only [setG_0, setG_1, setG_2]); (try rfl)⟩ | exact ⟨(b2i_t (by (try simp only [b2i_eq0, b2i_ne0, decide_eq_true_eq] at *); (try simp only [cI, sI_setA, sI_setQ, sI_setR, sA_setI, sA_setR, sA_setQ, fa_lt, fa_le, fa_eq, Int32.reduceToInt] at *); omega)).symm, rfl⟩ | exact ⟨(b2i_f (by (try simp only [b2i_eq0, b2i_ne0, decide_eq_true_eq] at *); (try simp only [cI, sI_setA, sI_setQ, sI_setR, sA_setI, sA_setR, sA_setQ, fa_lt, fa_le, fa_eq, Int32.reduceToInt] at *); omega)).symm, rfl⟩)⟩
set_option maxHeartbeats 4000000 in
theorem c_X1_takesSign {l : Launch} {G : va_G} {cy : Nat → ClassId} (n : Int32) (g : GT) (S : HS) : Cn l G cy yX1_takesSign cX1_takesSign 2 (some .boolean) 0 [.ref 15, .int n] (setG S g) 0 0 (qI (fun r S2 => r = (tSign n g).1 ∧ S2 = setG S (tSign n g).2)) := by
  refine Cn.of [some (.ref 15), some (.int n)] (by decide) rfl (Nat.le_of_ble_eq_true rfl) ?_
  refine r_aload_n dX1_takesSign_0 rfl rfl ?_
  refine r_iconst (v := 2) dX1_takesSign_1 (by decide) ?_
  refine r_putI dX1_takesSign_2 (lp_X1_11 _) rfl rfl ?_
  refine r_iload_n dX1_takesSign_5 rfl rfl ?_
  refine r_bipush (v := 61) dX1_takesSign_6 (by decide) ?_
  refine r_icmp_eq 23 dX1_takesSign_8 (by decide) (fun q8 => ?_) (fun q8 => ?_)
  · skip
    refine r_iconst (v := 1) dX1_takesSign_23 (by decide) ?_
    refine r_goto 28 dX1_takesSign_24 (by decide) ?_
    exact r_zret dX1_takesSign_28 rfl rfl (Nat.zero_le _) (Nat.zero_le _) ⟨_, rfl, by unfold tSign; first | exact ⟨(b2i_t (by (try simp only [b2i_eq0, b2i_ne0, decide_eq_true_eq] at *); (try simp only [cI, sI_setA, sI_setQ, sI_setR, sA_setI, sA_setR, sA_setQ, fa_lt, fa_le, fa_eq, Int32.reduceToInt] at *); omega)).symm, by (simp only [setG_0, setG_1, setG_2]); (try rfl)⟩ | exact ⟨(b2i_f (by (try simp only [b2i_eq0, b2i_ne0, decide_eq_true_eq] at *); (try simp only [cI, sI_setA, sI_setQ, sI_setR, sA_setI, sA_setR, sA_setQ, fa_lt, fa_le, fa_eq, Int32.reduceToInt] at *); omega)).symm, by (simp only [setG_0, setG_1, setG_2]); (try rfl)⟩ | exact ⟨(b2i_t (by (try simp only [b2i_eq0, b2i_ne0, decide_eq_true_eq] at *); (try simp only [cI, sI_setA, sI_setQ, sI_setR, sA_setI, sA_setR, sA_setQ, fa_lt, fa_le, fa_eq, Int32.reduceToInt] at *); omega)).symm, rfl⟩ | exact ⟨(b2i_f (by (try simp only [b2i_eq0, b2i_ne0, decide_eq_true_eq] at *); (try simp only [cI, sI_setA, sI_setQ, sI_setR, sA_setI, sA_setR, sA_setQ, fa_lt, fa_le, fa_eq, Int32.reduceToInt] at *); omega)).symm, rfl⟩⟩
  · skip
    refine r_iload_n dX1_takesSign_11 rfl rfl ?_
    refine r_bipush (v := 60) dX1_takesSign_12 (by decide) ?_
    refine r_icmp_eq 23 dX1_takesSign_14 (by decide) (fun q14 => ?_) (fun q14 => ?_)
    · skip
      refine r_iconst (v := 1) dX1_takesSign_23 (by decide) ?_
      refine r_goto 28 dX1_takesSign_24 (by decide) ?_
      exact r_zret dX1_takesSign_28 rfl rfl (Nat.zero_le _) (Nat.zero_le _) ⟨_, rfl, by unfold tSign; first | exact ⟨(b2i_t (by (try simp only [b2i_eq0, b2i_ne0, decide_eq_true_eq] at *); (try simp only [cI, sI_setA, sI_setQ, sI_setR, sA_setI, sA_setR, sA_setQ, fa_lt, fa_le, fa_eq, Int32.reduceToInt] at *); omega)).symm, by (simp only [setG_0, setG_1, setG_2]); (try rfl)⟩ | exact ⟨(b2i_f (by (try simp only [b2i_eq0, b2i_ne0, decide_eq_true_eq] at *); (try simp only [cI, sI_setA, sI_setQ, sI_setR, sA_setI, sA_setR, sA_setQ, fa_lt, fa_le, fa_eq, Int32.reduceToInt] at *); omega)).symm, by (simp only [setG_0, setG_1, setG_2]); (try rfl)⟩ | exact ⟨(b2i_t (by (try simp only [b2i_eq0, b2i_ne0, decide_eq_true_eq] at *); (try simp only [cI, sI_setA, sI_setQ, sI_setR, sA_setI, sA_setR, sA_setQ, fa_lt, fa_le, fa_eq, Int32.reduceToInt] at *); omega)).symm, rfl⟩ | exact ⟨(b2i_f (by (try simp only [b2i_eq0, b2i_ne0, decide_eq_true_eq] at *); (try simp only [cI, sI_setA, sI_setQ, sI_setR, sA_setI, sA_setR, sA_setQ, fa_lt, fa_le, fa_eq, Int32.reduceToInt] at *); omega)).symm, rfl⟩⟩
    · skip
      refine r_iload_n dX1_takesSign_17 rfl rfl ?_
      refine r_bipush (v := 62) dX1_takesSign_18 (by decide) ?_
      refine r_icmp_ne 27 dX1_takesSign_20 (by decide) (fun q20 => ?_) (fun q20 => ?_)
      · skip
        refine r_iconst (v := 0) dX1_takesSign_27 (by decide) ?_
        exact r_zret dX1_takesSign_28 rfl rfl (Nat.zero_le _) (Nat.zero_le _) ⟨_, rfl, by unfold tSign; first | exact ⟨(b2i_t (by (try simp only [b2i_eq0, b2i_ne0, decide_eq_true_eq] at *); (try simp only [cI, sI_setA, sI_setQ, sI_setR, sA_setI, sA_setR, sA_setQ, fa_lt, fa_le, fa_eq, Int32.reduceToInt] at *); omega)).symm, by (simp only [setG_0, setG_1, setG_2]); (try rfl)⟩ | exact ⟨(b2i_f (by (try simp only [b2i_eq0, b2i_ne0, decide_eq_true_eq] at *); (try simp only [cI, sI_setA, sI_setQ, sI_setR, sA_setI, sA_setR, sA_setQ, fa_lt, fa_le, fa_eq, Int32.reduceToInt] at *); omega)).symm, by (simp only [setG_0, setG_1, setG_2]); (try rfl)⟩ | exact ⟨(b2i_t (by (try simp only [b2i_eq0, b2i_ne0, decide_eq_true_eq] at *); (try simp only [cI, sI_setA, sI_setQ, sI_setR, sA_setI, sA_setR, sA_setQ, fa_lt, fa_le, fa_eq, Int32.reduceToInt] at *); omega)).symm, rfl⟩ | exact ⟨(b2i_f (by (try simp only [b2i_eq0, b2i_ne0, decide_eq_true_eq] at *); (try simp only [cI, sI_setA, sI_setQ, sI_setR, sA_setI, sA_setR, sA_setQ, fa_lt, fa_le, fa_eq, Int32.reduceToInt] at *); omega)).symm, rfl⟩⟩
      · skip
        refine r_iconst (v := 1) dX1_takesSign_23 (by decide) ?_
        refine r_goto 28 dX1_takesSign_24 (by decide) ?_
        exact r_zret dX1_takesSign_28 rfl rfl (Nat.zero_le _) (Nat.zero_le _) ⟨_, rfl, by unfold tSign; first | exact ⟨(b2i_t (by (try simp only [b2i_eq0, b2i_ne0, decide_eq_true_eq] at *); (try simp only [cI, sI_setA, sI_setQ, sI_setR, sA_setI, sA_setR, sA_setQ, fa_lt, fa_le, fa_eq, Int32.reduceToInt] at *); omega)).symm, by (simp only [setG_0, setG_1, setG_2]); (try rfl)⟩ | exact ⟨(b2i_f (by (try simp only [b2i_eq0, b2i_ne0, decide_eq_true_eq] at *); (try simp only [cI, sI_setA, sI_setQ, sI_setR, sA_setI, sA_setR, sA_setQ, fa_lt, fa_le, fa_eq, Int32.reduceToInt] at *); omega)).symm, by (simp only [setG_0, setG_1, setG_2]); (try rfl)⟩ | exact ⟨(b2i_t (by (try simp only [b2i_eq0, b2i_ne0, decide_eq_true_eq] at *); (try simp only [cI, sI_setA, sI_setQ, sI_setR, sA_setI, sA_setR, sA_setQ, fa_lt, fa_le, fa_eq, Int32.reduceToInt] at *); omega)).symm, rfl⟩ | exact ⟨(b2i_f (by (try simp only [b2i_eq0, b2i_ne0, decide_eq_true_eq] at *); (try simp only [cI, sI_setA, sI_setQ, sI_setR, sA_setI, sA_setR, sA_setQ, fa_lt, fa_le, fa_eq, Int32.reduceToInt] at *); omega)).symm, rfl⟩⟩
set_option maxHeartbeats 4000000 in
theorem c_X1_takesFirstDigit {l : Launch} {G : va_G} {cy : Nat → ClassId} (n : Int32) (g : GT) (S : HS) : Cn l G cy yX1_takesFirstDigit cX1_takesFirstDigit 2 (some .boolean) 1 [.ref 15, .int n] (setG S g) 0 0 (qI (fun r S2 => r = (tFirst n g).1 ∧ S2 = setG S (tFirst n g).2)) := by
  refine Cn.of [some (.ref 15), some (.int n)] (by decide) rfl (Nat.le_of_ble_eq_true rfl) ?_
  refine r_aload_n dX1_takesFirstDigit_0 rfl rfl ?_
  refine r_iconst (v := 3) dX1_takesFirstDigit_1 (by decide) ?_
  refine r_putI dX1_takesFirstDigit_2 (lp_X1_11 _) rfl rfl ?_
  refine r_aload_n dX1_takesFirstDigit_5 rfl rfl ?_
  refine r_iconst (v := 4) dX1_takesFirstDigit_6 (by decide) ?_
  refine r_putI dX1_takesFirstDigit_7 (lp_X1_18 _) rfl rfl ?_
  refine r_iload_n dX1_takesFirstDigit_10 rfl rfl ?_
  refine r_invS1i dX1_takesFirstDigit_11 lm_X1_46 (c_X1_isDigit _ _) (Nat.le_of_ble_eq_true rfl) (Nat.le_of_ble_eq_true rfl) (Nat.zero_le _) (Nat.zero_le _) (fun r11 S11 hq11 => ?_)
  obtain ⟨rfl, hz11⟩ := hq11
  replace hz11 := hz11.symm
  subst hz11
  exact r_zret dX1_takesFirstDigit_14 rfl b2i_nar (Nat.zero_le _) (Nat.zero_le _) ⟨_, rfl, ⟨rfl, by (simp only [setG_0, setG_1, setG_2]); (try rfl)⟩⟩
set_option maxHeartbeats 4000000 in
theorem c_X1_takesBehindUnit {l : Launch} {G : va_G} {cy : Nat → ClassId} (n : Int32) (g : GT) (S : HS) : Cn l G cy yX1_takesBehindUnit cX1_takesBehindUnit 2 (some .boolean) 1 [.ref 15, .int n] (setG S g) 0 0 (qI (fun r S2 => r = (tBehind n g).1 ∧ S2 = setG S (tBehind n g).2)) := by
  refine Cn.of [some (.ref 15), some (.int n)] (by decide) rfl (Nat.le_of_ble_eq_true rfl) ?_
  refine r_iload_n dX1_takesBehindUnit_0 rfl rfl ?_
  refine r_invS1i dX1_takesBehindUnit_1 lm_X1_46 (c_X1_isDigit _ _) (Nat.le_of_ble_eq_true rfl) (Nat.le_of_ble_eq_true rfl) (Nat.zero_le _) (Nat.zero_le _) (fun r1 S1 hq1 => ?_)
  obtain ⟨rfl, hz1⟩ := hq1
  replace hz1 := hz1.symm
  subst hz1
  refine r_if_eq 30 dX1_takesBehindUnit_4 (by decide) (fun q4 => ?_) (fun q4 => ?_)
  · skip
    refine r_aload_n dX1_takesBehindUnit_30 rfl rfl ?_
    refine r_iconst (v := 0) dX1_takesBehindUnit_31 (by decide) ?_
    refine r_putI dX1_takesBehindUnit_32 (lp_X1_18 _) rfl rfl ?_
    refine r_iload_n dX1_takesBehindUnit_35 rfl rfl ?_
    refine r_bipush (v := 41) dX1_takesBehindUnit_36 (by decide) ?_
    refine r_icmp_ne 64 dX1_takesBehindUnit_38 (by decide) (fun q38 => ?_) (fun q38 => ?_)
    · skip
      refine r_aload_n dX1_takesBehindUnit_64 rfl rfl ?_
      refine r_iconst (v := 0) dX1_takesBehindUnit_65 (by decide) ?_
      refine r_putI dX1_takesBehindUnit_66 (lp_X1_11 _) rfl rfl ?_
      refine r_iload_n dX1_takesBehindUnit_69 rfl rfl ?_
      refine r_bipush (v := 38) dX1_takesBehindUnit_70 (by decide) ?_
      refine r_icmp_eq 81 dX1_takesBehindUnit_72 (by decide) (fun q72 => ?_) (fun q72 => ?_)
      · skip
        refine r_iconst (v := 1) dX1_takesBehindUnit_81 (by decide) ?_
        refine r_goto 86 dX1_takesBehindUnit_82 (by decide) ?_
        exact r_zret dX1_takesBehindUnit_86 rfl rfl (Nat.zero_le _) (Nat.zero_le _) ⟨_, rfl, by unfold tBehind; first | (rw [if_pos (by (try simp only [b2i_eq0, b2i_ne0, decide_eq_true_eq] at *); (try simp only [cI, sI_setA, sI_setQ, sI_setR, sA_setI, sA_setR, sA_setQ, fa_lt, fa_le, fa_eq, Int32.reduceToInt] at *); omega)]; first | exact ⟨(b2i_t (by (try simp only [b2i_eq0, b2i_ne0, decide_eq_true_eq] at *); (try simp only [cI, sI_setA, sI_setQ, sI_setR, sA_setI, sA_setR, sA_setQ, fa_lt, fa_le, fa_eq, Int32.reduceToInt] at *); omega)).symm, by (simp only [setG_0, setG_1, setG_2]); (try rfl)⟩ | exact ⟨(b2i_f (by (try simp only [b2i_eq0, b2i_ne0, decide_eq_true_eq] at *); (try simp only [cI, sI_setA, sI_setQ, sI_setR, sA_setI, sA_setR, sA_setQ, fa_lt, fa_le, fa_eq, Int32.reduceToInt] at *); omega)).symm, by (simp only [setG_0, setG_1, setG_2]); (try rfl)⟩ | exact ⟨(b2i_t (by (try simp only [b2i_eq0, b2i_ne0, decide_eq_true_eq] at *); (try simp only [cI, sI_setA, sI_setQ, sI_setR, sA_setI, sA_setR, sA_setQ, fa_lt, fa_le, fa_eq, Int32.reduceToInt] at *); omega)).symm, rfl⟩ | exact ⟨(b2i_f (by (try simp only [b2i_eq0, b2i_ne0, decide_eq_true_eq] at *); (try simp only [cI, sI_setA, sI_setQ, sI_setR, sA_setI, sA_setR, sA_setQ, fa_lt, fa_le, fa_eq, Int32.reduceToInt] at *); omega)).symm, rfl⟩) | (rw [if_neg (by (try simp only [b2i_eq0, b2i_ne0, decide_eq_true_eq] at *); (try simp only [cI, sI_setA, sI_setQ, sI_setR, sA_setI, sA_setR, sA_setQ, fa_lt, fa_le, fa_eq, Int32.reduceToInt] at *); omega), if_pos (by (try simp only [b2i_eq0, b2i_ne0, decide_eq_true_eq] at *); (try simp only [cI, sI_setA, sI_setQ, sI_setR, sA_setI, sA_setR, sA_setQ, fa_lt, fa_le, fa_eq, Int32.reduceToInt] at *); omega)]; first | exact ⟨(b2i_t (by (try simp only [b2i_eq0, b2i_ne0, decide_eq_true_eq] at *); (try simp only [cI, sI_setA, sI_setQ, sI_setR, sA_setI, sA_setR, sA_setQ, fa_lt, fa_le, fa_eq, Int32.reduceToInt] at *); omega)).symm, by (simp only [setG_0, setG_1, setG_2]); (try rfl)⟩ | exact ⟨(b2i_f (by (try simp only [b2i_eq0, b2i_ne0, decide_eq_true_eq] at *); (try simp only [cI, sI_setA, sI_setQ, sI_setR, sA_setI, sA_setR, sA_setQ, fa_lt, fa_le, fa_eq, Int32.reduceToInt] at *); omega)).symm, by (simp only [setG_0, setG_1, setG_2]); (try rfl)⟩ | exact ⟨(b2i_t (by (try simp only [b2i_eq0, b2i_ne0, decide_eq_true_eq] at *); (try simp only [cI, sI_setA, sI_setQ, sI_setR, sA_setI, sA_setR, sA_setQ, fa_lt, fa_le, fa_eq, Int32.reduceToInt] at *); omega)).symm, rfl⟩ | exact ⟨(b2i_f (by (try simp only [b2i_eq0, b2i_ne0, decide_eq_true_eq] at *); (try simp only [cI, sI_setA, sI_setQ, sI_setR, sA_setI, sA_setR, sA_setQ, fa_lt, fa_le, fa_eq, Int32.reduceToInt] at *); omega)).symm, rfl⟩) | (rw [if_neg (by (try simp only [b2i_eq0, b2i_ne0, decide_eq_true_eq] at *); (try simp only [cI, sI_setA, sI_setQ, sI_setR, sA_setI, sA_setR, sA_setQ, fa_lt, fa_le, fa_eq, Int32.reduceToInt] at *); omega), if_neg (by (try simp only [b2i_eq0, b2i_ne0, decide_eq_true_eq] at *); (try simp only [cI, sI_setA, sI_setQ, sI_setR, sA_setI, sA_setR, sA_setQ, fa_lt, fa_le, fa_eq, Int32.reduceToInt] at *); omega)]; first | exact ⟨(b2i_t (by (try simp only [b2i_eq0, b2i_ne0, decide_eq_true_eq] at *); (try simp only [cI, sI_setA, sI_setQ, sI_setR, sA_setI, sA_setR, sA_setQ, fa_lt, fa_le, fa_eq, Int32.reduceToInt] at *); omega)).symm, by (simp only [setG_0, setG_1, setG_2]); (try rfl)⟩ | exact ⟨(b2i_f (by (try simp only [b2i_eq0, b2i_ne0, decide_eq_true_eq] at *); (try simp only [cI, sI_setA, sI_setQ, sI_setR, sA_setI, sA_setR, sA_setQ, fa_lt, fa_le, fa_eq, Int32.reduceToInt] at *); omega)).symm, by (simp only [setG_0, setG_1, setG_2]); (try rfl)⟩ | exact ⟨(b2i_t (by (try simp only [b2i_eq0, b2i_ne0, decide_eq_true_eq] at *); (try simp only [cI, sI_setA, sI_setQ, sI_setR, sA_setI, sA_setR, sA_setQ, fa_lt, fa_le, fa_eq, Int32.reduceToInt] at *); omega)).symm, rfl⟩ | exact ⟨(b2i_f (by (try simp only [b2i_eq0, b2i_ne0, decide_eq_true_eq] at *); (try simp only [cI, sI_setA, sI_setQ, sI_setR, sA_setI, sA_setR, sA_setQ, fa_lt, fa_le, fa_eq, Int32.reduceToInt] at *); omega)).symm, rfl⟩)⟩
      · skip
        refine r_iload_n dX1_takesBehindUnit_75 rfl rfl ?_
        refine r_bipush (v := 124) dX1_takesBehindUnit_76 (by decide) ?_
        refine r_icmp_ne 85 dX1_takesBehindUnit_78 (by decide) (fun q78 => ?_) (fun q78 => ?_)
        · skip
          refine r_iconst (v := 0) dX1_takesBehindUnit_85 (by decide) ?_
          exact r_zret dX1_takesBehindUnit_86 rfl rfl (Nat.zero_le _) (Nat.zero_le _) ⟨_, rfl, by unfold tBehind; first | (rw [if_pos (by (try simp only [b2i_eq0, b2i_ne0, decide_eq_true_eq] at *); (try simp only [cI, sI_setA, sI_setQ, sI_setR, sA_setI, sA_setR, sA_setQ, fa_lt, fa_le, fa_eq, Int32.reduceToInt] at *); omega)]; first | exact ⟨(b2i_t (by (try simp only [b2i_eq0, b2i_ne0, decide_eq_true_eq] at *); (try simp only [cI, sI_setA, sI_setQ, sI_setR, sA_setI, sA_setR, sA_setQ, fa_lt, fa_le, fa_eq, Int32.reduceToInt] at *); omega)).symm, by (simp only [setG_0, setG_1, setG_2]); (try rfl)⟩ | exact ⟨(b2i_f (by (try simp only [b2i_eq0, b2i_ne0, decide_eq_true_eq] at *); (try simp only [cI, sI_setA, sI_setQ, sI_setR, sA_setI, sA_setR, sA_setQ, fa_lt, fa_le, fa_eq, Int32.reduceToInt] at *); omega)).symm, by (simp only [setG_0, setG_1, setG_2]); (try rfl)⟩ | exact ⟨(b2i_t (by (try simp only [b2i_eq0, b2i_ne0, decide_eq_true_eq] at *); (try simp only [cI, sI_setA, sI_setQ, sI_setR, sA_setI, sA_setR, sA_setQ, fa_lt, fa_le, fa_eq, Int32.reduceToInt] at *); omega)).symm, rfl⟩ | exact ⟨(b2i_f (by (try simp only [b2i_eq0, b2i_ne0, decide_eq_true_eq] at *); (try simp only [cI, sI_setA, sI_setQ, sI_setR, sA_setI, sA_setR, sA_setQ, fa_lt, fa_le, fa_eq, Int32.reduceToInt] at *); omega)).symm, rfl⟩) | (rw [if_neg (by (try simp only [b2i_eq0, b2i_ne0, decide_eq_true_eq] at *); (try simp only [cI, sI_setA, sI_setQ, sI_setR, sA_setI, sA_setR, sA_setQ, fa_lt, fa_le, fa_eq, Int32.reduceToInt] at *); omega), if_pos (by (try simp only [b2i_eq0, b2i_ne0, decide_eq_true_eq] at *); (try simp only [cI, sI_setA, sI_setQ, sI_setR, sA_setI, sA_setR, sA_setQ, fa_lt, fa_le, fa_eq, Int32.reduceToInt] at *); omega)]; first | exact ⟨(b2i_t (by (try simp only [b2i_eq0, b2i_ne0, decide_eq_true_eq] at *); (try simp only [cI, sI_setA, sI_setQ, sI_setR, sA_setI, sA_setR, sA_setQ, fa_lt, fa_le, fa_eq, Int32.reduceToInt] at *); omega)).symm, by (simp only [setG_0, setG_1, setG_2]); (try rfl)⟩ | exact ⟨(b2i_f (by (try simp only [b2i_eq0, b2i_ne0, decide_eq_true_eq] at *); (try simp only [cI, sI_setA, sI_setQ, sI_setR, sA_setI, sA_setR, sA_setQ, fa_lt, fa_le, fa_eq, Int32.reduceToInt] at *); omega)).symm, by (simp only [setG_0, setG_1, setG_2]); (try rfl)⟩ | exact ⟨(b2i_t (by (try simp only [b2i_eq0, b2i_ne0, decide_eq_true_eq] at *); (try simp only [cI, sI_setA, sI_setQ, sI_setR, sA_setI, sA_setR, sA_setQ, fa_lt, fa_le, fa_eq, Int32.reduceToInt] at *); omega)).symm, rfl⟩ | exact ⟨(b2i_f (by (try simp only [b2i_eq0, b2i_ne0, decide_eq_true_eq] at *); (try simp only [cI, sI_setA, sI_setQ, sI_setR, sA_setI, sA_setR, sA_setQ, fa_lt, fa_le, fa_eq, Int32.reduceToInt] at *); omega)).symm, rfl⟩) | (rw [if_neg (by (try simp only [b2i_eq0, b2i_ne0, decide_eq_true_eq] at *); (try simp only [cI, sI_setA, sI_setQ, sI_setR, sA_setI, sA_setR, sA_setQ, fa_lt, fa_le, fa_eq, Int32.reduceToInt] at *); omega), if_neg (by (try simp only [b2i_eq0, b2i_ne0, decide_eq_true_eq] at *); (try simp only [cI, sI_setA, sI_setQ, sI_setR, sA_setI, sA_setR, sA_setQ, fa_lt, fa_le, fa_eq, Int32.reduceToInt] at *); omega)]; first | exact ⟨(b2i_t (by (try simp only [b2i_eq0, b2i_ne0, decide_eq_true_eq] at *); (try simp only [cI, sI_setA, sI_setQ, sI_setR, sA_setI, sA_setR, sA_setQ, fa_lt, fa_le, fa_eq, Int32.reduceToInt] at *); omega)).symm, by (simp only [setG_0, setG_1, setG_2]); (try rfl)⟩ | exact ⟨(b2i_f (by (try simp only [b2i_eq0, b2i_ne0, decide_eq_true_eq] at *); (try simp only [cI, sI_setA, sI_setQ, sI_setR, sA_setI, sA_setR, sA_setQ, fa_lt, fa_le, fa_eq, Int32.reduceToInt] at *); omega)).symm, by (simp only [setG_0, setG_1, setG_2]); (try rfl)⟩ | exact ⟨(b2i_t (by (try simp only [b2i_eq0, b2i_ne0, decide_eq_true_eq] at *); (try simp only [cI, sI_setA, sI_setQ, sI_setR, sA_setI, sA_setR, sA_setQ, fa_lt, fa_le, fa_eq, Int32.reduceToInt] at *); omega)).symm, rfl⟩ | exact ⟨(b2i_f (by (try simp only [b2i_eq0, b2i_ne0, decide_eq_true_eq] at *); (try simp only [cI, sI_setA, sI_setQ, sI_setR, sA_setI, sA_setR, sA_setQ, fa_lt, fa_le, fa_eq, Int32.reduceToInt] at *); omega)).symm, rfl⟩)⟩
        · skip
          refine r_iconst (v := 1) dX1_takesBehindUnit_81 (by decide) ?_
          refine r_goto 86 dX1_takesBehindUnit_82 (by decide) ?_
          exact r_zret dX1_takesBehindUnit_86 rfl rfl (Nat.zero_le _) (Nat.zero_le _) ⟨_, rfl, by unfold tBehind; first | (rw [if_pos (by (try simp only [b2i_eq0, b2i_ne0, decide_eq_true_eq] at *); (try simp only [cI, sI_setA, sI_setQ, sI_setR, sA_setI, sA_setR, sA_setQ, fa_lt, fa_le, fa_eq, Int32.reduceToInt] at *); omega)]; first | exact ⟨(b2i_t (by (try simp only [b2i_eq0, b2i_ne0, decide_eq_true_eq] at *); (try simp only [cI, sI_setA, sI_setQ, sI_setR, sA_setI, sA_setR, sA_setQ, fa_lt, fa_le, fa_eq, Int32.reduceToInt] at *); omega)).symm, by (simp only [setG_0, setG_1, setG_2]); (try rfl)⟩ | exact ⟨(b2i_f (by (try simp only [b2i_eq0, b2i_ne0, decide_eq_true_eq] at *); (try simp only [cI, sI_setA, sI_setQ, sI_setR, sA_setI, sA_setR, sA_setQ, fa_lt, fa_le, fa_eq, Int32.reduceToInt] at *); omega)).symm, by (simp only [setG_0, setG_1, setG_2]); (try rfl)⟩ | exact ⟨(b2i_t (by (try simp only [b2i_eq0, b2i_ne0, decide_eq_true_eq] at *); (try simp only [cI, sI_setA, sI_setQ, sI_setR, sA_setI, sA_setR, sA_setQ, fa_lt, fa_le, fa_eq, Int32.reduceToInt] at *); omega)).symm, rfl⟩ | exact ⟨(b2i_f (by (try simp only [b2i_eq0, b2i_ne0, decide_eq_true_eq] at *); (try simp only [cI, sI_setA, sI_setQ, sI_setR, sA_setI, sA_setR, sA_setQ, fa_lt, fa_le, fa_eq, Int32.reduceToInt] at *); omega)).symm, rfl⟩) | (rw [if_neg (by (try simp only [b2i_eq0, b2i_ne0, decide_eq_true_eq] at *); (try simp only [cI, sI_setA, sI_setQ, sI_setR, sA_setI, sA_setR, sA_setQ, fa_lt, fa_le, fa_eq, Int32.reduceToInt] at *); omega), if_pos (by (try simp only [b2i_eq0, b2i_ne0, decide_eq_true_eq] at *); (try simp only [cI, sI_setA, sI_setQ, sI_setR, sA_setI, sA_setR, sA_setQ, fa_lt, fa_le, fa_eq, Int32.reduceToInt] at *); omega)]; first | exact ⟨(b2i_t (by (try simp only [b2i_eq0, b2i_ne0, decide_eq_true_eq] at *); (try simp only [cI, sI_setA, sI_setQ, sI_setR, sA_setI, sA_setR, sA_setQ, fa_lt, fa_le, fa_eq, Int32.reduceToInt] at *); omega)).symm, by (simp only [setG_0, setG_1, setG_2]); (try rfl)⟩ | exact ⟨(b2i_f (by (try simp only [b2i_eq0, b2i_ne0, decide_eq_true_eq] at *); (try simp only [cI, sI_setA, sI_setQ, sI_setR, sA_setI, sA_setR, sA_setQ, fa_lt, fa_le, fa_eq, Int32.reduceToInt] at *); omega)).symm, by (simp only [setG_0, setG_1, setG_2]); (try rfl)⟩ | exact ⟨(b2i_t (by (try simp only [b2i_eq0, b2i_ne0, decide_eq_true_eq] at *); (try simp only [cI, sI_setA, sI_setQ, sI_setR, sA_setI, sA_setR, sA_setQ, fa_lt, fa_le, fa_eq, Int32.reduceToInt] at *); omega)).symm, rfl⟩ | exact ⟨(b2i_f (by (try simp only [b2i_eq0, b2i_ne0, decide_eq_true_eq] at *); (try simp only [cI, sI_setA, sI_setQ, sI_setR, sA_setI, sA_setR, sA_setQ, fa_lt, fa_le, fa_eq, Int32.reduceToInt] at *); omega)).symm, rfl⟩) | (rw [if_neg (by (try simp only [b2i_eq0, b2i_ne0, decide_eq_true_eq] at *); (try simp only [cI, sI_setA, sI_setQ, sI_setR, sA_setI, sA_setR, sA_setQ, fa_lt, fa_le, fa_eq, Int32.reduceToInt] at *); omega), if_neg (by (try simp only [b2i_eq0, b2i_ne0, decide_eq_true_eq] at *); (try simp only [cI, sI_setA, sI_setQ, sI_setR, sA_setI, sA_setR, sA_setQ, fa_lt, fa_le, fa_eq, Int32.reduceToInt] at *); omega)]; first | exact ⟨(b2i_t (by (try simp only [b2i_eq0, b2i_ne0, decide_eq_true_eq] at *); (try simp only [cI, sI_setA, sI_setQ, sI_setR, sA_setI, sA_setR, sA_setQ, fa_lt, fa_le, fa_eq, Int32.reduceToInt] at *); omega)).symm, by (simp only [setG_0, setG_1, setG_2]); (try rfl)⟩ | exact ⟨(b2i_f (by (try simp only [b2i_eq0, b2i_ne0, decide_eq_true_eq] at *); (try simp only [cI, sI_setA, sI_setQ, sI_setR, sA_setI, sA_setR, sA_setQ, fa_lt, fa_le, fa_eq, Int32.reduceToInt] at *); omega)).symm, by (simp only [setG_0, setG_1, setG_2]); (try rfl)⟩ | exact ⟨(b2i_t (by (try simp only [b2i_eq0, b2i_ne0, decide_eq_true_eq] at *); (try simp only [cI, sI_setA, sI_setQ, sI_setR, sA_setI, sA_setR, sA_setQ, fa_lt, fa_le, fa_eq, Int32.reduceToInt] at *); omega)).symm, rfl⟩ | exact ⟨(b2i_f (by (try simp only [b2i_eq0, b2i_ne0, decide_eq_true_eq] at *); (try simp only [cI, sI_setA, sI_setQ, sI_setR, sA_setI, sA_setR, sA_setQ, fa_lt, fa_le, fa_eq, Int32.reduceToInt] at *); omega)).symm, rfl⟩)⟩
    · skip
      refine r_aload_n dX1_takesBehindUnit_41 rfl rfl ?_
      refine r_dup dX1_takesBehindUnit_42 rfl ?_
      refine r_getI dX1_takesBehindUnit_43 lf_X1_15 rfl rfl ?_
      refine r_iconst (v := 1) dX1_takesBehindUnit_46 (by decide) ?_
      refine r_isub dX1_takesBehindUnit_47 ?_
      refine r_putI dX1_takesBehindUnit_48 (lp_X1_15 _) rfl rfl ?_
      refine r_aload_n dX1_takesBehindUnit_51 rfl rfl ?_
      refine r_getI dX1_takesBehindUnit_52 lf_X1_15 rfl rfl ?_
      change R l G cy yX1_takesBehindUnit cX1_takesBehindUnit 2 (some .boolean) 1 0 0 _ 55 _ [.int (g.2.1 - 1)] _ 0 0
      refine r_if_lt 62 dX1_takesBehindUnit_55 (by decide) (fun q55 => ?_) (fun q55 => ?_)
      · skip
        refine r_iconst (v := 0) dX1_takesBehindUnit_62 (by decide) ?_
        exact r_zret dX1_takesBehindUnit_63 rfl rfl (Nat.zero_le _) (Nat.zero_le _) ⟨_, rfl, by unfold tBehind; first | (rw [if_pos (by (try simp only [b2i_eq0, b2i_ne0, decide_eq_true_eq] at *); (try simp only [cI, sI_setA, sI_setQ, sI_setR, sA_setI, sA_setR, sA_setQ, fa_lt, fa_le, fa_eq, Int32.reduceToInt] at *); omega)]; first | exact ⟨(b2i_t (by (try simp only [b2i_eq0, b2i_ne0, decide_eq_true_eq] at *); (try simp only [cI, sI_setA, sI_setQ, sI_setR, sA_setI, sA_setR, sA_setQ, fa_lt, fa_le, fa_eq, Int32.reduceToInt] at *); omega)).symm, by (simp only [setG_0, setG_1, setG_2]); (try rfl)⟩ | exact ⟨(b2i_f (by (try simp only [b2i_eq0, b2i_ne0, decide_eq_true_eq] at *); (try simp only [cI, sI_setA, sI_setQ, sI_setR, sA_setI, sA_setR, sA_setQ, fa_lt, fa_le, fa_eq, Int32.reduceToInt] at *); omega)).symm, by (simp only [setG_0, setG_1, setG_2]); (try rfl)⟩ | exact ⟨(b2i_t (by (try simp only [b2i_eq0, b2i_ne0, decide_eq_true_eq] at *); (try simp only [cI, sI_setA, sI_setQ, sI_setR, sA_setI, sA_setR, sA_setQ, fa_lt, fa_le, fa_eq, Int32.reduceToInt] at *); omega)).symm, rfl⟩ | exact ⟨(b2i_f (by (try simp only [b2i_eq0, b2i_ne0, decide_eq_true_eq] at *); (try simp only [cI, sI_setA, sI_setQ, sI_setR, sA_setI, sA_setR, sA_setQ, fa_lt, fa_le, fa_eq, Int32.reduceToInt] at *); omega)).symm, rfl⟩) | (rw [if_neg (by (try simp only [b2i_eq0, b2i_ne0, decide_eq_true_eq] at *); (try simp only [cI, sI_setA, sI_setQ, sI_setR, sA_setI, sA_setR, sA_setQ, fa_lt, fa_le, fa_eq, Int32.reduceToInt] at *); omega), if_pos (by (try simp only [b2i_eq0, b2i_ne0, decide_eq_true_eq] at *); (try simp only [cI, sI_setA, sI_setQ, sI_setR, sA_setI, sA_setR, sA_setQ, fa_lt, fa_le, fa_eq, Int32.reduceToInt] at *); omega)]; first | exact ⟨(b2i_t (by (try simp only [b2i_eq0, b2i_ne0, decide_eq_true_eq] at *); (try simp only [cI, sI_setA, sI_setQ, sI_setR, sA_setI, sA_setR, sA_setQ, fa_lt, fa_le, fa_eq, Int32.reduceToInt] at *); omega)).symm, by (simp only [setG_0, setG_1, setG_2]); (try rfl)⟩ | exact ⟨(b2i_f (by (try simp only [b2i_eq0, b2i_ne0, decide_eq_true_eq] at *); (try simp only [cI, sI_setA, sI_setQ, sI_setR, sA_setI, sA_setR, sA_setQ, fa_lt, fa_le, fa_eq, Int32.reduceToInt] at *); omega)).symm, by (simp only [setG_0, setG_1, setG_2]); (try rfl)⟩ | exact ⟨(b2i_t (by (try simp only [b2i_eq0, b2i_ne0, decide_eq_true_eq] at *); (try simp only [cI, sI_setA, sI_setQ, sI_setR, sA_setI, sA_setR, sA_setQ, fa_lt, fa_le, fa_eq, Int32.reduceToInt] at *); omega)).symm, rfl⟩ | exact ⟨(b2i_f (by (try simp only [b2i_eq0, b2i_ne0, decide_eq_true_eq] at *); (try simp only [cI, sI_setA, sI_setQ, sI_setR, sA_setI, sA_setR, sA_setQ, fa_lt, fa_le, fa_eq, Int32.reduceToInt] at *); omega)).symm, rfl⟩) | (rw [if_neg (by (try simp only [b2i_eq0, b2i_ne0, decide_eq_true_eq] at *); (try simp only [cI, sI_setA, sI_setQ, sI_setR, sA_setI, sA_setR, sA_setQ, fa_lt, fa_le, fa_eq, Int32.reduceToInt] at *); omega), if_neg (by (try simp only [b2i_eq0, b2i_ne0, decide_eq_true_eq] at *); (try simp only [cI, sI_setA, sI_setQ, sI_setR, sA_setI, sA_setR, sA_setQ, fa_lt, fa_le, fa_eq, Int32.reduceToInt] at *); omega)]; first | exact ⟨(b2i_t (by (try simp only [b2i_eq0, b2i_ne0, decide_eq_true_eq] at *); (try simp only [cI, sI_setA, sI_setQ, sI_setR, sA_setI, sA_setR, sA_setQ, fa_lt, fa_le, fa_eq, Int32.reduceToInt] at *); omega)).symm, by (simp only [setG_0, setG_1, setG_2]); (try rfl)⟩ | exact ⟨(b2i_f (by (try simp only [b2i_eq0, b2i_ne0, decide_eq_true_eq] at *); (try simp only [cI, sI_setA, sI_setQ, sI_setR, sA_setI, sA_setR, sA_setQ, fa_lt, fa_le, fa_eq, Int32.reduceToInt] at *); omega)).symm, by (simp only [setG_0, setG_1, setG_2]); (try rfl)⟩ | exact ⟨(b2i_t (by (try simp only [b2i_eq0, b2i_ne0, decide_eq_true_eq] at *); (try simp only [cI, sI_setA, sI_setQ, sI_setR, sA_setI, sA_setR, sA_setQ, fa_lt, fa_le, fa_eq, Int32.reduceToInt] at *); omega)).symm, rfl⟩ | exact ⟨(b2i_f (by (try simp only [b2i_eq0, b2i_ne0, decide_eq_true_eq] at *); (try simp only [cI, sI_setA, sI_setQ, sI_setR, sA_setI, sA_setR, sA_setQ, fa_lt, fa_le, fa_eq, Int32.reduceToInt] at *); omega)).symm, rfl⟩)⟩
      · skip
        refine r_iconst (v := 1) dX1_takesBehindUnit_58 (by decide) ?_
        refine r_goto 63 dX1_takesBehindUnit_59 (by decide) ?_
        exact r_zret dX1_takesBehindUnit_63 rfl rfl (Nat.zero_le _) (Nat.zero_le _) ⟨_, rfl, by unfold tBehind; first | (rw [if_pos (by (try simp only [b2i_eq0, b2i_ne0, decide_eq_true_eq] at *); (try simp only [cI, sI_setA, sI_setQ, sI_setR, sA_setI, sA_setR, sA_setQ, fa_lt, fa_le, fa_eq, Int32.reduceToInt] at *); omega)]; first | exact ⟨(b2i_t (by (try simp only [b2i_eq0, b2i_ne0, decide_eq_true_eq] at *); (try simp only [cI, sI_setA, sI_setQ, sI_setR, sA_setI, sA_setR, sA_setQ, fa_lt, fa_le, fa_eq, Int32.reduceToInt] at *); omega)).symm, by (simp only [setG_0, setG_1, setG_2]); (try rfl)⟩ | exact ⟨(b2i_f (by (try simp only [b2i_eq0, b2i_ne0, decide_eq_true_eq] at *); (try simp only [cI, sI_setA, sI_setQ, sI_setR, sA_setI, sA_setR, sA_setQ, fa_lt, fa_le, fa_eq, Int32.reduceToInt] at *); omega)).symm, by (simp only [setG_0, setG_1, setG_2]); (try rfl)⟩ | exact ⟨(b2i_t (by (try simp only [b2i_eq0, b2i_ne0, decide_eq_true_eq] at *); (try simp only [cI, sI_setA, sI_setQ, sI_setR, sA_setI, sA_setR, sA_setQ, fa_lt, fa_le, fa_eq, Int32.reduceToInt] at *); omega)).symm, rfl⟩ | exact ⟨(b2i_f (by (try simp only [b2i_eq0, b2i_ne0, decide_eq_true_eq] at *); (try simp only [cI, sI_setA, sI_setQ, sI_setR, sA_setI, sA_setR, sA_setQ, fa_lt, fa_le, fa_eq, Int32.reduceToInt] at *); omega)).symm, rfl⟩) | (rw [if_neg (by (try simp only [b2i_eq0, b2i_ne0, decide_eq_true_eq] at *); (try simp only [cI, sI_setA, sI_setQ, sI_setR, sA_setI, sA_setR, sA_setQ, fa_lt, fa_le, fa_eq, Int32.reduceToInt] at *); omega), if_pos (by (try simp only [b2i_eq0, b2i_ne0, decide_eq_true_eq] at *); (try simp only [cI, sI_setA, sI_setQ, sI_setR, sA_setI, sA_setR, sA_setQ, fa_lt, fa_le, fa_eq, Int32.reduceToInt] at *); omega)]; first | exact ⟨(b2i_t (by (try simp only [b2i_eq0, b2i_ne0, decide_eq_true_eq] at *); (try simp only [cI, sI_setA, sI_setQ, sI_setR, sA_setI, sA_setR, sA_setQ, fa_lt, fa_le, fa_eq, Int32.reduceToInt] at *); omega)).symm, by (simp only [setG_0, setG_1, setG_2]); (try rfl)⟩ | exact ⟨(b2i_f (by (try simp only [b2i_eq0, b2i_ne0, decide_eq_true_eq] at *); (try simp only [cI, sI_setA, sI_setQ, sI_setR, sA_setI, sA_setR, sA_setQ, fa_lt, fa_le, fa_eq, Int32.reduceToInt] at *); omega)).symm, by (simp only [setG_0, setG_1, setG_2]); (try rfl)⟩ | exact ⟨(b2i_t (by (try simp only [b2i_eq0, b2i_ne0, decide_eq_true_eq] at *); (try simp only [cI, sI_setA, sI_setQ, sI_setR, sA_setI, sA_setR, sA_setQ, fa_lt, fa_le, fa_eq, Int32.reduceToInt] at *); omega)).symm, rfl⟩ | exact ⟨(b2i_f (by (try simp only [b2i_eq0, b2i_ne0, decide_eq_true_eq] at *); (try simp only [cI, sI_setA, sI_setQ, sI_setR, sA_setI, sA_setR, sA_setQ, fa_lt, fa_le, fa_eq, Int32.reduceToInt] at *); omega)).symm, rfl⟩) | (rw [if_neg (by (try simp only [b2i_eq0, b2i_ne0, decide_eq_true_eq] at *); (try simp only [cI, sI_setA, sI_setQ, sI_setR, sA_setI, sA_setR, sA_setQ, fa_lt, fa_le, fa_eq, Int32.reduceToInt] at *); omega), if_neg (by (try simp only [b2i_eq0, b2i_ne0, decide_eq_true_eq] at *); (try simp only [cI, sI_setA, sI_setQ, sI_setR, sA_setI, sA_setR, sA_setQ, fa_lt, fa_le, fa_eq, Int32.reduceToInt] at *); omega)]; first | exact ⟨(b2i_t (by (try simp only [b2i_eq0, b2i_ne0, decide_eq_true_eq] at *); (try simp only [cI, sI_setA, sI_setQ, sI_setR, sA_setI, sA_setR, sA_setQ, fa_lt, fa_le, fa_eq, Int32.reduceToInt] at *); omega)).symm, by (simp only [setG_0, setG_1, setG_2]); (try rfl)⟩ | exact ⟨(b2i_f (by (try simp only [b2i_eq0, b2i_ne0, decide_eq_true_eq] at *); (try simp only [cI, sI_setA, sI_setQ, sI_setR, sA_setI, sA_setR, sA_setQ, fa_lt, fa_le, fa_eq, Int32.reduceToInt] at *); omega)).symm, by (simp only [setG_0, setG_1, setG_2]); (try rfl)⟩ | exact ⟨(b2i_t (by (try simp only [b2i_eq0, b2i_ne0, decide_eq_true_eq] at *); (try simp only [cI, sI_setA, sI_setQ, sI_setR, sA_setI, sA_setR, sA_setQ, fa_lt, fa_le, fa_eq, Int32.reduceToInt] at *); omega)).symm, rfl⟩ | exact ⟨(b2i_f (by (try simp only [b2i_eq0, b2i_ne0, decide_eq_true_eq] at *); (try simp only [cI, sI_setA, sI_setQ, sI_setR, sA_setI, sA_setR, sA_setQ, fa_lt, fa_le, fa_eq, Int32.reduceToInt] at *); omega)).symm, rfl⟩)⟩
  · skip
    refine r_aload_n dX1_takesBehindUnit_7 rfl rfl ?_
    refine r_dup dX1_takesBehindUnit_8 rfl ?_
    refine r_getI dX1_takesBehindUnit_9 lf_X1_18 rfl rfl ?_
    refine r_iconst (v := 1) dX1_takesBehindUnit_12 (by decide) ?_
    refine r_isub dX1_takesBehindUnit_13 ?_
    refine r_putI dX1_takesBehindUnit_14 (lp_X1_18 _) rfl rfl ?_
    refine r_aload_n dX1_takesBehindUnit_17 rfl rfl ?_
    refine r_getI dX1_takesBehindUnit_18 lf_X1_18 rfl rfl ?_
    change R l G cy yX1_takesBehindUnit cX1_takesBehindUnit 2 (some .boolean) 1 0 0 _ 21 _ [.int (g.2.2 - 1)] _ 0 0
    refine r_if_lt 28 dX1_takesBehindUnit_21 (by decide) (fun q21 => ?_) (fun q21 => ?_)
    · skip
      refine r_iconst (v := 0) dX1_takesBehindUnit_28 (by decide) ?_
      exact r_zret dX1_takesBehindUnit_29 rfl rfl (Nat.zero_le _) (Nat.zero_le _) ⟨_, rfl, by unfold tBehind; first | (rw [if_pos (by (try simp only [b2i_eq0, b2i_ne0, decide_eq_true_eq] at *); (try simp only [cI, sI_setA, sI_setQ, sI_setR, sA_setI, sA_setR, sA_setQ, fa_lt, fa_le, fa_eq, Int32.reduceToInt] at *); omega)]; first | exact ⟨(b2i_t (by (try simp only [b2i_eq0, b2i_ne0, decide_eq_true_eq] at *); (try simp only [cI, sI_setA, sI_setQ, sI_setR, sA_setI, sA_setR, sA_setQ, fa_lt, fa_le, fa_eq, Int32.reduceToInt] at *); omega)).symm, by (simp only [setG_0, setG_1, setG_2]); (try rfl)⟩ | exact ⟨(b2i_f (by (try simp only [b2i_eq0, b2i_ne0, decide_eq_true_eq] at *); (try simp only [cI, sI_setA, sI_setQ, sI_setR, sA_setI, sA_setR, sA_setQ, fa_lt, fa_le, fa_eq, Int32.reduceToInt] at *); omega)).symm, by (simp only [setG_0, setG_1, setG_2]); (try rfl)⟩ | exact ⟨(b2i_t (by (try simp only [b2i_eq0, b2i_ne0, decide_eq_true_eq] at *); (try simp only [cI, sI_setA, sI_setQ, sI_setR, sA_setI, sA_setR, sA_setQ, fa_lt, fa_le, fa_eq, Int32.reduceToInt] at *); omega)).symm, rfl⟩ | exact ⟨(b2i_f (by (try simp only [b2i_eq0, b2i_ne0, decide_eq_true_eq] at *); (try simp only [cI, sI_setA, sI_setQ, sI_setR, sA_setI, sA_setR, sA_setQ, fa_lt, fa_le, fa_eq, Int32.reduceToInt] at *); omega)).symm, rfl⟩) | (rw [if_neg (by (try simp only [b2i_eq0, b2i_ne0, decide_eq_true_eq] at *); (try simp only [cI, sI_setA, sI_setQ, sI_setR, sA_setI, sA_setR, sA_setQ, fa_lt, fa_le, fa_eq, Int32.reduceToInt] at *); omega), if_pos (by (try simp only [b2i_eq0, b2i_ne0, decide_eq_true_eq] at *); (try simp only [cI, sI_setA, sI_setQ, sI_setR, sA_setI, sA_setR, sA_setQ, fa_lt, fa_le, fa_eq, Int32.reduceToInt] at *); omega)]; first | exact ⟨(b2i_t (by (try simp only [b2i_eq0, b2i_ne0, decide_eq_true_eq] at *); (try simp only [cI, sI_setA, sI_setQ, sI_setR, sA_setI, sA_setR, sA_setQ, fa_lt, fa_le, fa_eq, Int32.reduceToInt] at *); omega)).symm, by (simp only [setG_0, setG_1, setG_2]); (try rfl)⟩ | exact ⟨(b2i_f (by (try simp only [b2i_eq0, b2i_ne0, decide_eq_true_eq] at *); (try simp only [cI, sI_setA, sI_setQ, sI_setR, sA_setI, sA_setR, sA_setQ, fa_lt, fa_le, fa_eq, Int32.reduceToInt] at *); omega)).symm, by (simp only [setG_0, setG_1, setG_2]); (try rfl)⟩ | exact ⟨(b2i_t (by (try simp only [b2i_eq0, b2i_ne0, decide_eq_true_eq] at *); (try simp only [cI, sI_setA, sI_setQ, sI_setR, sA_setI, sA_setR, sA_setQ, fa_lt, fa_le, fa_eq, Int32.reduceToInt] at *); omega)).symm, rfl⟩ | exact ⟨(b2i_f (by (try simp only [b2i_eq0, b2i_ne0, decide_eq_true_eq] at *); (try simp only [cI, sI_setA, sI_setQ, sI_setR, sA_setI, sA_setR, sA_setQ, fa_lt, fa_le, fa_eq, Int32.reduceToInt] at *); omega)).symm, rfl⟩) | (rw [if_neg (by (try simp only [b2i_eq0, b2i_ne0, decide_eq_true_eq] at *); (try simp only [cI, sI_setA, sI_setQ, sI_setR, sA_setI, sA_setR, sA_setQ, fa_lt, fa_le, fa_eq, Int32.reduceToInt] at *); omega), if_neg (by (try simp only [b2i_eq0, b2i_ne0, decide_eq_true_eq] at *); (try simp only [cI, sI_setA, sI_setQ, sI_setR, sA_setI, sA_setR, sA_setQ, fa_lt, fa_le, fa_eq, Int32.reduceToInt] at *); omega)]; first | exact ⟨(b2i_t (by (try simp only [b2i_eq0, b2i_ne0, decide_eq_true_eq] at *); (try simp only [cI, sI_setA, sI_setQ, sI_setR, sA_setI, sA_setR, sA_setQ, fa_lt, fa_le, fa_eq, Int32.reduceToInt] at *); omega)).symm, by (simp only [setG_0, setG_1, setG_2]); (try rfl)⟩ | exact ⟨(b2i_f (by (try simp only [b2i_eq0, b2i_ne0, decide_eq_true_eq] at *); (try simp only [cI, sI_setA, sI_setQ, sI_setR, sA_setI, sA_setR, sA_setQ, fa_lt, fa_le, fa_eq, Int32.reduceToInt] at *); omega)).symm, by (simp only [setG_0, setG_1, setG_2]); (try rfl)⟩ | exact ⟨(b2i_t (by (try simp only [b2i_eq0, b2i_ne0, decide_eq_true_eq] at *); (try simp only [cI, sI_setA, sI_setQ, sI_setR, sA_setI, sA_setR, sA_setQ, fa_lt, fa_le, fa_eq, Int32.reduceToInt] at *); omega)).symm, rfl⟩ | exact ⟨(b2i_f (by (try simp only [b2i_eq0, b2i_ne0, decide_eq_true_eq] at *); (try simp only [cI, sI_setA, sI_setQ, sI_setR, sA_setI, sA_setR, sA_setQ, fa_lt, fa_le, fa_eq, Int32.reduceToInt] at *); omega)).symm, rfl⟩)⟩
    · skip
      refine r_iconst (v := 1) dX1_takesBehindUnit_24 (by decide) ?_
      refine r_goto 29 dX1_takesBehindUnit_25 (by decide) ?_
      exact r_zret dX1_takesBehindUnit_29 rfl rfl (Nat.zero_le _) (Nat.zero_le _) ⟨_, rfl, by unfold tBehind; first | (rw [if_pos (by (try simp only [b2i_eq0, b2i_ne0, decide_eq_true_eq] at *); (try simp only [cI, sI_setA, sI_setQ, sI_setR, sA_setI, sA_setR, sA_setQ, fa_lt, fa_le, fa_eq, Int32.reduceToInt] at *); omega)]; first | exact ⟨(b2i_t (by (try simp only [b2i_eq0, b2i_ne0, decide_eq_true_eq] at *); (try simp only [cI, sI_setA, sI_setQ, sI_setR, sA_setI, sA_setR, sA_setQ, fa_lt, fa_le, fa_eq, Int32.reduceToInt] at *); omega)).symm, by (simp only [setG_0, setG_1, setG_2]); (try rfl)⟩ | exact ⟨(b2i_f (by (try simp only [b2i_eq0, b2i_ne0, decide_eq_true_eq] at *); (try simp only [cI, sI_setA, sI_setQ, sI_setR, sA_setI, sA_setR, sA_setQ, fa_lt, fa_le, fa_eq, Int32.reduceToInt] at *); omega)).symm, by (simp only [setG_0, setG_1, setG_2]); (try rfl)⟩ | exact ⟨(b2i_t (by (try simp only [b2i_eq0, b2i_ne0, decide_eq_true_eq] at *); (try simp only [cI, sI_setA, sI_setQ, sI_setR, sA_setI, sA_setR, sA_setQ, fa_lt, fa_le, fa_eq, Int32.reduceToInt] at *); omega)).symm, rfl⟩ | exact ⟨(b2i_f (by (try simp only [b2i_eq0, b2i_ne0, decide_eq_true_eq] at *); (try simp only [cI, sI_setA, sI_setQ, sI_setR, sA_setI, sA_setR, sA_setQ, fa_lt, fa_le, fa_eq, Int32.reduceToInt] at *); omega)).symm, rfl⟩) | (rw [if_neg (by (try simp only [b2i_eq0, b2i_ne0, decide_eq_true_eq] at *); (try simp only [cI, sI_setA, sI_setQ, sI_setR, sA_setI, sA_setR, sA_setQ, fa_lt, fa_le, fa_eq, Int32.reduceToInt] at *); omega), if_pos (by (try simp only [b2i_eq0, b2i_ne0, decide_eq_true_eq] at *); (try simp only [cI, sI_setA, sI_setQ, sI_setR, sA_setI, sA_setR, sA_setQ, fa_lt, fa_le, fa_eq, Int32.reduceToInt] at *); omega)]; first | exact ⟨(b2i_t (by (try simp only [b2i_eq0, b2i_ne0, decide_eq_true_eq] at *); (try simp only [cI, sI_setA, sI_setQ, sI_setR, sA_setI, sA_setR, sA_setQ, fa_lt, fa_le, fa_eq, Int32.reduceToInt] at *); omega)).symm, by (simp only [setG_0, setG_1, setG_2]); (try rfl)⟩ | exact ⟨(b2i_f (by (try simp only [b2i_eq0, b2i_ne0, decide_eq_true_eq] at *); (try simp only [cI, sI_setA, sI_setQ, sI_setR, sA_setI, sA_setR, sA_setQ, fa_lt, fa_le, fa_eq, Int32.reduceToInt] at *); omega)).symm, by (simp only [setG_0, setG_1, setG_2]); (try rfl)⟩ | exact ⟨(b2i_t (by (try simp only [b2i_eq0, b2i_ne0, decide_eq_true_eq] at *); (try simp only [cI, sI_setA, sI_setQ, sI_setR, sA_setI, sA_setR, sA_setQ, fa_lt, fa_le, fa_eq, Int32.reduceToInt] at *); omega)).symm, rfl⟩ | exact ⟨(b2i_f (by (try simp only [b2i_eq0, b2i_ne0, decide_eq_true_eq] at *); (try simp only [cI, sI_setA, sI_setQ, sI_setR, sA_setI, sA_setR, sA_setQ, fa_lt, fa_le, fa_eq, Int32.reduceToInt] at *); omega)).symm, rfl⟩) | (rw [if_neg (by (try simp only [b2i_eq0, b2i_ne0, decide_eq_true_eq] at *); (try simp only [cI, sI_setA, sI_setQ, sI_setR, sA_setI, sA_setR, sA_setQ, fa_lt, fa_le, fa_eq, Int32.reduceToInt] at *); omega), if_neg (by (try simp only [b2i_eq0, b2i_ne0, decide_eq_true_eq] at *); (try simp only [cI, sI_setA, sI_setQ, sI_setR, sA_setI, sA_setR, sA_setQ, fa_lt, fa_le, fa_eq, Int32.reduceToInt] at *); omega)]; first | exact ⟨(b2i_t (by (try simp only [b2i_eq0, b2i_ne0, decide_eq_true_eq] at *); (try simp only [cI, sI_setA, sI_setQ, sI_setR, sA_setI, sA_setR, sA_setQ, fa_lt, fa_le, fa_eq, Int32.reduceToInt] at *); omega)).symm, by (simp only [setG_0, setG_1, setG_2]); (try rfl)⟩ | exact ⟨(b2i_f (by (try simp only [b2i_eq0, b2i_ne0, decide_eq_true_eq] at *); (try simp only [cI, sI_setA, sI_setQ, sI_setR, sA_setI, sA_setR, sA_setQ, fa_lt, fa_le, fa_eq, Int32.reduceToInt] at *); omega)).symm, by (simp only [setG_0, setG_1, setG_2]); (try rfl)⟩ | exact ⟨(b2i_t (by (try simp only [b2i_eq0, b2i_ne0, decide_eq_true_eq] at *); (try simp only [cI, sI_setA, sI_setQ, sI_setR, sA_setI, sA_setR, sA_setQ, fa_lt, fa_le, fa_eq, Int32.reduceToInt] at *); omega)).symm, rfl⟩ | exact ⟨(b2i_f (by (try simp only [b2i_eq0, b2i_ne0, decide_eq_true_eq] at *); (try simp only [cI, sI_setA, sI_setQ, sI_setR, sA_setI, sA_setR, sA_setQ, fa_lt, fa_le, fa_eq, Int32.reduceToInt] at *); omega)).symm, rfl⟩)⟩
set_option maxHeartbeats 4000000 in
theorem c_X1_takes {l : Launch} {G : va_G} {cy : Nat → ClassId} (n : Int32) (g : GT) (S : HS) : Cn l G cy yX1_takes cX1_takes 2 (some .boolean) 2 [.ref 15, .int n] (setG S g) 0 0 (qI (fun r S2 => r = (tTakes n g).1 ∧ S2 = setG S (tTakes n g).2)) := by
  refine Cn.of [some (.ref 15), some (.int n)] (by decide) rfl (Nat.le_of_ble_eq_true rfl) ?_
  refine r_iload_n dX1_takes_0 rfl rfl ?_
  refine r_bipush (v := 32) dX1_takes_1 (by decide) ?_
  refine r_icmp_ne 13 dX1_takes_3 (by decide) (fun q3 => ?_) (fun q3 => ?_)
  · skip
    refine r_aload_n dX1_takes_13 rfl rfl ?_
    refine r_getI dX1_takes_14 lf_X1_11 rfl rfl ?_
    change R l G cy yX1_takes cX1_takes 2 (some .boolean) 2 0 0 _ 17 _ [.int g.1] _ 0 0
    by_cases e17_0 : (g.1).toInt = 0
    · refine r_tableIn 44 dX1_takes_17 (by rw [e17_0]; decide) (by rw [e17_0]; decide) (by rw [e17_0]; rfl) (by decide) ?_
      refine r_aload_n dX1_takes_44 rfl rfl ?_
      refine r_iload_n dX1_takes_45 rfl rfl ?_
      refine r_invV1i dX1_takes_46 lm_X1_34 rfl (c_X1_takesUnit _ _ _) (Nat.le_of_ble_eq_true rfl) (Nat.le_of_ble_eq_true rfl) (Nat.zero_le _) (Nat.zero_le _) (fun r46 S46 hq46 => ?_)
      obtain ⟨rfl, hz46⟩ := hq46
      replace hz46 := hz46.symm
      subst hz46
      exact r_zret dX1_takes_49 rfl (nar01 (tUnit_01 _ _)) (Nat.zero_le _) (Nat.zero_le _) ⟨_, rfl, ⟨by unfold tTakes; rw [if_neg (by (try simp only [b2i_eq0, b2i_ne0, decide_eq_true_eq] at *); (try simp only [cI, sI_setA, sI_setQ, sI_setR, sA_setI, sA_setR, sA_setQ, fa_lt, fa_le, fa_eq, Int32.reduceToInt] at *); omega), if_pos (by (try simp only [b2i_eq0, b2i_ne0, decide_eq_true_eq] at *); (try simp only [cI, sI_setA, sI_setQ, sI_setR, sA_setI, sA_setR, sA_setQ, fa_lt, fa_le, fa_eq, Int32.reduceToInt] at *); omega)], by unfold tTakes; rw [if_neg (by (try simp only [b2i_eq0, b2i_ne0, decide_eq_true_eq] at *); (try simp only [cI, sI_setA, sI_setQ, sI_setR, sA_setI, sA_setR, sA_setQ, fa_lt, fa_le, fa_eq, Int32.reduceToInt] at *); omega), if_pos (by (try simp only [b2i_eq0, b2i_ne0, decide_eq_true_eq] at *); (try simp only [cI, sI_setA, sI_setQ, sI_setR, sA_setI, sA_setR, sA_setQ, fa_lt, fa_le, fa_eq, Int32.reduceToInt] at *); omega)]⟩⟩
    by_cases e17_1 : (g.1).toInt = 1
    · refine r_tableIn 50 dX1_takes_17 (by rw [e17_1]; decide) (by rw [e17_1]; decide) (by rw [e17_1]; rfl) (by decide) ?_
      refine r_aload_n dX1_takes_50 rfl rfl ?_
      refine r_iload_n dX1_takes_51 rfl rfl ?_
      refine r_invV1i dX1_takes_52 lm_X1_37 rfl (c_X1_takesSign _ _ _) (Nat.le_of_ble_eq_true rfl) (Nat.le_of_ble_eq_true rfl) (Nat.zero_le _) (Nat.zero_le _) (fun r52 S52 hq52 => ?_)
      obtain ⟨rfl, hz52⟩ := hq52
      replace hz52 := hz52.symm
      subst hz52
      exact r_zret dX1_takes_55 rfl (nar01 (tSign_01 _ _)) (Nat.zero_le _) (Nat.zero_le _) ⟨_, rfl, ⟨by unfold tTakes; rw [if_neg (by (try simp only [b2i_eq0, b2i_ne0, decide_eq_true_eq] at *); (try simp only [cI, sI_setA, sI_setQ, sI_setR, sA_setI, sA_setR, sA_setQ, fa_lt, fa_le, fa_eq, Int32.reduceToInt] at *); omega), if_neg (by (try simp only [b2i_eq0, b2i_ne0, decide_eq_true_eq] at *); (try simp only [cI, sI_setA, sI_setQ, sI_setR, sA_setI, sA_setR, sA_setQ, fa_lt, fa_le, fa_eq, Int32.reduceToInt] at *); omega), if_pos (by (try simp only [b2i_eq0, b2i_ne0, decide_eq_true_eq] at *); (try simp only [cI, sI_setA, sI_setQ, sI_setR, sA_setI, sA_setR, sA_setQ, fa_lt, fa_le, fa_eq, Int32.reduceToInt] at *); omega)], by unfold tTakes; rw [if_neg (by (try simp only [b2i_eq0, b2i_ne0, decide_eq_true_eq] at *); (try simp only [cI, sI_setA, sI_setQ, sI_setR, sA_setI, sA_setR, sA_setQ, fa_lt, fa_le, fa_eq, Int32.reduceToInt] at *); omega), if_neg (by (try simp only [b2i_eq0, b2i_ne0, decide_eq_true_eq] at *); (try simp only [cI, sI_setA, sI_setQ, sI_setR, sA_setI, sA_setR, sA_setQ, fa_lt, fa_le, fa_eq, Int32.reduceToInt] at *); omega), if_pos (by (try simp only [b2i_eq0, b2i_ne0, decide_eq_true_eq] at *); (try simp only [cI, sI_setA, sI_setQ, sI_setR, sA_setI, sA_setR, sA_setQ, fa_lt, fa_le, fa_eq, Int32.reduceToInt] at *); omega)]⟩⟩
    by_cases e17_2 : (g.1).toInt = 2
    · refine r_tableIn 56 dX1_takes_17 (by rw [e17_2]; decide) (by rw [e17_2]; decide) (by rw [e17_2]; rfl) (by decide) ?_
      refine r_aload_n dX1_takes_56 rfl rfl ?_
      refine r_iload_n dX1_takes_57 rfl rfl ?_
      refine r_invV1i dX1_takes_58 lm_X1_40 rfl (c_X1_takesFirstDigit _ _ _) (Nat.le_of_ble_eq_true rfl) (Nat.le_of_ble_eq_true rfl) (Nat.zero_le _) (Nat.zero_le _) (fun r58 S58 hq58 => ?_)
      obtain ⟨rfl, hz58⟩ := hq58
      replace hz58 := hz58.symm
      subst hz58
      exact r_zret dX1_takes_61 rfl (nar01 (tFirst_01 _ _)) (Nat.zero_le _) (Nat.zero_le _) ⟨_, rfl, ⟨by unfold tTakes; rw [if_neg (by (try simp only [b2i_eq0, b2i_ne0, decide_eq_true_eq] at *); (try simp only [cI, sI_setA, sI_setQ, sI_setR, sA_setI, sA_setR, sA_setQ, fa_lt, fa_le, fa_eq, Int32.reduceToInt] at *); omega), if_neg (by (try simp only [b2i_eq0, b2i_ne0, decide_eq_true_eq] at *); (try simp only [cI, sI_setA, sI_setQ, sI_setR, sA_setI, sA_setR, sA_setQ, fa_lt, fa_le, fa_eq, Int32.reduceToInt] at *); omega), if_neg (by (try simp only [b2i_eq0, b2i_ne0, decide_eq_true_eq] at *); (try simp only [cI, sI_setA, sI_setQ, sI_setR, sA_setI, sA_setR, sA_setQ, fa_lt, fa_le, fa_eq, Int32.reduceToInt] at *); omega), if_pos (by (try simp only [b2i_eq0, b2i_ne0, decide_eq_true_eq] at *); (try simp only [cI, sI_setA, sI_setQ, sI_setR, sA_setI, sA_setR, sA_setQ, fa_lt, fa_le, fa_eq, Int32.reduceToInt] at *); omega)], by unfold tTakes; rw [if_neg (by (try simp only [b2i_eq0, b2i_ne0, decide_eq_true_eq] at *); (try simp only [cI, sI_setA, sI_setQ, sI_setR, sA_setI, sA_setR, sA_setQ, fa_lt, fa_le, fa_eq, Int32.reduceToInt] at *); omega), if_neg (by (try simp only [b2i_eq0, b2i_ne0, decide_eq_true_eq] at *); (try simp only [cI, sI_setA, sI_setQ, sI_setR, sA_setI, sA_setR, sA_setQ, fa_lt, fa_le, fa_eq, Int32.reduceToInt] at *); omega), if_neg (by (try simp only [b2i_eq0, b2i_ne0, decide_eq_true_eq] at *); (try simp only [cI, sI_setA, sI_setQ, sI_setR, sA_setI, sA_setR, sA_setQ, fa_lt, fa_le, fa_eq, Int32.reduceToInt] at *); omega), if_pos (by (try simp only [b2i_eq0, b2i_ne0, decide_eq_true_eq] at *); (try simp only [cI, sI_setA, sI_setQ, sI_setR, sA_setI, sA_setR, sA_setQ, fa_lt, fa_le, fa_eq, Int32.reduceToInt] at *); omega)]⟩⟩
    refine r_tableOut 62 dX1_takes_17 (by omega) (by decide) ?_
    refine r_aload_n dX1_takes_62 rfl rfl ?_
    refine r_iload_n dX1_takes_63 rfl rfl ?_
    refine r_invV1i dX1_takes_64 lm_X1_43 rfl (c_X1_takesBehindUnit _ _ _) (Nat.le_of_ble_eq_true rfl) (Nat.le_of_ble_eq_true rfl) (Nat.zero_le _) (Nat.zero_le _) (fun r64 S64 hq64 => ?_)
    obtain ⟨rfl, hz64⟩ := hq64
    replace hz64 := hz64.symm
    subst hz64
    exact r_zret dX1_takes_67 rfl (nar01 (tBehind_01 _ _)) (Nat.zero_le _) (Nat.zero_le _) ⟨_, rfl, ⟨by unfold tTakes; rw [if_neg (by (try simp only [b2i_eq0, b2i_ne0, decide_eq_true_eq] at *); (try simp only [cI, sI_setA, sI_setQ, sI_setR, sA_setI, sA_setR, sA_setQ, fa_lt, fa_le, fa_eq, Int32.reduceToInt] at *); omega), if_neg (by (try simp only [b2i_eq0, b2i_ne0, decide_eq_true_eq] at *); (try simp only [cI, sI_setA, sI_setQ, sI_setR, sA_setI, sA_setR, sA_setQ, fa_lt, fa_le, fa_eq, Int32.reduceToInt] at *); omega), if_neg (by (try simp only [b2i_eq0, b2i_ne0, decide_eq_true_eq] at *); (try simp only [cI, sI_setA, sI_setQ, sI_setR, sA_setI, sA_setR, sA_setQ, fa_lt, fa_le, fa_eq, Int32.reduceToInt] at *); omega), if_neg (by (try simp only [b2i_eq0, b2i_ne0, decide_eq_true_eq] at *); (try simp only [cI, sI_setA, sI_setQ, sI_setR, sA_setI, sA_setR, sA_setQ, fa_lt, fa_le, fa_eq, Int32.reduceToInt] at *); omega)], by unfold tTakes; rw [if_neg (by (try simp only [b2i_eq0, b2i_ne0, decide_eq_true_eq] at *); (try simp only [cI, sI_setA, sI_setQ, sI_setR, sA_setI, sA_setR, sA_setQ, fa_lt, fa_le, fa_eq, Int32.reduceToInt] at *); omega), if_neg (by (try simp only [b2i_eq0, b2i_ne0, decide_eq_true_eq] at *); (try simp only [cI, sI_setA, sI_setQ, sI_setR, sA_setI, sA_setR, sA_setQ, fa_lt, fa_le, fa_eq, Int32.reduceToInt] at *); omega), if_neg (by (try simp only [b2i_eq0, b2i_ne0, decide_eq_true_eq] at *); (try simp only [cI, sI_setA, sI_setQ, sI_setR, sA_setI, sA_setR, sA_setQ, fa_lt, fa_le, fa_eq, Int32.reduceToInt] at *); omega), if_neg (by (try simp only [b2i_eq0, b2i_ne0, decide_eq_true_eq] at *); (try simp only [cI, sI_setA, sI_setQ, sI_setR, sA_setI, sA_setR, sA_setQ, fa_lt, fa_le, fa_eq, Int32.reduceToInt] at *); omega)]⟩⟩
  · skip
    refine r_aload_n dX1_takes_6 rfl rfl ?_
    refine r_iconst (v := 0) dX1_takes_7 (by decide) ?_
    refine r_putI dX1_takes_8 (lp_X1_18 _) rfl rfl ?_
    refine r_iconst (v := 1) dX1_takes_11 (by decide) ?_
    exact r_zret dX1_takes_12 rfl rfl (Nat.zero_le _) (Nat.zero_le _) ⟨_, rfl, ⟨by unfold tTakes; rw [if_pos (by (try simp only [b2i_eq0, b2i_ne0, decide_eq_true_eq] at *); (try simp only [cI, sI_setA, sI_setQ, sI_setR, sA_setI, sA_setR, sA_setQ, fa_lt, fa_le, fa_eq, Int32.reduceToInt] at *); omega)], by unfold tTakes; rw [if_pos (by (try simp only [b2i_eq0, b2i_ne0, decide_eq_true_eq] at *); (try simp only [cI, sI_setA, sI_setQ, sI_setR, sA_setI, sA_setR, sA_setQ, fa_lt, fa_le, fa_eq, Int32.reduceToInt] at *); omega)]; exact setG_2 _ _ _⟩⟩
set_option maxHeartbeats 4000000 in
theorem c_X5_byteAt {l : Launch} {G : va_G} {cy : Nat → ClassId} (o ob : Nat) (i : Int32) (S : HS) (hk : tk o = 5) (hr : sR S (fid 5 0) o = some ob) (hl : ob ∈ sL S) (hkb : tk ob = 10) (hnb : tn ob = 200) : Cn l G cy yX5_byteAt cX5_byteAt 2 (some .int) 0 [.ref o, .int i] S 0 0 (qI (fun r S2 => (r = if 0 ≤ i.toInt ∧ i.toInt < 200 then sA S ob i.toNatClampNeg else 0) ∧ S2 = S)) := by
  refine Cn.of [some (.ref o), some (.int i)] (by decide) rfl (Nat.le_of_ble_eq_true rfl) ?_
  refine r_iload_n dX5_byteAt_0 rfl rfl ?_
  refine r_if_lt 20 dX5_byteAt_1 (by decide) (fun q1 => ?_) (fun q1 => ?_)
  · skip
    refine r_iconst (v := 0) dX5_byteAt_20 (by decide) ?_
    exact r_iret dX5_byteAt_21 rfl (Nat.zero_le _) (Nat.zero_le _) ⟨_, rfl, by first | exact ⟨(if_pos (by (try simp only [b2i_eq0, b2i_ne0, decide_eq_true_eq] at *); (try simp only [cI, sI_setA, sI_setQ, sI_setR, sA_setI, sA_setR, sA_setQ, fa_lt, fa_le, fa_eq, Int32.reduceToInt] at *); omega)).symm, rfl⟩ | exact ⟨(if_neg (by (try simp only [b2i_eq0, b2i_ne0, decide_eq_true_eq] at *); (try simp only [cI, sI_setA, sI_setQ, sI_setR, sA_setI, sA_setR, sA_setQ, fa_lt, fa_le, fa_eq, Int32.reduceToInt] at *); omega)).symm, rfl⟩⟩
  · skip
    refine r_iload_n dX5_byteAt_4 rfl rfl ?_
    refine r_sipush (v := 200) dX5_byteAt_5 (by decide) ?_
    refine r_icmp_ge 20 dX5_byteAt_8 (by decide) (fun q8 => ?_) (fun q8 => ?_)
    · skip
      refine r_iconst (v := 0) dX5_byteAt_20 (by decide) ?_
      exact r_iret dX5_byteAt_21 rfl (Nat.zero_le _) (Nat.zero_le _) ⟨_, rfl, by first | exact ⟨(if_pos (by (try simp only [b2i_eq0, b2i_ne0, decide_eq_true_eq] at *); (try simp only [cI, sI_setA, sI_setQ, sI_setR, sA_setI, sA_setR, sA_setQ, fa_lt, fa_le, fa_eq, Int32.reduceToInt] at *); omega)).symm, rfl⟩ | exact ⟨(if_neg (by (try simp only [b2i_eq0, b2i_ne0, decide_eq_true_eq] at *); (try simp only [cI, sI_setA, sI_setQ, sI_setR, sA_setI, sA_setR, sA_setQ, fa_lt, fa_le, fa_eq, Int32.reduceToInt] at *); omega)).symm, rfl⟩⟩
    · skip
      refine r_aload_n dX5_byteAt_11 rfl rfl ?_
      refine r_getR dX5_byteAt_12 lf_X5_9 rfl hk hr hl ?_
      refine r_iload_n dX5_byteAt_15 rfl rfl ?_
      refine r_iald dX5_byteAt_16 hkb (vq_cast hnb (vp_in_iff.mpr (by (try simp only [b2i_eq0, b2i_ne0, decide_eq_true_eq] at *); (try simp only [cI, sI_setA, sI_setQ, sI_setR, sA_setI, sA_setR, sA_setQ, fa_lt, fa_le, fa_eq, Int32.reduceToInt] at *); omega))) ?_
      refine r_goto 21 dX5_byteAt_17 (by decide) ?_
      exact r_iret dX5_byteAt_21 rfl (Nat.zero_le _) (Nat.zero_le _) ⟨_, rfl, by first | exact ⟨(if_pos (by (try simp only [b2i_eq0, b2i_ne0, decide_eq_true_eq] at *); (try simp only [cI, sI_setA, sI_setQ, sI_setR, sA_setI, sA_setR, sA_setQ, fa_lt, fa_le, fa_eq, Int32.reduceToInt] at *); omega)).symm, rfl⟩ | exact ⟨(if_neg (by (try simp only [b2i_eq0, b2i_ne0, decide_eq_true_eq] at *); (try simp only [cI, sI_setA, sI_setQ, sI_setR, sA_setI, sA_setR, sA_setQ, fa_lt, fa_le, fa_eq, Int32.reduceToInt] at *); omega)).symm, rfl⟩⟩
set_option maxHeartbeats 4000000 in
theorem c_X5_bytesIn {l : Launch} {G : va_G} {cy : Nat → ClassId} (w : Int32) (S : HS) : Cn l G cy yX5_bytesIn cX5_bytesIn 3 (some .int) 0 [.int w] S 0 0 (qI (fun r S2 => r = cnt4 w 4 ∧ S2 = S)) := by
  refine Cn.of [some (.int w), none, none] (by decide) rfl (Nat.le_of_ble_eq_true rfl) ?_
  refine r_iconst (v := 0) dX5_bytesIn_0 (by decide) ?_
  refine r_ist1 dX5_bytesIn_1 (Nat.le_of_ble_eq_true rfl) rfl ?_
  refine r_bipush (v := 24) dX5_bytesIn_2 (by decide) ?_
  refine r_ist2 dX5_bytesIn_4 (Nat.le_of_ble_eq_true rfl) rfl ?_
  refine R.for (α := Unit) (4) (fun i a => [some (.int w), some (.int (cnt4 w i)), some (.int (shf i))]) (fun i a => S) (fun i a => True) ?_ ?_ 0 () (Nat.zero_le _) trivial
  · intro a hI
    refine r_iload_n dX5_bytesIn_5 rfl rfl ?_
    refine r_if_lt 28 dX5_bytesIn_6 (by decide) (fun q6 => ?_) (fun q6 => ?_)
    · skip
      refine r_iload_n dX5_bytesIn_28 rfl rfl ?_
      exact r_iret dX5_bytesIn_29 rfl (Nat.zero_le _) (Nat.zero_le _) ⟨_, rfl, ⟨rfl, rfl⟩⟩
    · skip
      exact absurd (show shf 4 < 0 by decide) q6
  · intro i a hi hI ih
    refine r_iload_n dX5_bytesIn_5 rfl rfl ?_
    refine r_if_lt 28 dX5_bytesIn_6 (by decide) (fun q6 => ?_) (fun q6 => ?_)
    · skip
      exact absurd q6 (shf_n hi)
    · skip
      refine r_iload_n dX5_bytesIn_9 rfl rfl ?_
      refine r_iload_n dX5_bytesIn_10 rfl rfl ?_
      refine r_iushr dX5_bytesIn_11 ?_
      refine r_sipush (v := 255) dX5_bytesIn_12 (by decide) ?_
      refine r_iand dX5_bytesIn_15 ?_
      refine r_if_eq 22 dX5_bytesIn_16 (by decide) (fun q16 => ?_) (fun q16 => ?_)
      · skip
        refine r_in2 dX5_bytesIn_22 (show _ + Int32.ofInt (-8) = _ + (-8) from rfl) (Nat.le_of_ble_eq_true rfl) rfl ?_
        refine r_goto 5 dX5_bytesIn_25 (by decide) ?_
        rw [shf_s hi]
        first
          | (have h9 := ih () trivial; rw [cnt4_t (w := w) (i := i) q16] at h9; exact h9)
          | (have h9 := ih () trivial; rw [cnt4_f (w := w) (i := i) q16] at h9; exact h9)
      · skip
        refine r_in1 dX5_bytesIn_19 (show _ + Int32.ofInt 1 = _ + 1 from rfl) (Nat.le_of_ble_eq_true rfl) rfl ?_
        refine r_in2 dX5_bytesIn_22 (show _ + Int32.ofInt (-8) = _ + (-8) from rfl) (Nat.le_of_ble_eq_true rfl) rfl ?_
        refine r_goto 5 dX5_bytesIn_25 (by decide) ?_
        rw [shf_s hi]
        first
          | (have h9 := ih () trivial; rw [cnt4_t (w := w) (i := i) q16] at h9; exact h9)
          | (have h9 := ih () trivial; rw [cnt4_f (w := w) (i := i) q16] at h9; exact h9)
set_option maxHeartbeats 4000000 in
theorem c_X5_addWord {l : Launch} {G : va_G} {cy : Nat → ClassId} (o ob : Nat) (w : Int32) (S : HS) (hk : tk o = 5) (hr : sR S (fid 5 0) o = some ob) (hl : ob ∈ sL S) (hkb : tk ob = 10) (hnb : tn ob = 200) (hb : 0 ≤ (sI S (fid 5 1) o).toInt ∧ (sI S (fid 5 1) o).toInt ≤ 200) : Cn l G cy yX5_addWord cX5_addWord 4 none 0 [.ref o, .int w] S 0 0 (qV (fun S2 => S2 = setT S o ob (awF w (sA S ob, sI S (fid 5 1) o) 4))) := by
  refine Cn.of [some (.ref o), some (.int w), none, none] (by decide) rfl (Nat.le_of_ble_eq_true rfl) ?_
  rw [show (R l G cy yX5_addWord cX5_addWord 4 none 0 0 0 (qV (fun S2 => S2 = setT S o ob (awF w (sA S ob, sI S (fid 5 1) o) 4))) 0 [some (.ref o), some (.int w), none, none] [] S 0 0) = (R l G cy yX5_addWord cX5_addWord 4 none 0 0 0 (qV (fun S2 => S2 = setT S o ob (awF w (sA S ob, sI S (fid 5 1) o) 4))) 0 [some (.ref o), some (.int w), none, none] [] (setT S o ob (awF w (sA S ob, sI S (fid 5 1) o) 0)) 0 0) from by rw [show setT S o ob (awF w (sA S ob, sI S (fid 5 1) o) 0) = S from setT_self S o ob]]
  refine r_bipush (v := 24) dX5_addWord_0 (by decide) ?_
  refine r_ist2 dX5_addWord_2 (Nat.le_of_ble_eq_true rfl) rfl ?_
  refine R.for (α := Option Value) (4) (fun i a => [some (.ref o), some (.int w), some (.int (shf i)), a]) (fun i a => (setT S o ob (awF w (sA S ob, sI S (fid 5 1) o) i))) (fun i a => True) ?_ ?_ 0 none (Nat.zero_le _) trivial
  · intro a hI
    refine r_iload_n dX5_addWord_3 rfl rfl ?_
    refine r_if_lt 55 dX5_addWord_4 (by decide) (fun q4 => ?_) (fun q4 => ?_)
    · skip
      exact r_vret dX5_addWord_55 rfl (Nat.zero_le _) (Nat.zero_le _) ⟨rfl, rfl⟩
    · skip
      exact absurd (show shf 4 < 0 by decide) q4
  · intro i a hi hI ih
    have hlen := awF_len (w := w) (s := (sA S ob, sI S (fid 5 1) o)) hb i
    have hrd : sI (setT S o ob (awF w (sA S ob, sI S (fid 5 1) o) i)) (fid 5 1) o = (awF w (sA S ob, sI S (fid 5 1) o) i).2 := by simp [setT, sI_setI, up2]
    have hra : sA (setT S o ob (awF w (sA S ob, sI S (fid 5 1) o) i)) ob = (awF w (sA S ob, sI S (fid 5 1) o) i).1 := by simp [setT, sA_setI, sA_setA, va_up]
    have hrd2 : ∀ r, sI (setA (setT S o ob (awF w (sA S ob, sI S (fid 5 1) o) i)) ob r) (fid 5 1) o = (awF w (sA S ob, sI S (fid 5 1) o) i).2 := fun r => hrd
    refine r_iload_n dX5_addWord_3 rfl rfl ?_
    refine r_if_lt 55 dX5_addWord_4 (by decide) (fun q4 => ?_) (fun q4 => ?_)
    · skip
      exact absurd q4 (shf_n hi)
    · skip
      refine r_iload_n dX5_addWord_7 rfl rfl ?_
      refine r_iload_n dX5_addWord_8 rfl rfl ?_
      refine r_iushr dX5_addWord_9 ?_
      refine r_sipush (v := 255) dX5_addWord_10 (by decide) ?_
      refine r_iand dX5_addWord_13 ?_
      refine r_ist3 dX5_addWord_14 (Nat.le_of_ble_eq_true rfl) rfl ?_
      refine r_iload_n dX5_addWord_15 rfl rfl ?_
      refine r_if_eq 49 dX5_addWord_16 (by decide) (fun q16 => ?_) (fun q16 => ?_)
      · skip
        refine r_in2 dX5_addWord_49 (show _ + Int32.ofInt (-8) = _ + (-8) from rfl) (Nat.le_of_ble_eq_true rfl) rfl ?_
        refine r_goto 3 dX5_addWord_52 (by decide) ?_
        rw [shf_s hi]
        first
          | (have h9 := ih (some (.int (by4 w i))) trivial; rw [awF_f (w := w) (s := (sA S ob, sI S (fid 5 1) o)) (i := i) (fun q => q.1 q16)] at h9; exact h9)
          | (rw [hrd] at q26; have h9 := ih (some (.int (by4 w i))) trivial; rw [awF_f (w := w) (s := (sA S ob, sI S (fid 5 1) o)) (i := i) (fun q => by have q2 := q.2; simp only [fa_le, Int32.reduceToInt] at q26; omega)] at h9; exact h9)
          | (rw [hrd] at q26; have h9 := ih (some (.int (by4 w i))) trivial; rw [awF_t (w := w) (s := (sA S ob, sI S (fid 5 1) o)) (i := i) ⟨q16, by simp only [fa_le, Int32.reduceToInt] at q26; omega⟩] at h9; rw [hrd, hra, hrd2, setT_step]; exact h9)
      · skip
        refine r_aload_n dX5_addWord_19 rfl rfl ?_
        refine r_getI dX5_addWord_20 lf_X5_15 rfl hk ?_
        refine r_sipush (v := 200) dX5_addWord_23 (by decide) ?_
        refine r_icmp_ge 49 dX5_addWord_26 (by decide) (fun q26 => ?_) (fun q26 => ?_)
        · skip
          refine r_in2 dX5_addWord_49 (show _ + Int32.ofInt (-8) = _ + (-8) from rfl) (Nat.le_of_ble_eq_true rfl) rfl ?_
          refine r_goto 3 dX5_addWord_52 (by decide) ?_
          rw [shf_s hi]
          first
            | (have h9 := ih (some (.int (by4 w i))) trivial; rw [awF_f (w := w) (s := (sA S ob, sI S (fid 5 1) o)) (i := i) (fun q => q.1 q16)] at h9; exact h9)
            | (rw [hrd] at q26; have h9 := ih (some (.int (by4 w i))) trivial; rw [awF_f (w := w) (s := (sA S ob, sI S (fid 5 1) o)) (i := i) (fun q => by have q2 := q.2; simp only [fa_le, Int32.reduceToInt] at q26; omega)] at h9; exact h9)
            | (rw [hrd] at q26; have h9 := ih (some (.int (by4 w i))) trivial; rw [awF_t (w := w) (s := (sA S ob, sI S (fid 5 1) o)) (i := i) ⟨q16, by simp only [fa_le, Int32.reduceToInt] at q26; omega⟩] at h9; rw [hrd, hra, hrd2, setT_step]; exact h9)
        · skip
          refine r_aload_n dX5_addWord_29 rfl rfl ?_
          refine r_getR dX5_addWord_30 lf_X5_9 rfl hk hr hl ?_
          refine r_aload_n dX5_addWord_33 rfl rfl ?_
          refine r_getI dX5_addWord_34 lf_X5_15 rfl hk ?_
          refine r_iload_n dX5_addWord_37 rfl rfl ?_
          refine r_iast dX5_addWord_38 hkb (vq_cast hnb (vp_in_iff.mpr (by rw [hrd] at *; simp only [fa_le, Int32.reduceToInt] at q26; omega))) ?_
          refine r_aload_n dX5_addWord_39 rfl rfl ?_
          refine r_dup dX5_addWord_40 rfl ?_
          refine r_getI dX5_addWord_41 lf_X5_15 rfl hk ?_
          refine r_iconst (v := 1) dX5_addWord_44 (by decide) ?_
          refine r_iadd dX5_addWord_45 ?_
          refine r_putI dX5_addWord_46 (lp_X5_15 _) rfl hk ?_
          refine r_in2 dX5_addWord_49 (show _ + Int32.ofInt (-8) = _ + (-8) from rfl) (Nat.le_of_ble_eq_true rfl) rfl ?_
          refine r_goto 3 dX5_addWord_52 (by decide) ?_
          rw [shf_s hi]
          first
            | (have h9 := ih (some (.int (by4 w i))) trivial; rw [awF_f (w := w) (s := (sA S ob, sI S (fid 5 1) o)) (i := i) (fun q => q.1 q16)] at h9; exact h9)
            | (rw [hrd] at q26; have h9 := ih (some (.int (by4 w i))) trivial; rw [awF_f (w := w) (s := (sA S ob, sI S (fid 5 1) o)) (i := i) (fun q => by have q2 := q.2; simp only [fa_le, Int32.reduceToInt] at q26; omega)] at h9; exact h9)
            | (rw [hrd] at q26; have h9 := ih (some (.int (by4 w i))) trivial; rw [awF_t (w := w) (s := (sA S ob, sI S (fid 5 1) o)) (i := i) ⟨q16, by simp only [fa_le, Int32.reduceToInt] at q26; omega⟩] at h9; rw [hrd, hra, hrd2, setT_step]; exact h9)
set_option maxHeartbeats 4000000 in
theorem c_X1_faultOf {l : Launch} {G : va_G} {cy : Nat → ClassId} (o ob : Nat) (S : HS) (hk : tk o = 5) (hr : sR S (fid 5 0) o = some ob) (hl : ob ∈ sL S) (hkb : tk ob = 10) (hnb : tn ob = 200) (hb : 0 ≤ (sI S (fid 5 1) o).toInt ∧ (sI S (fid 5 1) o).toInt ≤ 200) : Cn l G cy yX1_faultOf cX1_faultOf 3 (some .int) 3 [.ref 15, .ref o] S 0 0 (qI (fun r S2 => ((∃ j, j < nn (sI S (fid 5 1) o) ∧ (∀ k, k < j → gOk (sA S ob) k) ∧ ¬ gOk (sA S ob) j ∧ r = nI j) ∨ ((∀ k, k < nn (sI S (fid 5 1) o) → gOk (sA S ob) k) ∧ r = if (gRun (sA S ob) (nn (sI S (fid 5 1) o))).1.toInt = 3 ∧ (gRun (sA S ob) (nn (sI S (fid 5 1) o))).2.1.toInt = 0 then -1 else sI S (fid 5 1) o)) ∧ ∃ g : GT, S2 = setG S g)) := by
  refine Cn.of [some (.ref 15), some (.ref o), none] (by decide) rfl (Nat.le_of_ble_eq_true rfl) ?_
  refine r_aload_n dX1_faultOf_0 rfl rfl ?_
  refine r_iconst (v := 0) dX1_faultOf_1 (by decide) ?_
  refine r_putI dX1_faultOf_2 (lp_X1_11 _) rfl rfl ?_
  refine r_aload_n dX1_faultOf_5 rfl rfl ?_
  refine r_iconst (v := 0) dX1_faultOf_6 (by decide) ?_
  refine r_putI dX1_faultOf_7 (lp_X1_15 _) rfl rfl ?_
  refine r_aload_n dX1_faultOf_10 rfl rfl ?_
  refine r_iconst (v := 0) dX1_faultOf_11 (by decide) ?_
  refine r_putI dX1_faultOf_12 (lp_X1_18 _) rfl rfl ?_
  refine r_iconst (v := 0) dX1_faultOf_15 (by decide) ?_
  refine r_ist2 dX1_faultOf_16 (Nat.le_of_ble_eq_true rfl) rfl ?_
  refine R.for (α := Unit) (nn (sI S (fid 5 1) o)) (fun i a => [some (.ref 15), some (.ref o), some (.int (nI i))]) (fun i a => (setG S (gRun (sA S ob) i))) (fun i a => ∀ k, k < i → gOk (sA S ob) k) ?_ ?_ 0 () (Nat.zero_le _) (fun k hk => absurd hk (Nat.not_lt_zero k))
  · intro a hI
    have hnb2 := nn_int hb.1
    have hgl : ∀ x, sI (setG S x) (fid 5 1) o = sI S (fid 5 1) o := fun _ => rfl
    have hii : (nI (nn (sI S (fid 5 1) o))).toInt = ((nn (sI S (fid 5 1) o) : Nat) : Int) := nI_toInt (by omega)
    refine r_iload_n dX1_faultOf_17 rfl rfl ?_
    refine r_aload_n dX1_faultOf_18 rfl rfl ?_
    refine r_getI dX1_faultOf_19 lf_X1_21 rfl hk ?_
    refine r_icmp_ge 45 dX1_faultOf_22 (by decide) (fun q22 => ?_) (fun q22 => ?_)
    · skip
      refine r_aload_n dX1_faultOf_45 rfl rfl ?_
      refine r_getI dX1_faultOf_46 lf_X1_11 rfl rfl ?_
      refine r_iconst (v := 3) dX1_faultOf_49 (by decide) ?_
      change R l G cy yX1_faultOf cX1_faultOf 3 (some .int) 3 0 0 _ 50 _ [.int 3, .int (gRun (sA S ob) (nn (sI S (fid 5 1) o))).1] _ 0 0
      refine r_icmp_ne 64 dX1_faultOf_50 (by decide) (fun q50 => ?_) (fun q50 => ?_)
      · skip
        refine r_aload_n dX1_faultOf_64 rfl rfl ?_
        refine r_getI dX1_faultOf_65 lf_X1_21 rfl hk ?_
        exact r_iret dX1_faultOf_68 rfl (Nat.zero_le _) (Nat.zero_le _) ⟨_, rfl, ⟨Or.inr ⟨hI, by first | exact (if_pos (by (try simp only [b2i_eq0, b2i_ne0, decide_eq_true_eq] at *); (try simp only [cI, sI_setA, sI_setQ, sI_setR, sA_setI, sA_setR, sA_setQ, fa_lt, fa_le, fa_eq, Int32.reduceToInt] at *); omega)).symm | exact (if_neg (by (try simp only [b2i_eq0, b2i_ne0, decide_eq_true_eq] at *); (try simp only [cI, sI_setA, sI_setQ, sI_setR, sA_setI, sA_setR, sA_setQ, fa_lt, fa_le, fa_eq, Int32.reduceToInt] at *); omega)).symm⟩, _, rfl⟩⟩
      · skip
        refine r_aload_n dX1_faultOf_53 rfl rfl ?_
        refine r_getI dX1_faultOf_54 lf_X1_15 rfl rfl ?_
        change R l G cy yX1_faultOf cX1_faultOf 3 (some .int) 3 0 0 _ 57 _ [.int (gRun (sA S ob) (nn (sI S (fid 5 1) o))).2.1] _ 0 0
        refine r_if_ne 64 dX1_faultOf_57 (by decide) (fun q57 => ?_) (fun q57 => ?_)
        · skip
          refine r_aload_n dX1_faultOf_64 rfl rfl ?_
          refine r_getI dX1_faultOf_65 lf_X1_21 rfl hk ?_
          exact r_iret dX1_faultOf_68 rfl (Nat.zero_le _) (Nat.zero_le _) ⟨_, rfl, ⟨Or.inr ⟨hI, by first | exact (if_pos (by (try simp only [b2i_eq0, b2i_ne0, decide_eq_true_eq] at *); (try simp only [cI, sI_setA, sI_setQ, sI_setR, sA_setI, sA_setR, sA_setQ, fa_lt, fa_le, fa_eq, Int32.reduceToInt] at *); omega)).symm | exact (if_neg (by (try simp only [b2i_eq0, b2i_ne0, decide_eq_true_eq] at *); (try simp only [cI, sI_setA, sI_setQ, sI_setR, sA_setI, sA_setR, sA_setQ, fa_lt, fa_le, fa_eq, Int32.reduceToInt] at *); omega)).symm⟩, _, rfl⟩⟩
        · skip
          refine r_iconst (v := (-1)) dX1_faultOf_60 (by decide) ?_
          refine r_goto 68 dX1_faultOf_61 (by decide) ?_
          exact r_iret dX1_faultOf_68 rfl (Nat.zero_le _) (Nat.zero_le _) ⟨_, rfl, ⟨Or.inr ⟨hI, by first | exact (if_pos (by (try simp only [b2i_eq0, b2i_ne0, decide_eq_true_eq] at *); (try simp only [cI, sI_setA, sI_setQ, sI_setR, sA_setI, sA_setR, sA_setQ, fa_lt, fa_le, fa_eq, Int32.reduceToInt] at *); omega)).symm | exact (if_neg (by (try simp only [b2i_eq0, b2i_ne0, decide_eq_true_eq] at *); (try simp only [cI, sI_setA, sI_setQ, sI_setR, sA_setI, sA_setR, sA_setQ, fa_lt, fa_le, fa_eq, Int32.reduceToInt] at *); omega)).symm⟩, _, rfl⟩⟩
    · skip
      rw [hgl] at q22
      exact absurd q22 (by (try simp only [b2i_eq0, b2i_ne0, decide_eq_true_eq] at *); (try simp only [cI, sI_setA, sI_setQ, sI_setR, sA_setI, sA_setR, sA_setQ, fa_lt, fa_le, fa_eq, Int32.reduceToInt] at *); omega)
  · intro i a hi hI ih
    have hnb2 := nn_int hb.1
    have hgl : ∀ x, sI (setG S x) (fid 5 1) o = sI S (fid 5 1) o := fun _ => rfl
    have hii : (nI i).toInt = i := nI_toInt (by omega)
    have hic : (nI i).toNatClampNeg = i := nI_clamp (by omega)
    refine r_iload_n dX1_faultOf_17 rfl rfl ?_
    refine r_aload_n dX1_faultOf_18 rfl rfl ?_
    refine r_getI dX1_faultOf_19 lf_X1_21 rfl hk ?_
    refine r_icmp_ge 45 dX1_faultOf_22 (by decide) (fun q22 => ?_) (fun q22 => ?_)
    · skip
      rw [hgl] at q22
      exact absurd q22 (by (try simp only [b2i_eq0, b2i_ne0, decide_eq_true_eq] at *); (try simp only [cI, sI_setA, sI_setQ, sI_setR, sA_setI, sA_setR, sA_setQ, fa_lt, fa_le, fa_eq, Int32.reduceToInt] at *); omega)
    · skip
      refine r_aload_n dX1_faultOf_25 rfl rfl ?_
      refine r_aload_n dX1_faultOf_26 rfl rfl ?_
      refine r_iload_n dX1_faultOf_27 rfl rfl ?_
      refine r_invV1i dX1_faultOf_28 lm_X1_26 hk (c_X5_byteAt o ob _ _ hk hr hl hkb hnb) (Nat.le_of_ble_eq_true rfl) (Nat.le_of_ble_eq_true rfl) (Nat.zero_le _) (Nat.zero_le _) (fun r28 S28 hq28 => ?_)
      obtain ⟨rfl, hz28⟩ := hq28
      replace hz28 := hz28.symm
      subst hz28
      rw [show (if 0 ≤ (nI i).toInt ∧ (nI i).toInt < 200 then sA (setG S (gRun (sA S ob) i)) ob (nI i).toNatClampNeg else 0) = sA S ob i from by rw [if_pos (by omega), hic]; rfl]
      refine r_invV1i dX1_faultOf_31 lm_X1_30 rfl (c_X1_takes _ _ _) (Nat.le_of_ble_eq_true rfl) (Nat.le_of_ble_eq_true rfl) (Nat.zero_le _) (Nat.zero_le _) (fun r31 S31 hq31 => ?_)
      obtain ⟨rfl, hz31⟩ := hq31
      replace hz31 := hz31.symm
      subst hz31
      refine r_if_ne 39 dX1_faultOf_34 (by decide) (fun q34 => ?_) (fun q34 => ?_)
      · skip
        refine r_in2 dX1_faultOf_39 (show _ + Int32.ofInt 1 = _ + 1 from rfl) (Nat.le_of_ble_eq_true rfl) rfl ?_
        refine r_goto 17 dX1_faultOf_42 (by decide) ?_
        rw [nI_1]
        exact ih () (fun k hk => by
          rcases Nat.lt_succ_iff_lt_or_eq.mp hk with h8 | h8
          · exact hI k h8
          · rw [h8]; exact q34)
      · skip
        refine r_iload_n dX1_faultOf_37 rfl rfl ?_
        exact r_iret dX1_faultOf_38 rfl (Nat.zero_le _) (Nat.zero_le _) ⟨_, rfl, ⟨Or.inl ⟨i, hi, hI, fun q => q q34, rfl⟩, _, rfl⟩⟩
