/-! ===== the reference: all is sold ===== -/
def smY (X : HS) : Int32 := byF (mA X 40) (mA X 12) (nn (mI X 26))
def smC (X : HS) (h : Int32) : Prop := 0 < h.toInt ∧ ¬ smY X = -1 ∧ (mI X 27).toInt < 400
def smN (X : HS) (h : Int32) : Int32 := if mA X 40 (smY X).toNatClampNeg < h then mA X 40 (smY X).toNatClampNeg else h
def smH (b : Nat) (X : HS) (h : Int32) : HS := sellS X (nI b) (smY X) (smN X h)
def smI (b : Nat) (P : HS × Int32) : Nat → HS × Int32
  | 0 => P
  | k + 1 => (smH b (smI b P k).1 (smI b P k).2, (smI b P k).2 - smN (smI b P k).1 (smI b P k).2)
def smB (p : HS × Int32) : Bool := decide (0 < p.2.toInt ∧ ¬ smY p.1 = -1 ∧ (mI p.1 27).toInt < 400)
theorem smB_iff {p : HS × Int32} : smB p = true ↔ smC p.1 p.2 := decide_eq_true_iff
def sold1 (X : HS) (b : Nat) : HS := setA X (ma 41) (upd (mA X 41) b 1)
def smR (b : Nat) (X : HS) : HS × Int32 := runF smB (fun p => (smH b p.1 p.2, p.2 - smN p.1 p.2)) 4 (sold1 X b, mA X 5 b)
def smF (b : Nat) (X : HS) : HS := setI (smR b X).1 (fid 9 34) 2000 (mI (smR b X).1 34 + (smR b X).2)
def smX (X : HS) : Int32 := nbF (mA X 41) (mA X 5) (mA X 3) (nn (mI X 25))
def smL (S : HS) : HS := setA (setA S (ma 40) (fillR (mA S 11) (mA S 40) (nn (mI S 26)))) (ma 41) (fillR (fun _ => 0) (mA S 41) (nn (mI S 25)))
def smA (S : HS) : Nat → HS
  | 0 => smL S
  | i + 1 => smF (nn (smX (smA S i))) (smA S i)
/-- what stays while fish is sold -/
def IX (S X : HS) : Prop := ShM X ∧ mI X 25 = mI S 25 ∧ mI X 26 = mI S 26 ∧ 0 ≤ (mI X 27).toInt ∧ (mI X 27).toInt ≤ 400
theorem sellS_sh {S : HS} (h : ShM S) (b y n : Int32) : ShM (sellS S b y n) := (((((((((h.setA _ _).setA _ _).setA _ _).setA _ _).setA _ _).setA _ _).setA _ _).setA _ _).setA _ _).setI _ _ _
theorem sellS_I {S : HS} {b y n : Int32} {f : Nat} (hf : f ≠ fid 9 27) (a : Nat) : sI (sellS S b y n) f a = sI S f a := by
  unfold sellS
  rw [sI_setIn (Or.inl hf), sI_setA, sI_setA, sI_setA, sI_setA, sI_setA, sI_setA, sI_setA, sI_setA, sI_setA]
theorem sellS_27 {S : HS} {b y n : Int32} : mI (sellS S b y n) 27 = mI S 27 + 1 := sI_setIe _ _ _ _
theorem sellS_40 {S : HS} {b y n : Int32} : sA (sellS S b y n) (ma 40) = upd (mA S 40) y.toNatClampNeg (mA S 40 y.toNatClampNeg - n) := by
  unfold sellS
  rw [sA_setI, sA_setn (by decide), sA_setn (by decide), sA_setn (by decide), sA_setn (by decide), sA_setn (by decide), sA_setn (by decide), sA_setn (by decide), sA_setn (by decide), sA_set]
theorem sellS_A {S : HS} {b y n : Int32} {a : Nat} (h : a ≠ ma 40 ∧ a ≠ ma 6 ∧ a ≠ ma 13 ∧ a ≠ ma 14 ∧ a ≠ ma 15 ∧ a ≠ ma 16 ∧ a ≠ ma 17 ∧ a ≠ ma 20 ∧ a ≠ ma 21) : sA (sellS S b y n) a = sA S a := by
  unfold sellS
  rw [sA_setI, sA_setn h.2.2.2.2.2.2.2.2, sA_setn h.2.2.2.2.2.2.2.1, sA_setn h.2.2.2.2.2.2.1, sA_setn h.2.2.2.2.2.1, sA_setn h.2.2.2.2.1, sA_setn h.2.2.2.1, sA_setn h.2.2.1, sA_setn h.2.1, sA_setn h.1]
theorem IX.sell {S X : HS} {b : Nat} {x : Int32} (h : IX S X) (hc : smC X x) : IX S (smH b X x) := by
  obtain ⟨h1, h2, h3, h4, h5⟩ := h
  have one : (1 : Int32).toInt = 1 := rfl
  have hl := hc.2.2
  have e : (mI X 27 + 1).toInt = (mI X 27).toInt + 1 := by rw [fb_addI (by omega) (by omega)]; rfl
  refine ⟨sellS_sh h1 _ _ _, (sellS_I (by decide) _).trans h2, (sellS_I (by decide) _).trans h3, ?_, ?_⟩
  · rw [show mI (smH b X x) 27 = mI X 27 + 1 from sellS_27]; omega
  · rw [show mI (smH b X x) 27 = mI X 27 + 1 from sellS_27]; omega
theorem IX.setA {S X : HS} (h : IX S X) (t : Nat) (r : Nat → Int32) : IX S (setA X t r) := ⟨h.1.setA _ _, h.2.1, h.2.2.1, h.2.2.2.1, h.2.2.2.2⟩
theorem IX.thr {S X : HS} (h : IX S X) (v : Int32) : IX S (setI X (fid 9 34) 2000 v) := by
  have e : ∀ k, fid 9 k ≠ fid 9 34 → mI (setI X (fid 9 34) 2000 v) k = mI X k := fun k hk => sI_setIn (Or.inl hk)
  exact ⟨h.1.setI _ _ _, (e 25 (by decide)).trans h.2.1, (e 26 (by decide)).trans h.2.2.1, by rw [e 27 (by decide)]; exact h.2.2.2.1, by rw [e 27 (by decide)]; exact h.2.2.2.2⟩
theorem byF_pos {lf bd : Nat → Int32} : ∀ n, byF lf bd n = -1 ∨ ∃ j, j < n ∧ byF lf bd n = nI j ∧ 0 < (lf j).toInt
  | 0 => Or.inl rfl
  | n + 1 => by
    unfold byF
    split
    · rename_i q; exact Or.inr ⟨n, by omega, rfl, q.1⟩
    · rcases byF_pos n with q | ⟨j, h1, h2, h3⟩
      · exact Or.inl q
      · exact Or.inr ⟨j, by omega, h2, h3⟩
theorem smY_pos {X : HS} (hy : 0 ≤ (mI X 26).toInt ∧ (mI X 26).toInt ≤ 4) (h : ¬ smY X = -1) : ∃ j, j < 4 ∧ j < nn (mI X 26) ∧ smY X = nI j ∧ (smY X).toNatClampNeg = j ∧ (smY X).toInt = j ∧ 0 < (mA X 40 j).toInt := by
  rcases byF_pos (lf := mA X 40) (bd := mA X 12) (nn (mI X 26)) with q | ⟨j, h1, h2, h3⟩
  · exact absurd q h
  · have h4 : j < 4 := by unfold nn at h1; omega
    have e : smY X = nI j := h2
    exact ⟨j, h4, h1, e, by rw [e]; exact nI_clamp (by omega), by rw [e]; exact nI_toInt (by omega), h3⟩
theorem ct_drop {p q : Nat → Bool} {j n : Nat} (hj : j < n) (hp : p j = true) (hq : ∀ k, q k = if k = j then false else p k) : fb_ct q n + 1 = fb_ct p n := by
  have := fb_ct_upd p false hj
  rw [hp] at this
  rw [show q = fun k => if k = j then false else p k from funext hq]
  simpa using this
theorem ct_add {p q : Nat → Bool} {j n : Nat} (hj : j < n) (hp : p j = false) (hq : ∀ k, q k = if k = j then true else p k) : fb_ct q n = fb_ct p n + 1 := by
  have := fb_ct_upd p true hj
  rw [hp] at this
  rw [show q = fun k => if k = j then true else p k from funext hq]
  simpa using this
def smM (X : HS) (h : Int32) : Nat := if 0 < h.toInt then fb_ct (fun y => decide (0 < (mA X 40 y).toInt)) (nn (mI X 26)) + 1 else 0
theorem smM_2 {X : HS} {h : Int32} (hy : 0 ≤ (mI X 26).toInt ∧ (mI X 26).toInt ≤ 4) (hc : smC X h) : 2 ≤ smM X h := by
  obtain ⟨j, _, h1, _, _, _, h3⟩ := smY_pos hy hc.2.1
  have : 0 < fb_ct (fun y => decide (0 < (mA X 40 y).toInt)) (nn (mI X 26)) := fb_ct_pos.mpr ⟨j, h1, decide_eq_true h3⟩
  unfold smM
  rw [if_pos hc.1]
  omega
theorem smM_s {b : Nat} {X : HS} {h : Int32} (hy : 0 ≤ (mI X 26).toInt ∧ (mI X 26).toInt ≤ 4) (hc : smC X h) : smM (smH b X h) (h - smN X h) + 1 ≤ smM X h := by
  obtain ⟨j, h0, h1, h2, h5, h6, h3⟩ := smY_pos hy hc.2.1
  have hh := hc.1
  have r1 := (fb_rng h).2
  have r2 := (fb_rng (mA X 40 j)).2
  have zz : (0 : Int32).toInt = 0 := rfl
  have e26 : mI (smH b X h) 26 = mI X 26 := sellS_I (by decide) _
  have e40 : mA (smH b X h) 40 = upd (mA X 40) j (mA X 40 j - smN X h) := by
    show sA (sellS X (nI b) (smY X) (smN X h)) (ma 40) = _
    rw [sellS_40, h5]
  unfold smM
  rw [if_pos hh, e26, e40]
  by_cases q : mA X 40 j < h
  · have en : smN X h = mA X 40 j := by unfold smN; rw [h5, if_pos q]
    rw [en]
    have z : (mA X 40 j - mA X 40 j).toInt = 0 := by rw [fb_subI (by omega) (by omega)]; omega
    have ct := ct_drop (p := fun y => decide (0 < (mA X 40 y).toInt)) (q := fun y => decide (0 < (upd (mA X 40) j (mA X 40 j - mA X 40 j) y).toInt)) h1 (decide_eq_true h3) (fun k => by
      unfold upd
      by_cases e : k = j
      · rw [if_pos e, if_pos e, z]; rfl
      · rw [if_neg e, if_neg e])
    split <;> omega
  · have en : smN X h = h := by unfold smN; rw [h5, if_neg q]
    rw [en]
    have z : (h - h).toInt = 0 := by rw [fb_subI (by omega) (by omega)]; omega
    rw [if_neg (by omega)]
    omega
/-- sales so far, with what stays -/
def smJ (S : HS) (b : Nat) (P : HS × Int32) (j : Nat) : Prop := (∀ t, t < j → smC (smI b P t).1 (smI b P t).2) ∧ IX S (smI b P j).1 ∧ smM (smI b P j).1 (smI b P j).2 + j ≤ 5
theorem smJ_0 {S : HS} {b : Nat} {P : HS × Int32} (hy : 0 ≤ (mI S 26).toInt ∧ (mI S 26).toInt ≤ 4) (h : IX S P.1) : smJ S b P 0 := by
  refine ⟨fun t ht => absurd ht (Nat.not_lt_zero _), h, ?_⟩
  show smM P.1 P.2 + 0 ≤ 5
  unfold smM
  have := fb_ct_le (fun y => decide (0 < (mA P.1 40 y).toInt)) (nn (mI P.1 26))
  rw [h.2.2.1] at this
  split
  · rw [h.2.2.1]; unfold nn at this; unfold nn; omega
  · omega
theorem smJ_s {S : HS} {b : Nat} {P : HS × Int32} {j : Nat} (hy : 0 ≤ (mI S 26).toInt ∧ (mI S 26).toInt ≤ 4) (h : smJ S b P j) (hc : smC (smI b P j).1 (smI b P j).2) : smJ S b P (j + 1) := by
  obtain ⟨h1, h2, h3⟩ := h
  have hy2 : 0 ≤ (mI (smI b P j).1 26).toInt ∧ (mI (smI b P j).1 26).toInt ≤ 4 := by rw [h2.2.2.1]; exact hy
  refine ⟨fun t ht => ?_, IX.sell h2 hc, ?_⟩
  · rcases Nat.lt_succ_iff_lt_or_eq.mp ht with z | z
    · exact h1 t z
    · rw [z]; exact hc
  · have := smM_s (b := b) hy2 hc
    show smM (smH b (smI b P j).1 (smI b P j).2) ((smI b P j).2 - smN (smI b P j).1 (smI b P j).2) + (j + 1) ≤ 5
    omega
theorem smJ_4 {S : HS} {b : Nat} {P : HS × Int32} {j : Nat} (hy : 0 ≤ (mI S 26).toInt ∧ (mI S 26).toInt ≤ 4) (h : smJ S b P j) (hc : smC (smI b P j).1 (smI b P j).2) : j < 4 := by
  have hy2 : 0 ≤ (mI (smI b P j).1 26).toInt ∧ (mI (smI b P j).1 26).toInt ≤ 4 := by rw [h.2.1.2.2.1]; exact hy
  have := smM_2 hy2 hc
  have := h.2.2
  omega
theorem smJ_e {S X : HS} {b j : Nat} (hj : j ≤ 4) (h : smJ S b (sold1 X b, mA X 5 b) j) (hc : ¬ smC (smI b (sold1 X b, mA X 5 b) j).1 (smI b (sold1 X b, mA X 5 b) j).2) : smR b X = smI b (sold1 X b, mA X 5 b) j := by
  have := runF_eq (c := smB) (f := fun p => (smH b p.1 p.2, p.2 - smN p.1 p.2)) (it := smI b (sold1 X b, mA X 5 b)) (fun _ => rfl) 4 j 0 hj (fun i hi => by rw [Nat.zero_add]; exact smB_iff.mpr (h.1 i hi)) (Or.inr (by rw [Nat.zero_add]; exact fun z => hc (smB_iff.mp z)))
  rw [Nat.zero_add] at this
  exact this
/-- rows that sales leave alone -/
theorem smI_A {b : Nat} {P : HS × Int32} {a : Nat} (h : a ≠ ma 40 ∧ a ≠ ma 6 ∧ a ≠ ma 13 ∧ a ≠ ma 14 ∧ a ≠ ma 15 ∧ a ≠ ma 16 ∧ a ≠ ma 17 ∧ a ≠ ma 20 ∧ a ≠ ma 21) : ∀ k, sA (smI b P k).1 a = sA P.1 a
  | 0 => rfl
  | k + 1 => by
    show sA (smH b (smI b P k).1 (smI b P k).2) a = _
    unfold smH
    rw [sellS_A h, smI_A h k]
theorem nbF_spec {sd tn ce : Nat → Int32} : ∀ n, (nbF sd tn ce n = -1 ∧ ∀ j, j < n → ¬ (sd j = 0 ∧ 0 < (tn j).toInt)) ∨ ∃ j, j < n ∧ nbF sd tn ce n = nI j ∧ sd j = 0 ∧ 0 < (tn j).toInt
  | 0 => Or.inl ⟨rfl, fun j hj => absurd hj (Nat.not_lt_zero _)⟩
  | n + 1 => by
    unfold nbF
    split
    · rename_i q; exact Or.inr ⟨n, by omega, rfl, q.1.1, q.1.2⟩
    · rename_i q
      rcases nbF_spec (sd := sd) (tn := tn) (ce := ce) n with ⟨q1, q2⟩ | ⟨j, h1, h2, h3, h4⟩
      · refine Or.inl ⟨q1, fun j hj => ?_⟩
        rcases Nat.lt_succ_iff_lt_or_eq.mp hj with z | z
        · exact q2 j z
        · rw [z]; exact fun w => q ⟨w, Or.inl q1⟩
      · exact Or.inr ⟨j, by omega, h2, h3, h4⟩
/-- boats sold so far, with what stays -/
def smK (S : HS) (i : Nat) : Prop := (∀ j, j < i → ¬ smX (smA S j) = -1) ∧ IX S (smA S i) ∧ fb_ct (fun b => decide (¬ mA (smA S i) 41 b = 0)) (nn (mI S 25)) = i
theorem smX_at {S : HS} {i : Nat} (hb : 0 ≤ (mI S 25).toInt ∧ (mI S 25).toInt ≤ 12) (h : smK S i) (hx : ¬ smX (smA S i) = -1) : ∃ b, b < nn (mI S 25) ∧ b < 12 ∧ smX (smA S i) = nI b ∧ nn (smX (smA S i)) = b ∧ mA (smA S i) 41 b = 0 := by
  rcases nbF_spec (sd := mA (smA S i) 41) (tn := mA (smA S i) 5) (ce := mA (smA S i) 3) (nn (mI (smA S i) 25)) with q | ⟨j, h1, h2, h3, _⟩
  · exact absurd q.1 hx
  · rw [h.2.1.2.1] at h1
    have h12 : j < 12 := by unfold nn at h1; omega
    have e : smX (smA S i) = nI j := h2
    have ei : (nI j).toInt = j := nI_toInt (by omega)
    exact ⟨j, h1, h12, e, by rw [e]; unfold nn; omega, h3⟩
theorem smK_n {S : HS} (hb : 0 ≤ (mI S 25).toInt ∧ (mI S 25).toInt ≤ 12) {i : Nat} (h : smK S i) (hi : nn (mI S 25) ≤ i) : smX (smA S i) = -1 := by
  rcases nbF_spec (sd := mA (smA S i) 41) (tn := mA (smA S i) 5) (ce := mA (smA S i) 3) (nn (mI (smA S i) 25)) with q | ⟨j, h1, h2, h3, h4⟩
  · exact q.1
  · exfalso
    rw [h.2.1.2.1] at h1
    have hc := h.2.2
    have hle := fb_ct_le (fun b => decide (¬ mA (smA S i) 41 b = 0)) (nn (mI S 25))
    have ha := (fb_ct_all (p := fun b => decide (¬ mA (smA S i) 41 b = 0)) (n := nn (mI S 25))).mp (by omega) j h1
    exact of_decide_eq_true ha h3
theorem smF_IX {S X : HS} {b : Nat} (hy : 0 ≤ (mI S 26).toInt ∧ (mI S 26).toInt ≤ 4) (h : IX S X) {j : Nat} {P : HS × Int32} (hR : smR b X = smI b P j) (hJ : smJ S b P j) : IX S (smF b X) := by
  unfold smF
  rw [hR]
  exact hJ.2.1.thr _
theorem smK_s {S : HS} {i b : Nat} (hy : 0 ≤ (mI S 26).toInt ∧ (mI S 26).toInt ≤ 4) (h : smK S i) (hx : ¬ smX (smA S i) = -1) (hb1 : b < nn (mI S 25)) (hb2 : nn (smX (smA S i)) = b) (h0 : mA (smA S i) 41 b = 0) {j : Nat} (hR : smR b (smA S i) = smI b (sold1 (smA S i) b, mA (smA S i) 5 b) j) (hJ : smJ S b (sold1 (smA S i) b, mA (smA S i) 5 b) j) : smK S (i + 1) := by
  have e : smA S (i + 1) = smF b (smA S i) := by
    show smF (nn (smX (smA S i))) (smA S i) = _
    rw [hb2]
  refine ⟨fun t ht => ?_, by rw [e]; exact smF_IX hy h.2.1 hR hJ, ?_⟩
  · rcases Nat.lt_succ_iff_lt_or_eq.mp ht with z | z
    · exact h.1 t z
    · rw [z]; exact hx
  · have e41 : mA (smA S (i + 1)) 41 = upd (mA (smA S i) 41) b 1 := by
      rw [e]
      show sA (smF b (smA S i)) (ma 41) = _
      unfold smF
      rw [sA_setI, hR, smI_A (by decide)]
      exact sA_set _ _ _
    rw [e41]
    have ct := ct_add (p := fun b => decide (¬ mA (smA S i) 41 b = 0)) (q := fun k => decide (¬ upd (mA (smA S i) 41) b 1 k = 0)) hb1 (decide_eq_false (fun z => z h0)) (fun k => by
      unfold upd
      by_cases q : k = b
      · rw [if_pos q, if_pos q]; rfl
      · rw [if_neg q, if_neg q])
    rw [ct, h.2.2]
theorem smK_0 {S : HS} (h : ShM S) (hl : 0 ≤ (mI S 27).toInt ∧ (mI S 27).toInt ≤ 400) : smK S 0 := by
  refine ⟨fun j hj => absurd hj (Nat.not_lt_zero _), ⟨(h.setA _ _).setA _ _, rfl, rfl, hl.1, hl.2⟩, ?_⟩
  refine fb_ct_zero.mpr (fun k hk => decide_eq_false (fun z => z ?_))
  show sA (smL S) (ma 41) k = 0
  unfold smL
  rw [sA_set, fillR_in hk]

set_option maxHeartbeats 4000000 in
theorem c_X9_sellAll {l : Launch} {G : va_G} {cy : Nat → ClassId} (S : HS) (h : ShM S) (hb : 0 ≤ (mI S 25).toInt ∧ (mI S 25).toInt ≤ 12) (hy : 0 ≤ (mI S 26).toInt ∧ (mI S 26).toInt ≤ 4) (hl : 0 ≤ (mI S 27).toInt ∧ (mI S 27).toInt ≤ 400) : Cn l G cy yX9_sellAll cX9_sellAll 5 none 2 [.ref 2000] S 0 0 (qV (fun S2 => ∃ i, i ≤ nn (mI S 25) ∧ smK S i ∧ smX (smA S i) = -1 ∧ S2 = smA S i)) := by
  refine Cn.of [some (.ref 2000), none, none, none, none] (by decide) rfl (Nat.le_of_ble_eq_true rfl) ?_
  have hny : nn (mI S 26) ≤ 4 := by unfold nn; omega
  have hnb : nn (mI S 25) ≤ 12 := by unfold nn; omega
  have hnyI : nI (nn (mI S 26)) = mI S 26 := nI_nn hy.1
  have hnbI : nI (nn (mI S 25)) = mI S 25 := nI_nn hb.1
  refine R.heap (S2 := (setA S (ma 40) (fillR (mA S 11) (mA S 40) 0))) (setA_self S (ma 40)).symm ?_
  refine r_iconst (v := 0) dX9_sellAll_0 (by decide) ?_
  refine r_ist1 dX9_sellAll_1 (Nat.le_of_ble_eq_true rfl) rfl ?_
  refine R.for (α := Unit) (nn (mI S 26)) (fun i a => [some (.ref 2000), some (.int (nI i)), none, none, none]) (fun i a => (setA S (ma 40) (fillR (mA S 11) (mA S 40) i))) (fun i a => True) ?_ ?_ 0 () (Nat.zero_le _) trivial
  · intro a hI
    have h26 : sI (setA S (ma 40) (fillR (mA S 11) (mA S 40) (nn (mI S 26)))) (fid 9 26) 2000 = mI S 26 := rfl
    have hsh : ShM (setA S (ma 40) (fillR (mA S 11) (mA S 40) (nn (mI S 26)))) := h.setA _ _
    refine r_iload_n dX9_sellAll_2 rfl rfl ?_
    refine r_aload_n dX9_sellAll_3 rfl rfl ?_
    refine r_getI dX9_sellAll_4 lf_X9_140 rfl rfl ?_
    refine r_icmp_ge 28 dX9_sellAll_7 (by decide) (fun q7 => ?_) (fun q7 => ?_)
    · skip
      refine R.heap (S2 := (setA (setA S (ma 40) (fillR (mA S 11) (mA S 40) (nn (mI S 26)))) (ma 41) (fillR (fun _ => 0) (mA S 41) 0))) (by rw [show fillR (fun _ => (0 : Int32)) (mA S 41) 0 = sA (setA S (ma 40) (fillR (mA S 11) (mA S 40) (nn (mI S 26)))) (ma 41) from (sA_setn (by decide)).symm, setA_self]) ?_
      refine r_iconst (v := 0) dX9_sellAll_28 (by decide) ?_
      refine r_ist1 dX9_sellAll_29 (Nat.le_of_ble_eq_true rfl) rfl ?_
      refine R.for (α := Unit) (nn (mI S 25)) (fun i a => [some (.ref 2000), some (.int (nI i)), none, none, none]) (fun i a => (setA (setA S (ma 40) (fillR (mA S 11) (mA S 40) (nn (mI S 26)))) (ma 41) (fillR (fun _ => 0) (mA S 41) i))) (fun i a => True) ?_ ?_ 0 () (Nat.zero_le _) trivial
      · intro a hI
        have h25 : sI (setA (setA S (ma 40) (fillR (mA S 11) (mA S 40) (nn (mI S 26)))) (ma 41) (fillR (fun _ => 0) (mA S 41) (nn (mI S 25)))) (fid 9 25) 2000 = mI S 25 := rfl
        have hsh : ShM (setA (setA S (ma 40) (fillR (mA S 11) (mA S 40) (nn (mI S 26)))) (ma 41) (fillR (fun _ => 0) (mA S 41) (nn (mI S 25)))) := (h.setA _ _).setA _ _
        refine r_iload_n dX9_sellAll_30 rfl rfl ?_
        refine r_aload_n dX9_sellAll_31 rfl rfl ?_
        refine r_getI dX9_sellAll_32 lf_X9_126 rfl rfl ?_
        refine r_icmp_ge 51 dX9_sellAll_35 (by decide) (fun q35 => ?_) (fun q35 => ?_)
        · skip
          refine R.heap (S2 := smL S) rfl ?_
          have hsh : ShM (smL S) := (h.setA _ _).setA _ _
          refine r_aload_n dX9_sellAll_51 rfl rfl ?_
          refine r_invV0i dX9_sellAll_52 lm_X9_166 rfl (c_X9_nextBoat (smL S) hsh hb) (Nat.le_of_ble_eq_true rfl) (Nat.le_of_ble_eq_true rfl) (Nat.zero_le _) (Nat.zero_le _) (fun r52 S52 hq52 => ?_)
          obtain ⟨hr52, hz52⟩ := hq52
          replace hz52 := hz52.symm
          subst hz52
          replace hr52 : r52 = smX (smA S 0) := hr52
          subst hr52
          refine R.heap (S2 := smA S 0) rfl ?_
          refine r_ist1 dX9_sellAll_55 (Nat.le_of_ble_eq_true rfl) rfl ?_
          refine R.for (α := Option Value × Option Value × Option Value) (nn (mI S 25)) (fun i a => [some (.ref 2000), some (.int (smX (smA S i))), a.1, a.2.1, a.2.2]) (fun i a => (smA S i)) (fun i a => smK S i) ?_ ?_ 0 (none, none, none) (Nat.zero_le _) (smK_0 h hl)
          · intro a hI
            refine r_iload_n dX9_sellAll_56 rfl rfl ?_
            refine r_iconst (v := (-1)) dX9_sellAll_57 (by decide) ?_
            refine r_icmp_eq 150 dX9_sellAll_58 (by decide) (fun q58 => ?_) (fun q58 => ?_)
            · skip
              exact r_vret dX9_sellAll_150 rfl (Nat.zero_le _) (Nat.zero_le _) ⟨rfl, by
                  first
                    | exact ⟨i, by omega, hI, q58, rfl⟩
                    | exact ⟨nn (mI S 25), Nat.le_refl _, hI, q58, rfl⟩⟩
            · skip
              exact absurd (smK_n hb hI (Nat.le_refl _)) q58
          · intro i a hi hI ih
            have hIX := hI.2.1
            refine r_iload_n dX9_sellAll_56 rfl rfl ?_
            refine r_iconst (v := (-1)) dX9_sellAll_57 (by decide) ?_
            refine r_icmp_eq 150 dX9_sellAll_58 (by decide) (fun q58 => ?_) (fun q58 => ?_)
            · skip
              exact r_vret dX9_sellAll_150 rfl (Nat.zero_le _) (Nat.zero_le _) ⟨rfl, by
                  first
                    | exact ⟨i, by omega, hI, q58, rfl⟩
                    | exact ⟨nn (mI S 25), Nat.le_refl _, hI, q58, rfl⟩⟩
            · skip
              obtain ⟨b, hb1, hb12, hxb, hxn, hs0⟩ := smX_at hb hI q58
              have e1 : smA S (i + 1) = smF b (smA S i) := by
                show smF (nn (smX (smA S i))) (smA S i) = _
                rw [hxn]
              have hK := fun j hR hJ => smK_s hy hI q58 hb1 hxn hs0 (j := j) hR hJ
              rw [hxb]
              rw [e1] at ih
              have ihO := ih
              clear ih
              clear hxb hxn hs0
              generalize smA S i = X at ihO hIX hK e1 ⊢
              have hbc : (nI b).toNatClampNeg = b := nI_clamp (by omega)
              have hbi : (nI b).toInt = b := nI_toInt (by omega)
              have hsh := hIX.1
              refine r_aload_n dX9_sellAll_61 rfl rfl ?_
              refine r_getR dX9_sellAll_62 lf_X9_105 rfl rfl (shM_R hsh (j := 41) rfl) (shM_L hsh (j := 41) rfl) ?_
              refine r_iload_n dX9_sellAll_65 rfl rfl ?_
              refine r_iconst (v := 1) dX9_sellAll_66 (by decide) ?_
              refine r_zast dX9_sellAll_67 rfl (show vp_in (nI b) 12 from vp_in_nI (by omega) (by omega)) ?_
              rw [hbc, show vp_nar .boolean (1 : Int32) = 1 from rfl]
              refine R.heap (S2 := sold1 X b) rfl ?_
              have hIs : IX S (sold1 X b) := hIX.setA _ _
              have hsh := hIs.1
              refine r_aload_n dX9_sellAll_68 rfl rfl ?_
              refine r_getR dX9_sellAll_69 lf_X9_26 rfl rfl (shM_R hsh (j := 5) rfl) (shM_L hsh (j := 5) rfl) ?_
              refine r_iload_n dX9_sellAll_72 rfl rfl ?_
              refine r_iald dX9_sellAll_73 rfl (show vp_in (nI b) 12 from vp_in_nI (by omega) (by omega)) ?_
              rw [hbc, show sA (sold1 X b) (ma 5) = mA X 5 from sA_setn (by decide)]
              refine r_ist2 dX9_sellAll_74 (Nat.le_of_ble_eq_true rfl) rfl ?_
              refine r_aload_n dX9_sellAll_75 rfl rfl ?_
              refine r_invV0i dX9_sellAll_76 lm_X9_170 rfl (c_X9_bestYard (sold1 X b) hsh (by rw [hIs.2.2.1]; exact hy)) (Nat.le_of_ble_eq_true rfl) (Nat.le_of_ble_eq_true rfl) (Nat.zero_le _) (Nat.zero_le _) (fun r76 S76 hq76 => ?_)
              obtain ⟨hr76, hz76⟩ := hq76
              replace hz76 := hz76.symm
              subst hz76
              replace hr76 : r76 = smY (sold1 X b) := hr76
              subst hr76
              refine r_ist3 dX9_sellAll_79 (Nat.le_of_ble_eq_true rfl) rfl ?_
              refine R.for (α := Option Value) (4) (fun j a => [some (.ref 2000), some (.int (nI b)), some (.int (smI b (sold1 X b, mA X 5 b) j).2), some (.int (smY (smI b (sold1 X b, mA X 5 b) j).1)), a]) (fun j a => (smI b (sold1 X b, mA X 5 b) j).1) (fun j a => smJ S b (sold1 X b, mA X 5 b) j) ?_ ?_ 0 a.2.2 (Nat.zero_le _) (smJ_0 hy hIs)
              · intro a hI
                have hFin : ¬ smC (smI b (sold1 X b, mA X 5 b) 4).1 (smI b (sold1 X b, mA X 5 b) 4).2 → smK S (i + 1) ∧ smR b X = (smI b (sold1 X b, mA X 5 b) 4) := fun q => ⟨hK 4 (smJ_e (Nat.le_refl _) hI q) hI, smJ_e (Nat.le_refl _) hI q⟩
                have h4 : smC (smI b (sold1 X b, mA X 5 b) 4).1 (smI b (sold1 X b, mA X 5 b) 4).2 → 4 < 4 := smJ_4 hy hI
                have hIY : IX S (smI b (sold1 X b, mA X 5 b) 4).1 := hI.2.1
                generalize (smI b (sold1 X b, mA X 5 b) 4) = QQ at hFin h4 hIY ⊢
                obtain ⟨Y, hh⟩ := QQ
                dsimp only at hFin h4 hIY ⊢
                have hsh := hIY.1
                have hyY : 0 ≤ (mI Y 26).toInt ∧ (mI Y 26).toInt ≤ 4 := by rw [hIY.2.2.1]; exact hy
                refine r_iload_n dX9_sellAll_80 rfl rfl ?_
                refine r_if_le 132 dX9_sellAll_81 (by decide) (fun q81 => ?_) (fun q81 => ?_)
                · skip
                  have hnc : ¬ smC Y hh := fun q => by have := q.1; rw [fa_le] at q81; have h0 : (0 : Int32).toInt = 0 := rfl; omega
                  obtain ⟨hKK, hRR⟩ := hFin hnc
                  have hIF : IX S (smF b X) := by have := hKK.2.1; rw [e1] at this; exact this
                  refine r_aload_n dX9_sellAll_132 rfl rfl ?_
                  refine r_dup dX9_sellAll_133 rfl ?_
                  refine r_getI dX9_sellAll_134 lf_X9_180 rfl rfl ?_
                  refine r_iload_n dX9_sellAll_137 rfl rfl ?_
                  refine r_iadd dX9_sellAll_138 ?_
                  refine r_putI dX9_sellAll_139 (lp_X9_180 _) rfl rfl ?_
                  refine R.heap (S2 := smF b X) (by unfold smF; rw [hRR]) ?_
                  refine r_aload_n dX9_sellAll_142 rfl rfl ?_
                  refine r_invV0i dX9_sellAll_143 lm_X9_166 rfl (c_X9_nextBoat (smF b X) hIF.1 (by rw [hIF.2.1]; exact hb)) (Nat.le_of_ble_eq_true rfl) (Nat.le_of_ble_eq_true rfl) (Nat.zero_le _) (Nat.zero_le _) (fun r143 S143 hq143 => ?_)
                  obtain ⟨hr143, hz143⟩ := hq143
                  replace hz143 := hz143.symm
                  subst hz143
                  replace hr143 : r143 = smX (smF b X) := hr143
                  subst hr143
                  refine r_ist1 dX9_sellAll_146 (Nat.le_of_ble_eq_true rfl) rfl ?_
                  refine r_goto 56 dX9_sellAll_147 (by decide) ?_
                  exact ihO (some (.int hh), some (.int (smY Y)), a) hKK
                · skip
                  refine r_iload_n dX9_sellAll_84 rfl rfl ?_
                  refine r_iconst (v := (-1)) dX9_sellAll_85 (by decide) ?_
                  refine r_icmp_eq 132 dX9_sellAll_86 (by decide) (fun q86 => ?_) (fun q86 => ?_)
                  · skip
                    have hnc : ¬ smC Y hh := fun q => q.2.1 q86
                    obtain ⟨hKK, hRR⟩ := hFin hnc
                    have hIF : IX S (smF b X) := by have := hKK.2.1; rw [e1] at this; exact this
                    refine r_aload_n dX9_sellAll_132 rfl rfl ?_
                    refine r_dup dX9_sellAll_133 rfl ?_
                    refine r_getI dX9_sellAll_134 lf_X9_180 rfl rfl ?_
                    refine r_iload_n dX9_sellAll_137 rfl rfl ?_
                    refine r_iadd dX9_sellAll_138 ?_
                    refine r_putI dX9_sellAll_139 (lp_X9_180 _) rfl rfl ?_
                    refine R.heap (S2 := smF b X) (by unfold smF; rw [hRR]) ?_
                    refine r_aload_n dX9_sellAll_142 rfl rfl ?_
                    refine r_invV0i dX9_sellAll_143 lm_X9_166 rfl (c_X9_nextBoat (smF b X) hIF.1 (by rw [hIF.2.1]; exact hb)) (Nat.le_of_ble_eq_true rfl) (Nat.le_of_ble_eq_true rfl) (Nat.zero_le _) (Nat.zero_le _) (fun r143 S143 hq143 => ?_)
                    obtain ⟨hr143, hz143⟩ := hq143
                    replace hz143 := hz143.symm
                    subst hz143
                    replace hr143 : r143 = smX (smF b X) := hr143
                    subst hr143
                    refine r_ist1 dX9_sellAll_146 (Nat.le_of_ble_eq_true rfl) rfl ?_
                    refine r_goto 56 dX9_sellAll_147 (by decide) ?_
                    exact ihO (some (.int hh), some (.int (smY Y)), a) hKK
                  · skip
                    refine r_aload_n dX9_sellAll_89 rfl rfl ?_
                    refine r_getI dX9_sellAll_90 lf_X9_173 rfl rfl ?_
                    refine r_sipush (v := 400) dX9_sellAll_93 (by decide) ?_
                    refine r_icmp_ge 132 dX9_sellAll_96 (by decide) (fun q96 => ?_) (fun q96 => ?_)
                    · skip
                      have hnc : ¬ smC Y hh := fun q => by have := q.2.2; rw [fa_le] at q96; have h0 : (400 : Int32).toInt = 400 := rfl; have h1 : (mI Y 27).toInt = (sI Y (fid 9 27) 2000).toInt := rfl; omega
                      obtain ⟨hKK, hRR⟩ := hFin hnc
                      have hIF : IX S (smF b X) := by have := hKK.2.1; rw [e1] at this; exact this
                      refine r_aload_n dX9_sellAll_132 rfl rfl ?_
                      refine r_dup dX9_sellAll_133 rfl ?_
                      refine r_getI dX9_sellAll_134 lf_X9_180 rfl rfl ?_
                      refine r_iload_n dX9_sellAll_137 rfl rfl ?_
                      refine r_iadd dX9_sellAll_138 ?_
                      refine r_putI dX9_sellAll_139 (lp_X9_180 _) rfl rfl ?_
                      refine R.heap (S2 := smF b X) (by unfold smF; rw [hRR]) ?_
                      refine r_aload_n dX9_sellAll_142 rfl rfl ?_
                      refine r_invV0i dX9_sellAll_143 lm_X9_166 rfl (c_X9_nextBoat (smF b X) hIF.1 (by rw [hIF.2.1]; exact hb)) (Nat.le_of_ble_eq_true rfl) (Nat.le_of_ble_eq_true rfl) (Nat.zero_le _) (Nat.zero_le _) (fun r143 S143 hq143 => ?_)
                      obtain ⟨hr143, hz143⟩ := hq143
                      replace hz143 := hz143.symm
                      subst hz143
                      replace hr143 : r143 = smX (smF b X) := hr143
                      subst hr143
                      refine r_ist1 dX9_sellAll_146 (Nat.le_of_ble_eq_true rfl) rfl ?_
                      refine r_goto 56 dX9_sellAll_147 (by decide) ?_
                      exact ihO (some (.int hh), some (.int (smY Y)), a) hKK
                    · skip
                      have hc : smC Y hh := ⟨by rw [fa_le] at q81; have h0 : (0 : Int32).toInt = 0 := rfl; omega, q86, by rw [fa_le] at q96; have h0 : (400 : Int32).toInt = 400 := rfl; have h1 : (mI Y 27).toInt = (sI Y (fid 9 27) 2000).toInt := rfl; omega⟩
                      exact absurd (h4 hc) (Nat.lt_irrefl _)
              · intro j a hj hI ih
                have hFin : ¬ smC (smI b (sold1 X b, mA X 5 b) j).1 (smI b (sold1 X b, mA X 5 b) j).2 → smK S (i + 1) ∧ smR b X = (smI b (sold1 X b, mA X 5 b) j) := fun q => ⟨hK j (smJ_e (by omega) hI q) hI, smJ_e (by omega) hI q⟩
                have h4 : smC (smI b (sold1 X b, mA X 5 b) j).1 (smI b (sold1 X b, mA X 5 b) j).2 → j < 4 := smJ_4 hy hI
                have hIY : IX S (smI b (sold1 X b, mA X 5 b) j).1 := hI.2.1
                have hJs : smC (smI b (sold1 X b, mA X 5 b) j).1 (smI b (sold1 X b, mA X 5 b) j).2 → smJ S b (sold1 X b, mA X 5 b) (j + 1) := smJ_s hy hI
                have e2 : smI b (sold1 X b, mA X 5 b) (j + 1) = (smH b (smI b (sold1 X b, mA X 5 b) j).1 (smI b (sold1 X b, mA X 5 b) j).2, (smI b (sold1 X b, mA X 5 b) j).2 - smN (smI b (sold1 X b, mA X 5 b) j).1 (smI b (sold1 X b, mA X 5 b) j).2) := rfl
                rw [e2] at ih
                generalize (smI b (sold1 X b, mA X 5 b) j) = QQ at hFin h4 hIY hJs ih ⊢
                obtain ⟨Y, hh⟩ := QQ
                dsimp only at hFin h4 hIY hJs ih ⊢
                have hsh := hIY.1
                have hyY : 0 ≤ (mI Y 26).toInt ∧ (mI Y 26).toInt ≤ 4 := by rw [hIY.2.2.1]; exact hy
                refine r_iload_n dX9_sellAll_80 rfl rfl ?_
                refine r_if_le 132 dX9_sellAll_81 (by decide) (fun q81 => ?_) (fun q81 => ?_)
                · skip
                  have hnc : ¬ smC Y hh := fun q => by have := q.1; rw [fa_le] at q81; have h0 : (0 : Int32).toInt = 0 := rfl; omega
                  obtain ⟨hKK, hRR⟩ := hFin hnc
                  have hIF : IX S (smF b X) := by have := hKK.2.1; rw [e1] at this; exact this
                  refine r_aload_n dX9_sellAll_132 rfl rfl ?_
                  refine r_dup dX9_sellAll_133 rfl ?_
                  refine r_getI dX9_sellAll_134 lf_X9_180 rfl rfl ?_
                  refine r_iload_n dX9_sellAll_137 rfl rfl ?_
                  refine r_iadd dX9_sellAll_138 ?_
                  refine r_putI dX9_sellAll_139 (lp_X9_180 _) rfl rfl ?_
                  refine R.heap (S2 := smF b X) (by unfold smF; rw [hRR]) ?_
                  refine r_aload_n dX9_sellAll_142 rfl rfl ?_
                  refine r_invV0i dX9_sellAll_143 lm_X9_166 rfl (c_X9_nextBoat (smF b X) hIF.1 (by rw [hIF.2.1]; exact hb)) (Nat.le_of_ble_eq_true rfl) (Nat.le_of_ble_eq_true rfl) (Nat.zero_le _) (Nat.zero_le _) (fun r143 S143 hq143 => ?_)
                  obtain ⟨hr143, hz143⟩ := hq143
                  replace hz143 := hz143.symm
                  subst hz143
                  replace hr143 : r143 = smX (smF b X) := hr143
                  subst hr143
                  refine r_ist1 dX9_sellAll_146 (Nat.le_of_ble_eq_true rfl) rfl ?_
                  refine r_goto 56 dX9_sellAll_147 (by decide) ?_
                  exact ihO (some (.int hh), some (.int (smY Y)), a) hKK
                · skip
                  refine r_iload_n dX9_sellAll_84 rfl rfl ?_
                  refine r_iconst (v := (-1)) dX9_sellAll_85 (by decide) ?_
                  refine r_icmp_eq 132 dX9_sellAll_86 (by decide) (fun q86 => ?_) (fun q86 => ?_)
                  · skip
                    have hnc : ¬ smC Y hh := fun q => q.2.1 q86
                    obtain ⟨hKK, hRR⟩ := hFin hnc
                    have hIF : IX S (smF b X) := by have := hKK.2.1; rw [e1] at this; exact this
                    refine r_aload_n dX9_sellAll_132 rfl rfl ?_
                    refine r_dup dX9_sellAll_133 rfl ?_
                    refine r_getI dX9_sellAll_134 lf_X9_180 rfl rfl ?_
                    refine r_iload_n dX9_sellAll_137 rfl rfl ?_
                    refine r_iadd dX9_sellAll_138 ?_
                    refine r_putI dX9_sellAll_139 (lp_X9_180 _) rfl rfl ?_
                    refine R.heap (S2 := smF b X) (by unfold smF; rw [hRR]) ?_
                    refine r_aload_n dX9_sellAll_142 rfl rfl ?_
                    refine r_invV0i dX9_sellAll_143 lm_X9_166 rfl (c_X9_nextBoat (smF b X) hIF.1 (by rw [hIF.2.1]; exact hb)) (Nat.le_of_ble_eq_true rfl) (Nat.le_of_ble_eq_true rfl) (Nat.zero_le _) (Nat.zero_le _) (fun r143 S143 hq143 => ?_)
                    obtain ⟨hr143, hz143⟩ := hq143
                    replace hz143 := hz143.symm
                    subst hz143
                    replace hr143 : r143 = smX (smF b X) := hr143
                    subst hr143
                    refine r_ist1 dX9_sellAll_146 (Nat.le_of_ble_eq_true rfl) rfl ?_
                    refine r_goto 56 dX9_sellAll_147 (by decide) ?_
                    exact ihO (some (.int hh), some (.int (smY Y)), a) hKK
                  · skip
                    refine r_aload_n dX9_sellAll_89 rfl rfl ?_
                    refine r_getI dX9_sellAll_90 lf_X9_173 rfl rfl ?_
                    refine r_sipush (v := 400) dX9_sellAll_93 (by decide) ?_
                    refine r_icmp_ge 132 dX9_sellAll_96 (by decide) (fun q96 => ?_) (fun q96 => ?_)
                    · skip
                      have hnc : ¬ smC Y hh := fun q => by have := q.2.2; rw [fa_le] at q96; have h0 : (400 : Int32).toInt = 400 := rfl; have h1 : (mI Y 27).toInt = (sI Y (fid 9 27) 2000).toInt := rfl; omega
                      obtain ⟨hKK, hRR⟩ := hFin hnc
                      have hIF : IX S (smF b X) := by have := hKK.2.1; rw [e1] at this; exact this
                      refine r_aload_n dX9_sellAll_132 rfl rfl ?_
                      refine r_dup dX9_sellAll_133 rfl ?_
                      refine r_getI dX9_sellAll_134 lf_X9_180 rfl rfl ?_
                      refine r_iload_n dX9_sellAll_137 rfl rfl ?_
                      refine r_iadd dX9_sellAll_138 ?_
                      refine r_putI dX9_sellAll_139 (lp_X9_180 _) rfl rfl ?_
                      refine R.heap (S2 := smF b X) (by unfold smF; rw [hRR]) ?_
                      refine r_aload_n dX9_sellAll_142 rfl rfl ?_
                      refine r_invV0i dX9_sellAll_143 lm_X9_166 rfl (c_X9_nextBoat (smF b X) hIF.1 (by rw [hIF.2.1]; exact hb)) (Nat.le_of_ble_eq_true rfl) (Nat.le_of_ble_eq_true rfl) (Nat.zero_le _) (Nat.zero_le _) (fun r143 S143 hq143 => ?_)
                      obtain ⟨hr143, hz143⟩ := hq143
                      replace hz143 := hz143.symm
                      subst hz143
                      replace hr143 : r143 = smX (smF b X) := hr143
                      subst hr143
                      refine r_ist1 dX9_sellAll_146 (Nat.le_of_ble_eq_true rfl) rfl ?_
                      refine r_goto 56 dX9_sellAll_147 (by decide) ?_
                      exact ihO (some (.int hh), some (.int (smY Y)), a) hKK
                    · skip
                      have hc : smC Y hh := ⟨by rw [fa_le] at q81; have h0 : (0 : Int32).toInt = 0 := rfl; omega, q86, by rw [fa_le] at q96; have h0 : (400 : Int32).toInt = 400 := rfl; have h1 : (mI Y 27).toInt = (sI Y (fid 9 27) 2000).toInt := rfl; omega⟩
                      obtain ⟨yj, hy4, hyn, hye, hyc, hyi, _⟩ := smY_pos hyY hc.2.1
                      have hIZ : IX S (smH b Y hh) := hIY.sell hc
                      refine r_iload_n dX9_sellAll_99 rfl rfl ?_
                      refine r_aload_n dX9_sellAll_100 rfl rfl ?_
                      refine r_getR dX9_sellAll_101 lf_X9_102 rfl rfl (shM_R hsh (j := 40) rfl) (shM_L hsh (j := 40) rfl) ?_
                      refine r_iload_n dX9_sellAll_104 rfl rfl ?_
                      refine r_iald dX9_sellAll_105 rfl (show vp_in (smY Y) 4 from vp_in_iff.mpr ⟨by omega, by omega⟩) ?_
                      refine r_mmin dX9_sellAll_106 lm_X9_143 (Nat.le_of_ble_eq_true rfl) (Nat.le_of_ble_eq_true rfl) (Nat.zero_le _) (Nat.zero_le _) ?_
                      rw [show (if sA Y (ma 40) (smY Y).toNatClampNeg < hh then sA Y (ma 40) (smY Y).toNatClampNeg else hh) = smN Y hh from rfl]
                      refine r_ist4 dX9_sellAll_109 (Nat.le_of_ble_eq_true rfl) rfl ?_
                      refine r_aload_n dX9_sellAll_111 rfl rfl ?_
                      refine r_iload_n dX9_sellAll_112 rfl rfl ?_
                      refine r_iload_n dX9_sellAll_113 rfl rfl ?_
                      refine r_iload dX9_sellAll_114 rfl ?_
                      refine r_invV3v dX9_sellAll_116 lm_X9_176 rfl (c_X9_sell (nI b) (smY Y) (smN Y hh) Y hsh ⟨by omega, by omega⟩ ⟨by omega, by omega⟩ ⟨hIY.2.2.2.1, hc.2.2⟩) (Nat.le_of_ble_eq_true rfl) (Nat.le_of_ble_eq_true rfl) (Nat.zero_le _) (Nat.zero_le _) (fun S116 hq116 => ?_)
                      replace hq116 : S116 = smH b Y hh := hq116
                      subst hq116
                      refine r_iload_n dX9_sellAll_119 rfl rfl ?_
                      refine r_iload dX9_sellAll_120 rfl ?_
                      refine r_isub dX9_sellAll_122 ?_
                      refine r_ist2 dX9_sellAll_123 (Nat.le_of_ble_eq_true rfl) rfl ?_
                      refine r_aload_n dX9_sellAll_124 rfl rfl ?_
                      refine r_invV0i dX9_sellAll_125 lm_X9_170 rfl (c_X9_bestYard (smH b Y hh) hIZ.1 (by rw [hIZ.2.2.1]; exact hy)) (Nat.le_of_ble_eq_true rfl) (Nat.le_of_ble_eq_true rfl) (Nat.zero_le _) (Nat.zero_le _) (fun r125 S125 hq125 => ?_)
                      obtain ⟨hr125, hz125⟩ := hq125
                      replace hz125 := hz125.symm
                      subst hz125
                      replace hr125 : r125 = smY (smH b Y hh) := hr125
                      subst hr125
                      refine r_ist3 dX9_sellAll_128 (Nat.le_of_ble_eq_true rfl) rfl ?_
                      refine r_goto 80 dX9_sellAll_129 (by decide) ?_
                      exact ih (some (.int (smN Y hh))) (hJs hc)
        · skip
          exact absurd (by rw [h25, hnbI]; exact Int32.le_refl _) q35
      · intro i a hi hI ih
        have hii : (nI i).toInt = i := nI_toInt (by omega)
        have hic : (nI i).toNatClampNeg = i := nI_clamp (by omega)
        have h25 : sI (setA (setA S (ma 40) (fillR (mA S 11) (mA S 40) (nn (mI S 26)))) (ma 41) (fillR (fun _ => 0) (mA S 41) i)) (fid 9 25) 2000 = mI S 25 := rfl
        have hsh : ShM (setA (setA S (ma 40) (fillR (mA S 11) (mA S 40) (nn (mI S 26)))) (ma 41) (fillR (fun _ => 0) (mA S 41) i)) := (h.setA _ _).setA _ _
        refine r_iload_n dX9_sellAll_30 rfl rfl ?_
        refine r_aload_n dX9_sellAll_31 rfl rfl ?_
        refine r_getI dX9_sellAll_32 lf_X9_126 rfl rfl ?_
        refine r_icmp_ge 51 dX9_sellAll_35 (by decide) (fun q35 => ?_) (fun q35 => ?_)
        · skip
          exact absurd q35 (by rw [h25, ← hnbI, fa_le, hii, nI_toInt (by omega)]; omega)
        · skip
          refine r_aload_n dX9_sellAll_38 rfl rfl ?_
          refine r_getR dX9_sellAll_39 lf_X9_105 rfl rfl (shM_R hsh (j := 41) rfl) (shM_L hsh (j := 41) rfl) ?_
          refine r_iload_n dX9_sellAll_42 rfl rfl ?_
          refine r_iconst (v := 0) dX9_sellAll_43 (by decide) ?_
          refine r_zast dX9_sellAll_44 rfl (show vp_in (nI i) 12 from vp_in_nI (by omega) (by omega)) ?_
          refine r_in1 dX9_sellAll_45 (show _ + Int32.ofInt 1 = _ + 1 from rfl) (Nat.le_of_ble_eq_true rfl) rfl ?_
          refine r_goto 30 dX9_sellAll_48 (by decide) ?_
          rw [nI_1 i, hic, sA_set, setA_setA, show vp_nar .boolean (0 : Int32) = 0 from rfl]
          exact ih () trivial
    · skip
      exact absurd (by rw [h26, hnyI]; exact Int32.le_refl _) q7
  · intro i a hi hI ih
    have hii : (nI i).toInt = i := nI_toInt (by omega)
    have hic : (nI i).toNatClampNeg = i := nI_clamp (by omega)
    have h26 : sI (setA S (ma 40) (fillR (mA S 11) (mA S 40) i)) (fid 9 26) 2000 = mI S 26 := rfl
    have hsh : ShM (setA S (ma 40) (fillR (mA S 11) (mA S 40) i)) := h.setA _ _
    refine r_iload_n dX9_sellAll_2 rfl rfl ?_
    refine r_aload_n dX9_sellAll_3 rfl rfl ?_
    refine r_getI dX9_sellAll_4 lf_X9_140 rfl rfl ?_
    refine r_icmp_ge 28 dX9_sellAll_7 (by decide) (fun q7 => ?_) (fun q7 => ?_)
    · skip
      exact absurd q7 (by rw [h26, ← hnyI, fa_le, hii, nI_toInt (by omega)]; omega)
    · skip
      refine r_aload_n dX9_sellAll_10 rfl rfl ?_
      refine r_getR dX9_sellAll_11 lf_X9_102 rfl rfl (shM_R hsh (j := 40) rfl) (shM_L hsh (j := 40) rfl) ?_
      refine r_iload_n dX9_sellAll_14 rfl rfl ?_
      refine r_aload_n dX9_sellAll_15 rfl rfl ?_
      refine r_getR dX9_sellAll_16 lf_X9_44 rfl rfl (shM_R hsh (j := 11) rfl) (shM_L hsh (j := 11) rfl) ?_
      refine r_iload_n dX9_sellAll_19 rfl rfl ?_
      refine r_iald dX9_sellAll_20 rfl (show vp_in (nI i) 4 from vp_in_nI (by omega) (by omega)) ?_
      rw [sA_setn (show ma 11 ≠ ma 40 by decide), hic]
      refine r_iast dX9_sellAll_21 rfl (show vp_in (nI i) 4 from vp_in_nI (by omega) (by omega)) ?_
      refine r_in1 dX9_sellAll_22 (show _ + Int32.ofInt 1 = _ + 1 from rfl) (Nat.le_of_ble_eq_true rfl) rfl ?_
      refine r_goto 2 dX9_sellAll_25 (by decide) ?_
      rw [nI_1 i, hic, sA_set, setA_setA]
      exact ih () trivial
