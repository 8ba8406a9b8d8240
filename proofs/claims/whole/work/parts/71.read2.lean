/-! ===== parts and wholes ===== -/
theorem Cd.join {v : Int32 → Int32} {t w u : TX} {op : Bool → Bool → Bool} {f g : Bool} (h1 : Cd t w (fun C => Ev C v t.2.2.2.1 w.2.2.2.1 f)) (h2 : Cd w u (fun C => Ew C v w.2.2.2.1 u.2.2.2.1 op g)) (hs : t.2.2.2.1 < w.2.2.2.1) : Cd t u (fun C => Ev C v t.2.2.2.1 u.2.2.2.1 (op f g)) := by
  obtain ⟨⟨a1, a2⟩, a3⟩ := h1
  obtain ⟨⟨b1, b2⟩, b3⟩ := h2
  refine ⟨⟨by omega, fun j hj => (b2 j (by omega)).trans (a2 j hj)⟩, fun C hC => ?_⟩
  exact (a3 C (fun j j1 j2 => (hC j j1 (by omega)).trans (b2 j j2))).join (b3 C (fun j j1 j2 => hC j (by omega) j2)) hs
theorem Cd.more {v : Int32 → Int32} {t w u : TX} {op : Bool → Bool → Bool} {f g : Bool} {k : Int32} (h1 : Cd t w (fun C => Ev C v t.2.2.2.1 w.2.2.2.1 f)) (hw : w.2.2.2.1 + 3 < 420) (hop : (k = 1 ∧ op = and) ∨ (k = 2 ∧ op = or)) (h2 : Cd (syM w k) u (fun C => Ew C v (w.2.2.2.1 + 1) u.2.2.2.1 op g)) : Cd t u (fun C => Ew C v t.2.2.2.1 u.2.2.2.1 op (op f g)) := by
  obtain ⟨⟨a1, a2⟩, a3⟩ := h1
  obtain ⟨⟨b1, b2⟩, b3⟩ := h2
  have b1 : w.2.2.2.1 + 1 ≤ u.2.2.2.1 := b1
  have b2 : ∀ j, j < w.2.2.2.1 + 1 → u.2.2.2.2 j = upd w.2.2.2.2 w.2.2.2.1 k j := b2
  have c2 : ∀ j, j < w.2.2.2.1 → u.2.2.2.2 j = w.2.2.2.2 j := fun j hj => (b2 j (by omega)).trans (pk_un (by omega))
  refine ⟨⟨by omega, fun j hj => (c2 j (by omega)).trans (a2 j hj)⟩, fun C hC => ?_⟩
  have hk : C w.2.2.2.1 = k := (hC _ (by omega) (by omega)).trans ((b2 _ (by omega)).trans pk_us)
  refine Ew.more (a3 C (fun j j1 j2 => (hC j j1 (by omega)).trans (c2 j j2))) a1 hw ?_ (b3 C (fun j j1 j2 => hC j (by have : w.2.2.2.1 + 1 ≤ j := j1; omega) j2))
  rw [hk]
  exact hop
theorem Cd.nil {v : Int32 → Int32} {t u : TX} {op : Bool → Bool → Bool} {g : Bool} (h : u.2.2.2 = t.2.2.2) (hg : ∀ f, op f g = f) : Cd t u (fun C => Ew C v t.2.2.2.1 u.2.2.2.1 op g) := by
  unfold Cd
  rw [h]
  exact ⟨⟨Nat.le_refl _, fun _ _ => rfl⟩, fun C _ => Ew.nil hg⟩
def Pr3 (T : HS) (m : Int32 → Int32) (V0 : VT) (t : TX) (a b D : Nat) : Prop := (t.2.1 = -1 ∧ t.2.2.1 = D ∧ D ≤ 8 ∧ Sq T t.1 D) ∧ PE m (vRun m (mA T 43) V0 t.1) a b ∧ a < 2 ^ (D + 1) ∧ b < 2 ^ (D + 1) ∧ t.2.2.2.1 ≤ 2 * t.1
def G3 (T : HS) (m v : Int32 → Int32) (V0 : VT) (t u : TX) (a b D : Nat) : Prop := (u.2.1 = -1 ∧ Sq T u.1 D ∧ Ad t u) ∧ (lkP T u.1 = u.1 ∧ ¬ lkC T u.1 = 38) ∧ ∃ g, PE m (vRun m (mA T 43) V0 u.1) a (cl g b) ∧ Cd t u (fun C => Ew C v t.2.2.2.1 u.2.2.2.1 and g)
def Pr4 (T : HS) (m : Int32 → Int32) (V0 : VT) (t : TX) (a b : Nat) (e : Bool) (D : Nat) : Prop := (t.2.1 = -1 ∧ t.2.2.1 = D ∧ D ≤ 8 ∧ Sq T t.1 D) ∧ (lkP T t.1 = t.1 ∧ ¬ lkC T t.1 = 38) ∧ WE m (vRun m (mA T 43) V0 t.1) a b e ∧ (a % 2 = 0 ∧ b % 2 = 1) ∧ a < 2 ^ (D + 1) ∧ b < 2 ^ (D + 1) ∧ t.2.2.2.1 ≤ 2 * t.1
def G4 (T : HS) (m v : Int32 → Int32) (V0 : VT) (t u : TX) (a b : Nat) (e : Bool) (D : Nat) : Prop := (u.2.1 = -1 ∧ Sq T u.1 D ∧ Ad t u) ∧ (lkP T u.1 = u.1 ∧ ¬ lkC T u.1 = 38 ∧ ¬ lkC T u.1 = 124) ∧ ∃ g, WE m (vRun m (mA T 43) V0 u.1) a b (e || g) ∧ Cd t u (fun C => Ew C v t.2.2.2.1 u.2.2.2.1 or g)
theorem pr3_w {T : HS} {n : Nat} {t u : TX} (h : prM T n 3 t = some u) (hw : ¬ t.2.1 = -1) : u = t := by
  cases n with
  | zero => cases h
  | succ n => rw [prM_3w hw] at h; exact (Option.some.inj h).symm
theorem pr4_w {T : HS} {n : Nat} {t u : TX} (h : prM T n 4 t = some u) (hw : ¬ t.2.1 = -1) : u = t := by
  cases n with
  | zero => cases h
  | succ n => rw [prM_4w hw] at h; exact (Option.some.inj h).symm
theorem Bad.ne {T : HS} {u : TX} (hs : szM T ≤ 200) (h : Bad T u) : ¬ u.2.1 = -1 := by
  obtain ⟨p, h1, h2⟩ := h
  rw [h1]
  exact nI_nm (by have := h2.1; omega)
def K0 (T : HS) (m v : Int32 → Int32) (V0 : VT) (n : Nat) : Prop := ∀ t u a b D, prM T n 0 t = some u → Pr0 T m V0 t a b D → G0 T m v V0 t u a b D ∨ Bad T u
def K1 (T : HS) (m v : Int32 → Int32) (V0 : VT) (n : Nat) : Prop := ∀ t u a b D, prM T n 1 t = some u → Pr0 T m V0 t a b D → (G0 T m v V0 t u a b D ∧ lkP T u.1 = u.1 ∧ ¬ lkC T u.1 = 38) ∨ Bad T u
def K2 (T : HS) (m v : Int32 → Int32) (V0 : VT) (n : Nat) : Prop := ∀ t u a b D, prM T n 2 t = some u → Pr0 T m V0 t a b D → a % 2 = 0 → b % 2 = 1 → G2 T m v V0 t u a b D ∨ Bad T u
def K3 (T : HS) (m v : Int32 → Int32) (V0 : VT) (n : Nat) : Prop := ∀ t u a b D, prM T n 3 t = some u → Pr3 T m V0 t a b D → G3 T m v V0 t u a b D ∨ Bad T u
def K4 (T : HS) (m v : Int32 → Int32) (V0 : VT) (n : Nat) : Prop := ∀ t u a b e D, prM T n 4 t = some u → Pr4 T m V0 t a b e D → G4 T m v V0 t u a b e D ∨ Bad T u
theorem K1_s {T : HS} {m v : Int32 → Int32} {V0 : VT} {n : Nat} (hs : szM T ≤ 200) (h0 : K0 T m v V0 n) (h3 : K3 T m v V0 n) : K1 T m v V0 (n + 1) := fun t u a b D he hp => by
  obtain ⟨w, e1, e2⟩ := prM_1.mp he
  obtain ⟨⟨hw, hd, hD8, hS⟩, -, ha, hb, hsd⟩ := id hp
  rcases h0 t w a b D e1 hp with ⟨⟨g1, g2, ⟨g3, g4, g5⟩, g6⟩, f, g7, g8⟩ | g
  · have hcl := cl_le f b
    rcases h3 w u a (cl f b) D e2 ⟨⟨g1, g3.trans hd, hD8, g2⟩, g7, ha, by omega, by omega⟩ with ⟨⟨k1, k2, ⟨k3, k4, k5⟩⟩, k6, gg, k7, k8⟩ | k
    · left
      refine ⟨⟨⟨k1, k2, ⟨k3.trans g3, by omega, by omega⟩, ?_⟩, (f && gg), ?_, g8.join k8 g6⟩, k6⟩
      · have := k8.1.1; omega
      · rw [← cl_cl]; exact k7
    · exact Or.inr k
  · right
    rw [pr3_w e2 (g.ne hs)]
    exact g
theorem K3_s {T : HS} {m v : Int32 → Int32} {V0 : VT} {n : Nat} (hs : szM T ≤ 200) (h0 : K0 T m v V0 n) (h3 : K3 T m v V0 n) : K3 T m v V0 (n + 1) := fun t u a b D he hp => by
  obtain ⟨⟨hw, hd, hD8, hS⟩, hP, ha, hb, hsd⟩ := id hp
  have sq := hS.look
  obtain ⟨-, -, l1, l2, n32⟩ := hS.1.look
  have hV1 := vRun_look (m := m) (V0 := V0) hS.1.1
  have hid := lkP_lkP hS.1.1
  by_cases c : lkC T (lkP T t.1) = 38
  · obtain ⟨w, e1, e2⟩ := (prM_3b hw c).mp he
    generalize lkP T t.1 = q at *
    obtain ⟨w1, ec⟩ := lkC_at (T := T) (q := q) (fun z => by rw [z] at c; exact absurd c (by decide))
    rw [c] at ec
    have t1 := b_op sq.1 w1 (Or.inl ec)
    have hV2 : vRun m (mA T 43) V0 (q + 1) = vEnd m (vRun m (mA T 43) V0 t.1) := by
      show vRead m (mA T 43 q) (vRun m (mA T 43) V0 q) = _
      rw [ec, vR_and, hV1]
    have hq8 : t.2.2.2.1 ≤ 2 * (q + 1) := by omega
    rcases h0 (q + 1, t.2) w a b D e1 ⟨⟨hw, hd, hD8, t1⟩, ⟨by rw [hV2]; exact vEnd_l _ _, by rw [hV2]; exact hP.1, by rw [hV2]; exact hP.2⟩, ha, hb, hq8⟩ with ⟨⟨g1, g2, ⟨g3, g4, g5⟩, g6⟩, f, g7, g8⟩ | g
    · have g3 : w.2.2.1 = t.2.2.1 := g3
      have g4 : q + 1 ≤ w.1 := g4
      have g5 : w.2.2.2.1 + 2 * (q + 1) ≤ t.2.2.2.1 + 2 * w.1 := g5
      have hw2 := g2.1.1
      have hcl := cl_le f b
      rcases h3 (syM w 1) u a (cl f b) D e2 ⟨⟨g1, g3.trans hd, hD8, g2⟩, g7, ha, by omega, by show w.2.2.2.1 + 1 ≤ 2 * w.1; omega⟩ with ⟨⟨k1, k2, ⟨k3, k4, k5⟩⟩, k6, gg, k7, k8⟩ | k
      · left
        have k3 : u.2.2.1 = w.2.2.1 := k3
        have k4 : w.1 ≤ u.1 := k4
        have k5 : u.2.2.2.1 + 2 * w.1 ≤ w.2.2.2.1 + 1 + 2 * u.1 := k5
        refine ⟨⟨k1, k2, ⟨k3.trans g3, by omega, by omega⟩⟩, k6, (f && gg), ?_, ?_⟩
        · rw [← cl_cl]; exact k7
        · exact Cd.more (t := t) (w := w) (k := 1) (op := and) g8 (by omega) (Or.inl ⟨rfl, rfl⟩) k8
      · exact Or.inr k
    · right
      rw [pr3_w e2 (show ¬ (syM w 1).2.1 = -1 from g.ne hs)]
      exact g
  · left
    rw [prM_3n hw c] at he
    have e := (Option.some.inj he).symm
    subst e
    refine ⟨⟨hw, sq, ⟨rfl, l1, ?_⟩⟩, ⟨hid, c⟩, true, ?_, Cd.nil rfl (fun f => by cases f <;> rfl)⟩
    · show t.2.2.2.1 + 2 * t.1 ≤ t.2.2.2.1 + 2 * lkP T t.1; omega
    · show PE m (vRun m (mA T 43) V0 (lkP T t.1)) a b
      rw [hV1]; exact hP
theorem K2_s {T : HS} {m v : Int32 → Int32} {V0 : VT} {n : Nat} (hs : szM T ≤ 200) (h1 : K1 T m v V0 n) (h4 : K4 T m v V0 n) : K2 T m v V0 (n + 1) := fun t u a b D he hp ha2 hb2 => by
  obtain ⟨w, e1, e2⟩ := prM_2.mp he
  obtain ⟨⟨hw, hd, hD8, hS⟩, -, ha, hb, hsd⟩ := id hp
  have hp8 := pw8 hD8
  rcases h1 t w a b D e1 hp with ⟨⟨⟨g1, g2, ⟨g3, g4, g5⟩, g6⟩, f, g7, g8⟩, g9⟩ | g
  · have hev : 2 ^ (D + 1) % 2 = 0 := by rw [Nat.pow_succ]; omega
    have hwe : WE m (vRun m (mA T 43) V0 w.1) a b (false || f) := PE.we ha2 hb2 (by omega) (by omega) (by show PE m _ (a + 0) _; exact g7)
    rcases h4 w u a b f D e2 ⟨⟨g1, g3.trans hd, hD8, g2⟩, g9, hwe, ⟨ha2, hb2⟩, ha, hb, by omega⟩ with ⟨⟨k1, k2, ⟨k3, k4, k5⟩⟩, k6, gg, k7, k8⟩ | k
    · left
      refine ⟨⟨k1, k2, ⟨k3.trans g3, by omega, by omega⟩, ?_⟩, k6, (f || gg), k7, g8.join k8 g6⟩
      have := k8.1.1; omega
    · exact Or.inr k
  · right
    rw [pr4_w e2 (g.ne hs)]
    exact g
theorem K4_s {T : HS} {m v : Int32 → Int32} {V0 : VT} {n : Nat} (hs : szM T ≤ 200) (h1 : K1 T m v V0 n) (h4 : K4 T m v V0 n) : K4 T m v V0 (n + 1) := fun t u a b e D he hp => by
  obtain ⟨⟨hw, hd, hD8, hS⟩, ⟨hid, h38⟩, hW, ⟨ha2, hb2⟩, ha, hb, hsd⟩ := id hp
  have hp8 := pw8 hD8
  have hev : 2 ^ (D + 1) % 2 = 0 := by rw [Nat.pow_succ]; omega
  by_cases c : lkC T (lkP T t.1) = 124
  · obtain ⟨w, e1, e2⟩ := (prM_4b hw c).mp he
    rw [hid] at c e1
    obtain ⟨w1, ec⟩ := lkC_at (T := T) (q := t.1) (fun z => by rw [z] at c; exact absurd c (by decide))
    rw [c] at ec
    have t1 := b_op hS.1 w1 (Or.inr ec)
    have hV2 : vRun m (mA T 43) V0 (t.1 + 1) = vPart (vEnd m (vRun m (mA T 43) V0 t.1)) := by
      show vRead m (mA T 43 t.1) (vRun m (mA T 43) V0 t.1) = _
      rw [ec, vR_or]
    have hq8 : t.2.2.2.1 ≤ 2 * (t.1 + 1) := by omega
    have hbe := bN_le e
    rcases h1 (t.1 + 1, t.2) w (a + bN e) b D e1 ⟨⟨hw, hd, hD8, t1⟩, ⟨by rw [hV2]; exact vEnd_l _ _, by rw [hV2]; exact hW.1, by rw [hV2]; exact hW.2⟩, by omega, hb, hq8⟩ with ⟨⟨⟨g1, g2, ⟨g3, g4, g5⟩, g6⟩, f, g7, g8⟩, g9⟩ | g
    · have g3 : w.2.2.1 = t.2.2.1 := g3
      have g4 : t.1 + 1 ≤ w.1 := g4
      have g5 : w.2.2.2.1 + 2 * (t.1 + 1) ≤ t.2.2.2.1 + 2 * w.1 := g5
      have hw2 := g2.1.1
      have hwe : WE m (vRun m (mA T 43) V0 w.1) a b (e || f) := PE.we ha2 hb2 (by omega) (by omega) g7
      rcases h4 (syM w 2) u a b (e || f) D e2 ⟨⟨g1, g3.trans hd, hD8, g2⟩, g9, hwe, ⟨ha2, hb2⟩, ha, hb, by show w.2.2.2.1 + 1 ≤ 2 * w.1; omega⟩ with ⟨⟨k1, k2, ⟨k3, k4, k5⟩⟩, k6, gg, k7, k8⟩ | k
      · left
        have k3 : u.2.2.1 = w.2.2.1 := k3
        have k4 : w.1 ≤ u.1 := k4
        have k5 : u.2.2.2.1 + 2 * w.1 ≤ w.2.2.2.1 + 1 + 2 * u.1 := k5
        refine ⟨⟨k1, k2, ⟨k3.trans g3, by omega, by omega⟩⟩, k6, (f || gg), ?_, ?_⟩
        · rw [← Bool.or_assoc]; exact k7
        · exact Cd.more (t := t) (w := w) (k := 2) (op := or) g8 (by omega) (Or.inr ⟨rfl, rfl⟩) k8
      · exact Or.inr k
    · right
      rw [pr4_w e2 (show ¬ (syM w 2).2.1 = -1 from g.ne hs)]
      exact g
  · left
    rw [prM_4n hw c] at he
    rw [hid] at he c
    have e0 := (Option.some.inj he).symm
    subst e0
    refine ⟨⟨hw, hS, ⟨rfl, Nat.le_refl _, ?_⟩⟩, ⟨hid, h38, c⟩, false, ?_, Cd.nil rfl (fun f => by cases f <;> rfl)⟩
    · show t.2.2.2.1 + 2 * t.1 ≤ t.2.2.2.1 + 2 * t.1; omega
    · rw [Bool.or_false]; exact hW
theorem K_all {T : HS} {m v : Int32 → Int32} {V0 : VT} (hs : szM T ≤ 200) (hby : ∀ j, j < szM T → ¬ mA T 43 j = -1) (hmv : m 99 = v 0 ∧ m 115 = v 1 ∧ m 119 = v 2 ∧ m 97 = v 3 ∧ m 112 = v 4) : ∀ n, K0 T m v V0 n ∧ K1 T m v V0 n ∧ K2 T m v V0 n ∧ K3 T m v V0 n ∧ K4 T m v V0 n
  | 0 => ⟨fun t u a b D h => (by cases h), fun t u a b D h => (by cases h), fun t u a b D h => (by cases h), fun t u a b D h => (by cases h), fun t u a b e D h => (by cases h)⟩
  | n + 1 => by
    obtain ⟨k0, k1, k2, k3, k4⟩ := K_all (V0 := V0) hs hby hmv n
    refine ⟨fun t u a b D he hp => ?_, K1_s hs k0 k3, K2_s hs k1 k4, K3_s hs k0 k3, K4_s hs k1 k4⟩
    by_cases q : lkC T (lkP T t.1) = 40 ∧ t.2.2.1 < 8
    · obtain ⟨w, e1, rfl⟩ := (prM_0b q).mp he
      exact rd_br hs hp q (fun hp2 => k2 _ _ _ _ _ e1 hp2 (by omega) (by omega))
    · rw [prM_0a q] at he
      have e0 := (Option.some.inj he).symm
      subst e0
      exact rd_cmp hs hby hmv hp q
