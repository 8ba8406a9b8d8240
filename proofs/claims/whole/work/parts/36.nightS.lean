/-! ===== the system: lots gutted; night ===== -/
def gB (cw : Nat) (m w : Int32) (s : GS) : Bool := decide ((gBeg cw m s - m).toInt ≤ w.toInt)
theorem gB_iff {cw : Nat} {m w : Int32} {s : GS} : gB cw m w s = true ↔ gOkk cw m w s := decide_eq_true_iff
/-- tag of the yard of lot q -/
def gY (S : HS) (q : Nat) : Nat := nn (sI S (fid 2 3) q)
def gutP (S : HS) (q : Nat) : GS := runF (gB (nn (sI S (fid 7 1) (200 + 2 * gY S q)) - 1) (sI S (fid 2 5) q) (cI S 13)) (gNext (nn (sI S (fid 7 1) (200 + 2 * gY S q)) - 1) (sI S (fid 2 5) q)) (nn (sI S (fid 2 4) q)) (sA S (201 + 2 * gY S q), sI S (fid 2 7) q, sI S (fid 2 9) q, sI S (fid 2 10) q)
def gut1 (S : HS) (q : Nat) (P : GS) : HS := setI (gS S (201 + 2 * gY S q) q P) (fid 2 8) q (sI S (fid 2 4) q - P.2.1)
def gut2 (S : HS) (q : Nat) (P : GS) : HS := setI (setI (gut1 S q P) (fid 8 15) 0 (cI S 15 + P.2.1)) (fid 8 16) 0 (cI S 16 + (sI S (fid 2 4) q - P.2.1))
def gutS (S : HS) (q : Nat) : HS := gut2 S q (gutP S q)
theorem gut1_I {S : HS} {q : Nat} {P : GS} {f a : Nat} (h : (f ≠ fid 2 7 ∧ f ≠ fid 2 8 ∧ f ≠ fid 2 9 ∧ f ≠ fid 2 10) ∨ a ≠ q) : sI (gut1 S q P) f a = sI S f a := by
  have g : ∀ k, (k = fid 2 7 ∨ k = fid 2 8 ∨ k = fid 2 9 ∨ k = fid 2 10) → f ≠ k ∨ a ≠ q := fun k hk => by
    rcases h with ⟨h1, h2, h3, h4⟩ | h
    · exact Or.inl (fun e => by rcases hk with z | z | z | z <;> (rw [z] at e; contradiction))
    · exact Or.inr h
  unfold gut1 gS
  rw [sI_setIn (g _ (by simp)), sI_setIn (g _ (by simp)), sI_setIn (g _ (by simp)), sI_setIn (g _ (by simp)), sI_setA]
theorem gut1_7 {S : HS} {q : Nat} {P : GS} : sI (gut1 S q P) (fid 2 7) q = P.2.1 := by
  unfold gut1 gS
  rw [sI_setIn (Or.inl (by decide)), sI_setIn (Or.inl (by decide)), sI_setIn (Or.inl (by decide)), sI_setIe]
theorem gut1_8 {S : HS} {q : Nat} {P : GS} : sI (gut1 S q P) (fid 2 8) q = sI S (fid 2 4) q - P.2.1 := sI_setIe _ _ _ _
theorem gut1_9 {S : HS} {q : Nat} {P : GS} : sI (gut1 S q P) (fid 2 9) q = P.2.2.1 := by
  unfold gut1 gS
  rw [sI_setIn (Or.inl (by decide)), sI_setIn (Or.inl (by decide)), sI_setIe]
theorem gut1_10 {S : HS} {q : Nat} {P : GS} : sI (gut1 S q P) (fid 2 10) q = P.2.2.2 := by
  unfold gut1 gS
  rw [sI_setIn (Or.inl (by decide)), sI_setIe]
theorem gut1_sh {S : HS} {q : Nat} {P : GS} (h : ShC S) : ShC (gut1 S q P) := (((h.setA.setI (by decide)).setI (by decide)).setI (by decide)).setI (by decide)
theorem gutS_sh {S : HS} {q : Nat} (h : ShC S) : ShC (gutS S q) := (gut1_sh h).same rfl rfl rfl (by unfold gutS gut2; rw [sI_setIn (Or.inl (by decide)), sI_setIn (Or.inl (by decide))]) (by unfold gutS gut2; rw [sI_setIn (Or.inl (by decide)), sI_setIn (Or.inl (by decide))]) (by unfold gutS gut2; rw [sI_setIn (Or.inl (by decide)), sI_setIn (Or.inl (by decide))])
theorem gutS_I {S : HS} {q f a : Nat} (h : f ≠ fid 2 7 ∧ f ≠ fid 2 8 ∧ f ≠ fid 2 9 ∧ f ≠ fid 2 10) (h5 : f ≠ fid 8 15 ∧ f ≠ fid 8 16) : sI (gutS S q) f a = sI S f a := by
  unfold gutS gut2
  rw [sI_setIn (Or.inl h5.2), sI_setIn (Or.inl h5.1), gut1_I (Or.inl h)]
/-- crews and lots are in order -/
def InvG (S : HS) : Prop := (∀ j, j < nn (cI S 10) → 1 ≤ (sI S (fid 7 1) (200 + 2 * j)).toInt ∧ (sI S (fid 7 1) (200 + 2 * j)).toInt ≤ 6) ∧ ∀ k, k < nn (cI S 11) → (0 ≤ (sI S (fid 2 3) (1000 + k)).toInt ∧ (sI S (fid 2 3) (1000 + k)).toInt < (cI S 10).toInt) ∧ 0 ≤ (sI S (fid 2 4) (1000 + k)).toInt
theorem InvG.same {S S2 : HS} (h : InvG S) (h1 : ∀ a, sI S2 (fid 7 1) a = sI S (fid 7 1) a) (h2 : ∀ a, sI S2 (fid 2 3) a = sI S (fid 2 3) a) (h3 : ∀ a, sI S2 (fid 2 4) a = sI S (fid 2 4) a) (h4 : cI S2 10 = cI S 10) (h5 : cI S2 11 = cI S 11) : InvG S2 := by
  unfold InvG
  rw [h4, h5]
  exact ⟨fun j hj => by rw [h1]; exact h.1 j hj, fun k hk => by rw [h2, h3]; exact h.2 k hk⟩
theorem gutS_inv {S : HS} {q : Nat} (h : InvG S) : InvG (gutS S q) := h.same (fun a => gutS_I (by decide) (by decide)) (fun a => gutS_I (by decide) (by decide)) (fun a => gutS_I (by decide) (by decide)) (gutS_I (by decide) (by decide)) (gutS_I (by decide) (by decide))
def glS (S : HS) (fr : Nat) : Nat → HS
  | 0 => S
  | i + 1 => gutS (glS S fr i) (1000 + (fr + i))
theorem glS_sh {S : HS} {fr : Nat} (h : ShC S) : ∀ i, ShC (glS S fr i)
  | 0 => h
  | i + 1 => gutS_sh (glS_sh h i)
theorem glS_inv {S : HS} {fr : Nat} (h : InvG S) : ∀ i, InvG (glS S fr i)
  | 0 => h
  | i + 1 => gutS_inv (glS_inv h i)
theorem glS_I {S : HS} {fr f a : Nat} (h : f ≠ fid 2 7 ∧ f ≠ fid 2 8 ∧ f ≠ fid 2 9 ∧ f ≠ fid 2 10) (h5 : f ≠ fid 8 15 ∧ f ≠ fid 8 16) : ∀ i, sI (glS S fr i) f a = sI S f a
  | 0 => rfl
  | i + 1 => by
    show sI (gutS (glS S fr i) _) f a = _
    rw [gutS_I h h5, glS_I h h5 i]
theorem bbF_pos {rl bd : Nat → Int32} : ∀ n, (bbF rl bd n).1 = -1 ∨ ∃ j, j < n ∧ (bbF rl bd n).1 = nI j ∧ 0 < (rl j).toInt
  | 0 => Or.inl rfl
  | n + 1 => by
    unfold bbF
    split
    · rename_i q; exact Or.inr ⟨n, by omega, rfl, q.1⟩
    · rcases bbF_pos n with q | ⟨j, h1, h2, h3⟩
      · exact Or.inl q
      · exact Or.inr ⟨j, by omega, h2, h3⟩
theorem buyS_room {S : HS} (h : ShC S) (hb : 0 ≤ (buyS S).toInt) : 0 < (sI S (fid 7 4) (200 + 2 * nn (buyS S))).toInt := by
  have hy := h.y
  rcases bbF_pos (rl := fun j => sI S (fid 7 4) (200 + 2 * j)) (bd := fun j => sI S (fid 7 3) (200 + 2 * j)) (nn (cI S 10)) with q | ⟨j, h1, h2, h3⟩
  · exfalso
    rw [show buyS S = -1 from q] at hb
    exact absurd hb (by decide)
  · have e : nn (buyS S) = j := by
      have : (nI j).toInt = j := nI_toInt (by unfold nn at h1; omega)
      rw [show buyS S = nI j from h2]
      unfold nn
      omega
    rw [e]
    exact h3
theorem slH_inv {S : HS} {b : Nat} {m x : Int32} (h : ShC S) (hi : InvG S) (hc : slC S x) : InvG (slH S b m x) := by
  have hl := h.l
  have hr := buyS_room h hc.2.1.1
  have hT := newL_T (S := S) (a := cI S 12) (b := nI b) (c := sI S (fid 0 3) (100 + 3 * b)) (e := buyS S) (f := slN S x) (g := m) (i := sI S (fid 7 3) (200 + 2 * nn (buyS S)))
  have i3 : ∀ {f a : Nat}, f ≠ fid 7 4 → f ≠ fid 0 6 → a ≠ 1000 + nn (cI S 11) → (f ≠ fid 8 11 ∨ a ≠ 0) → sI (slH S b m x) f a = sI S f a := fun h1 h2 h3 h4 => by
    unfold slH
    rw [sI_setIn (Or.inl h2), sI_setIn (Or.inl h1), newL_I h3 h4]
  have iT : ∀ {f : Nat}, f ≠ fid 7 4 → f ≠ fid 0 6 → sI (slH S b m x) f (1000 + nn (cI S 11)) = sI (newL S (cI S 12) (nI b) (sI S (fid 0 3) (100 + 3 * b)) (buyS S) (slN S x) m (sI S (fid 7 3) (200 + 2 * nn (buyS S)))) f (1000 + nn (cI S 11)) := fun h1 h2 => by
    unfold slH
    rw [sI_setIn (Or.inl h2), sI_setIn (Or.inl h1)]
  have e10 : cI (slH S b m x) 10 = cI S 10 := i3 (by decide) (by decide) (by omega) (Or.inl (by decide))
  have e11 : cI (slH S b m x) 11 = cI S 11 + 1 := by
    show sI (slH S b m x) (fid 8 11) 0 = _
    unfold slH
    rw [sI_setIn (Or.inl (by decide)), sI_setIn (Or.inl (by decide)), newL_11]
  have n11 : nn (cI S 11 + 1) = nn (cI S 11) + 1 := by
    unfold nn
    have : (1 : Int32).toInt = 1 := rfl
    rw [fb_addI (by omega) (by omega)]
    omega
  have hyv := h.y
  unfold InvG
  rw [e10, e11, n11]
  refine ⟨fun j hj => ?_, fun k hk => ?_⟩
  · rw [i3 (by decide) (by decide) (by unfold nn at hj; omega) (Or.inl (by decide))]; exact hi.1 j hj
  · by_cases e : k = nn (cI S 11)
    · rw [e, iT (by decide) (by decide), iT (by decide) (by decide), hT.2.2.2.1, hT.2.2.2.2.1]
      refine ⟨hc.2.1, ?_⟩
      unfold slN
      have := hc.1
      split <;> omega
    · rw [i3 (by decide) (by decide) (by omega) (Or.inl (by decide)), i3 (by decide) (by decide) (by omega) (Or.inl (by decide))]
      exact hi.2 k (by omega)
theorem slI_inv {S : HS} {b : Nat} {m x : Int32} (h : ShC S) (hi : InvG S) : ∀ {k : Nat}, (∀ j, j < k → slC (slI b m S x j).1 (slI b m S x j).2) → InvG (slI b m S x k).1
  | 0, _ => hi
  | k + 1, hc => slH_inv (slI_sh h (fun j hj => hc j (by omega))) (slI_inv h hi (fun j hj => hc j (by omega))) (hc k (by omega))
theorem slF_inv {b : Nat} {m : Int32} {S : HS} (h : ShC S) (hi : InvG S) : InvG (slF b m S) := by
  obtain ⟨k, hk⟩ := slR_k b m S
  rw [← slD_E hk]
  exact (slI_inv h hi hk.2.1).same (fun a => sI_setIn (Or.inl (by decide))) (fun a => sI_setIn (Or.inl (by decide))) (fun a => sI_setIn (Or.inl (by decide))) (sI_setIn (Or.inl (by decide))) (sI_setIn (Or.inl (by decide)))
theorem saB_inv {s : Nat} {S : HS} (h : ShC S) (hi : InvG S) : ∀ b, InvG (saB s S b)
  | 0 => hi
  | b + 1 => by
    unfold saB
    by_cases q : saC (saB s S b) s b
    · rw [if_pos q]; exact slF_inv (saB_sh h b) (saB_inv h hi b)
    · rw [if_neg q]; exact saB_inv h hi b
theorem saA_inv {S : HS} (h : ShC S) (hi : InvG S) : ∀ s, InvG (saA S s)
  | 0 => hi
  | s + 1 => saB_inv (saA_sh h s) (saA_inv h hi s) _
theorem ydS_I2 {S : HS} {f : Nat} (hf : f ≠ fid 7 4) (a : Nat) : ∀ i, sI (ydS S i) f a = sI S f a
  | 0 => rfl
  | i + 1 => by
    show sI (setA (setI (ydS S i) (fid 7 4) _ _) _ _) f a = _
    rw [sI_setA, sI_setIn (Or.inl hf), ydS_I2 hf a i]
theorem haulS_I2 {S : HS} {c : Int32} {f : Nat} (hf : 64 ≤ f) (h3 : f ≠ fid 3 3) (a : Nat) : sI (haulS S c) f a = sI S f a := by
  have e : ∀ x m b r, sI (scr S x m b r) f a = sI S f a := fun x m b r => by
    show sI (setI S (fid 3 3) 11 x) f a = _
    rw [sI_setIn (Or.inl h3)]
  unfold haulS
  split
  · exact e _ _ _ _
  · exact (tkS_I hf a _).trans (e _ _ _ _)
theorem heS_I2 {g : Int32} {S : HS} {f : Nat} (hf : 64 ≤ f) (h3 : f ≠ fid 3 3) (a : Nat) : ∀ i, sI (heS g S i).1 f a = sI S f a
  | 0 => rfl
  | i + 1 => by
    show sI (if _ then _ else _ : HS × Int32).1 f a = _
    split
    · exact heS_I2 hf h3 a i
    · exact (haulS_I2 hf h3 a).trans (heS_I2 hf h3 a i)
/-- the shoals moved -/
def mvS (S : HS) : HS := setI (setA (setA S 4 (chg (sA S 2) (sI S (fid 4 3) 1) (fillR (fun _ => 0) (sA S 4) 36) 36)) 2 (fillR (fun j => mn4 ((sA S 2) j + (chg (sA S 2) (sI S (fid 4 3) 1) (fillR (fun _ => 0) (sA S 4) 36) 36) j)) (sA S 2) 36)) (fid 4 4) 1 (gone (sA S 2) (chg (sA S 2) (sI S (fid 4 3) 1) (fillR (fun _ => 0) (sA S 4) 36) 36) (sI S (fid 4 4) 1) 36)
theorem mvS_sh {S : HS} (h : ShC S) : ShC (mvS S) := (h.setA.setA).setI (by decide)
theorem mvS_I {S : HS} {f : Nat} (hf : f ≠ fid 4 4) (a : Nat) : sI (mvS S) f a = sI S f a := sI_setIn (Or.inl hf)
/-- the night's hauls -/
def n1S (g : Int32) (S : HS) : HS := ydS (bnS g S (nn (cI S 9))) (nn (cI S 10))
def n2S (g : Int32) (S : HS) : HS := setI (heS g (n1S g S) 36).1 (fid 8 14) 0 (sI (heS g (n1S g S) 36).1 (fid 8 14) 0 + (heS g (n1S g S) 36).2)
def n3S (g : Int32) (S : HS) : HS := saA (mvS (n2S g S)) 11
def n4S (g : Int32) (S : HS) : HS := glS (n3S g S) (nn (cI S 11)) (nn (cI (n3S g S) 11) - nn (cI S 11))
def n5S (g : Int32) (S : HS) : HS := setI (n4S g S) (fid 8 12) 0 (cI (n4S g S) 12 + 1)
theorem n1S_sh {g : Int32} {S : HS} (h : ShC S) : ShC (n1S g S) := ydS_sh (bnS_sh h _) _
theorem n2S_sh {g : Int32} {S : HS} (h : ShC S) : ShC (n2S g S) := (heS_sh (n1S_sh h) 36).same rfl rfl rfl (sI_setIn (Or.inl (by decide))) (sI_setIn (Or.inl (by decide))) (sI_setIn (Or.inl (by decide)))
theorem n1S_I {g : Int32} {S : HS} {f : Nat} (hf : 64 ≤ f) (h7 : f ≠ fid 7 4) (a : Nat) : sI (n1S g S) f a = sI S f a := (ydS_I2 h7 a _).trans (bnS_I hf a _)
theorem n2S_I {g : Int32} {S : HS} {f : Nat} (hf : 64 ≤ f) (h7 : f ≠ fid 7 4) (h3 : f ≠ fid 3 3) (h14 : f ≠ fid 8 14) (a : Nat) : sI (n2S g S) f a = sI S f a := by
  show sI (setI (heS g (n1S g S) 36).1 (fid 8 14) 0 _) f a = _
  rw [sI_setIn (Or.inl h14), heS_I2 hf h3, n1S_I hf h7]
theorem mvS_inv {g : Int32} {S : HS} (hi : InvG S) : InvG (mvS (n2S g S)) := hi.same (fun a => (mvS_I (by decide) a).trans (n2S_I (by decide) (by decide) (by decide) (by decide) a)) (fun a => (mvS_I (by decide) a).trans (n2S_I (by decide) (by decide) (by decide) (by decide) a)) (fun a => (mvS_I (by decide) a).trans (n2S_I (by decide) (by decide) (by decide) (by decide) a)) ((mvS_I (by decide) 0).trans (n2S_I (by decide) (by decide) (by decide) (by decide) 0)) ((mvS_I (by decide) 0).trans (n2S_I (by decide) (by decide) (by decide) (by decide) 0))
theorem n3S_sh {g : Int32} {S : HS} (h : ShC S) : ShC (n3S g S) := saA_sh (mvS_sh (n2S_sh h)) 11
theorem n3S_inv {g : Int32} {S : HS} (h : ShC S) (hi : InvG S) : InvG (n3S g S) := saA_inv (mvS_sh (n2S_sh h)) (mvS_inv hi) 11
theorem slH_11 {S : HS} {b : Nat} {m x : Int32} : cI (slH S b m x) 11 = cI S 11 + 1 := by
  show sI (slH S b m x) (fid 8 11) 0 = _
  unfold slH
  rw [sI_setIn (Or.inl (by decide)), sI_setIn (Or.inl (by decide)), newL_11]
theorem slI_11 {S : HS} (h : ShC S) {b : Nat} {m x : Int32} : ∀ {k : Nat}, (∀ j, j < k → slC (slI b m S x j).1 (slI b m S x j).2) → (cI S 11).toInt ≤ (cI (slI b m S x k).1 11).toInt
  | 0, _ => Int.le_refl _
  | k + 1, hc => by
    have ih := slI_11 h (k := k) (fun j hj => hc j (by omega))
    have hl := (slI_sh h (k := k) (fun j hj => hc j (by omega))).l
    have hc2 := (hc k (by omega)).2.2
    show _ ≤ (cI (slH (slI b m S x k).1 b m (slI b m S x k).2) 11).toInt
    have : (1 : Int32).toInt = 1 := rfl
    rw [slH_11, fb_addI (by omega) (by omega)]
    omega
theorem slF_11 {S : HS} (h : ShC S) {b : Nat} {m : Int32} : (cI S 11).toInt ≤ (cI (slF b m S) 11).toInt := by
  obtain ⟨k, hk⟩ := slR_k b m S
  rw [← slD_E hk]
  unfold slE
  rw [show cI (setI (slI b m S (sI S (fid 0 5) (100 + 3 * b)) k).1 (fid 8 17) 0 (sI (slI b m S (sI S (fid 0 5) (100 + 3 * b)) k).1 (fid 8 17) 0 + (slI b m S (sI S (fid 0 5) (100 + 3 * b)) k).2)) 11 = cI (slI b m S (sI S (fid 0 5) (100 + 3 * b)) k).1 11 from sI_setIn (Or.inl (by decide))]
  exact slI_11 h hk.2.1
theorem saB_11 {S : HS} (h : ShC S) {s : Nat} : ∀ b, (cI S 11).toInt ≤ (cI (saB s S b) 11).toInt
  | 0 => Int.le_refl _
  | b + 1 => by
    have ih := saB_11 h (s := s) b
    unfold saB
    by_cases q : saC (saB s S b) s b
    · rw [if_pos q]; exact Int.le_trans ih (slF_11 (saB_sh h b))
    · rw [if_neg q]; exact ih
theorem saA_11 {S : HS} (h : ShC S) : ∀ s, (cI S 11).toInt ≤ (cI (saA S s) 11).toInt
  | 0 => Int.le_refl _
  | s + 1 => Int.le_trans (saA_11 h s) (saB_11 (saA_sh h s) _)
theorem n3S_11 {g : Int32} {S : HS} (h : ShC S) : (cI S 11).toInt ≤ (cI (n3S g S) 11).toInt := by
  have := saA_11 (mvS_sh (n2S_sh (g := g) h)) 11
  rw [show cI (mvS (n2S g S)) 11 = cI S 11 from (mvS_I (by decide) 0).trans (n2S_I (by decide) (by decide) (by decide) (by decide) 0)] at this
  exact this
set_option maxHeartbeats 4000000 in
theorem c_X8_gutLot {l : Launch} {G : va_G} {cy : Nat → ClassId} (q : Nat) (S : HS) (h : ShC S) (hi : InvG S) (hq : q < nn (cI S 11)) : Cn l G cy yX8_gutLot cX8_gutLot 3 none 3 [.ref 0, .ref (1000 + q)] S 0 0 (qV (fun S2 => S2 = gutS S (1000 + q))) := by
  refine Cn.of [some (.ref 0), some (.ref (1000 + q)), none] (by decide) rfl (Nat.le_of_ble_eq_true rfl) ?_
  have hlv := h.l
  have hyv := h.y
  have hkl : tk (1000 + q) = 2 := tkLo (by unfold nn at hq; omega)
  obtain ⟨hyr, hcr⟩ := hi.2 q hq
  have hgy : gY S (1000 + q) < nn (cI S 10) := by unfold gY nn; omega
  have hg4 : gY S (1000 + q) < 4 := by unfold nn at hgy; omega
  have hky := tkY hg4
  refine r_aload_n dX8_gutLot_0 rfl rfl ?_
  refine r_aload_n dX8_gutLot_1 rfl rfl ?_
  refine r_getI dX8_gutLot_2 lf_X8_214 rfl (by first | assumption | rfl) ?_
  refine r_invV1r dX8_gutLot_5 lm_X8_111 rfl (c_X8_yardAt (sI S (fid 2 3) (1000 + q)) S h) (Nat.le_of_ble_eq_true rfl) (Nat.le_of_ble_eq_true rfl) (Nat.zero_le _) (Nat.zero_le _) (fun r5 S5 hq5 => ?_)
  obtain ⟨hr5, hz5⟩ := hq5
  replace hz5 := hz5.symm
  subst hz5
  rw [if_pos hyr] at hr5
  replace hr5 : r5 = some (200 + 2 * gY S (1000 + q)) := hr5
  subst hr5
  refine r_ast2 dX8_gutLot_8 (Nat.le_of_ble_eq_true rfl) rfl ?_
  refine r_aload_n dX8_gutLot_9 rfl rfl ?_
  refine r_ifnonnull 14 dX8_gutLot_10 (by decide) ?_
  refine r_aload_n dX8_gutLot_14 rfl rfl ?_
  refine r_aload_n dX8_gutLot_15 rfl rfl ?_
  refine r_aload_n dX8_gutLot_16 rfl rfl ?_
  refine r_getI dX8_gutLot_17 lf_X8_66 rfl rfl ?_
  refine r_invV2v dX8_gutLot_20 lm_X8_299 (by first | assumption | rfl) (c_X7_gut (200 + 2 * gY S (1000 + q)) (201 + 2 * gY S (1000 + q)) (1000 + q) (cI S 13) S hky (h.rY hgy).2 (by have := h.lY hgy (show 1 < 2 by decide); rw [show 201 + 2 * gY S (1000 + q) = 200 + 1 + 2 * gY S (1000 + q) by omega]; exact this) (tkYf hg4) (tnYf hg4) (hi.1 _ hgy) hkl hcr) (Nat.le_of_ble_eq_true rfl) (Nat.le_of_ble_eq_true rfl) (Nat.zero_le _) (Nat.zero_le _) (fun S20 hq20 => ?_)
  obtain ⟨N, hn1, hn2, hn3, hz20⟩ := hq20
  have eP : gIt (nn (sI S (fid 7 1) (200 + 2 * gY S (1000 + q))) - 1) (sI S (fid 2 5) (1000 + q)) (sA S (201 + 2 * gY S (1000 + q)), sI S (fid 2 7) (1000 + q), sI S (fid 2 9) (1000 + q), sI S (fid 2 10) (1000 + q)) N = (gutP S (1000 + q)) := by
    have := runF_eq (c := gB (nn (sI S (fid 7 1) (200 + 2 * gY S (1000 + q))) - 1) (sI S (fid 2 5) (1000 + q)) (cI S 13)) (f := gNext (nn (sI S (fid 7 1) (200 + 2 * gY S (1000 + q))) - 1) (sI S (fid 2 5) (1000 + q))) (it := gIt (nn (sI S (fid 7 1) (200 + 2 * gY S (1000 + q))) - 1) (sI S (fid 2 5) (1000 + q)) (sA S (201 + 2 * gY S (1000 + q)), sI S (fid 2 7) (1000 + q), sI S (fid 2 9) (1000 + q), sI S (fid 2 10) (1000 + q))) (fun _ => rfl) (nn (sI S (fid 2 4) (1000 + q))) N 0 hn1 (fun i hi => by rw [Nat.zero_add]; exact gB_iff.mpr (hn2 i hi)) (by
      rcases hn3 with z | z
      · exact Or.inl z
      · exact Or.inr (by rw [Nat.zero_add]; exact fun w => z (gB_iff.mp w)))
    rw [Nat.zero_add] at this
    exact this.symm
  rw [eP] at hz20
  replace hz20 : S20 = gut1 S (1000 + q) (gutP S (1000 + q)) := hz20
  subst hz20
  have g15 : sI (gut1 S (1000 + q) (gutP S (1000 + q))) (fid 8 15) 0 = cI S 15 := gut1_I (Or.inl (by decide))
  have g16 : sI (gut1 S (1000 + q) (gutP S (1000 + q))) (fid 8 16) 0 = cI S 16 := gut1_I (Or.inl (by decide))
  refine r_aload_n dX8_gutLot_23 rfl rfl ?_
  refine r_dup dX8_gutLot_24 rfl ?_
  refine r_getI dX8_gutLot_25 lf_X8_242 rfl rfl ?_
  rw [g15]
  refine r_aload_n dX8_gutLot_28 rfl rfl ?_
  refine r_getI dX8_gutLot_29 lf_X8_219 rfl (by first | assumption | rfl) ?_
  rw [gut1_7]
  refine r_iadd dX8_gutLot_32 ?_
  refine r_putI dX8_gutLot_33 (lp_X8_242 _) rfl rfl ?_
  refine r_aload_n dX8_gutLot_36 rfl rfl ?_
  refine r_dup dX8_gutLot_37 rfl ?_
  refine r_getI dX8_gutLot_38 lf_X8_245 rfl rfl ?_
  rw [sI_setIn (Or.inl (by decide)), g16]
  refine r_aload_n dX8_gutLot_41 rfl rfl ?_
  refine r_getI dX8_gutLot_42 lf_X8_222 rfl (by first | assumption | rfl) ?_
  rw [sI_setIn (Or.inl (by decide)), gut1_8]
  refine r_iadd dX8_gutLot_45 ?_
  refine r_putI dX8_gutLot_46 (lp_X8_245 _) rfl rfl ?_
  exact r_vret dX8_gutLot_49 rfl (Nat.zero_le _) (Nat.zero_le _) ⟨rfl, rfl⟩
set_option maxHeartbeats 4000000 in
theorem c_X8_gutLotsFrom {l : Launch} {G : va_G} {cy : Nat → ClassId} (fr : Nat) (S : HS) (h : ShC S) (hi0 : InvG S) (hfr : fr ≤ nn (cI S 11)) : Cn l G cy yX8_gutLotsFrom cX8_gutLotsFrom 4 none 4 [.ref 0, .int (nI fr)] S 0 0 (qV (fun S2 => S2 = glS S fr (nn (cI S 11) - fr))) := by
  refine Cn.of [some (.ref 0), some (.int (nI fr)), none, none] (by decide) rfl (Nat.le_of_ble_eq_true rfl) ?_
  have hlv := h.l
  have hlI : nI (nn (cI S 11)) = cI S 11 := nI_nn hlv.1
  refine r_iload_n dX8_gutLotsFrom_0 rfl rfl ?_
  refine r_ist2 dX8_gutLotsFrom_1 (Nat.le_of_ble_eq_true rfl) rfl ?_
  refine R.for (α := Option Value) (nn (cI S 11) - fr) (fun i a => [some (.ref 0), some (.int (nI fr)), some (.int (nI (fr + i))), a]) (fun i a => (glS S fr i)) (fun i a => True) ?_ ?_ 0 none (Nat.zero_le _) trivial
  · intro a hI
    have hsh := glS_sh (fr := fr) h (nn (cI S 11) - fr)
    have e11 : sI (glS S fr (nn (cI S 11) - fr)) (fid 8 11) 0 = cI S 11 := glS_I (by decide) (by decide) _
    refine r_iload_n dX8_gutLotsFrom_2 rfl rfl ?_
    refine r_aload_n dX8_gutLotsFrom_3 rfl rfl ?_
    refine r_getI dX8_gutLotsFrom_4 lf_X8_121 rfl rfl ?_
    refine r_icmp_ge 31 dX8_gutLotsFrom_7 (by decide) (fun q7 => ?_) (fun q7 => ?_)
    · skip
      exact r_vret dX8_gutLotsFrom_31 rfl (Nat.zero_le _) (Nat.zero_le _) ⟨rfl, rfl⟩
    · skip
      exact absurd (by rw [e11, show fr + (nn (cI S 11) - fr) = nn (cI S 11) by omega, hlI]; exact Int32.le_refl _) q7
  · intro i a hi hI ih
    have hii : (nI (fr + i)).toInt = ((fr + i : Nat) : Int) := nI_toInt (by unfold nn at *; omega)
    have hjn : nn (nI (fr + i)) = fr + i := by unfold nn; omega
    have hsh := glS_sh (fr := fr) h i
    have hin := glS_inv (fr := fr) hi0 i
    have e11 : sI (glS S fr i) (fid 8 11) 0 = cI S 11 := glS_I (by decide) (by decide) _
    have e1 : glS S fr (i + 1) = gutS (glS S fr i) (1000 + (fr + i)) := rfl
    rw [e1] at ih
    generalize glS S fr i = Z at ih hsh hin e11 e1 ⊢
    refine r_iload_n dX8_gutLotsFrom_2 rfl rfl ?_
    refine r_aload_n dX8_gutLotsFrom_3 rfl rfl ?_
    refine r_getI dX8_gutLotsFrom_4 lf_X8_121 rfl rfl ?_
    refine r_icmp_ge 31 dX8_gutLotsFrom_7 (by decide) (fun q7 => ?_) (fun q7 => ?_)
    · skip
      exact absurd q7 (by rw [e11, ← hlI, fa_le, hii, nI_toInt (by unfold nn; omega)]; omega)
    · skip
      refine r_aload_n dX8_gutLotsFrom_10 rfl rfl ?_
      refine r_iload_n dX8_gutLotsFrom_11 rfl rfl ?_
      refine r_invV1r dX8_gutLotsFrom_12 lm_X8_163 rfl (c_X8_lotAt (nI (fr + i)) Z hsh) (Nat.le_of_ble_eq_true rfl) (Nat.le_of_ble_eq_true rfl) (Nat.zero_le _) (Nat.zero_le _) (fun r12 S12 hq12 => ?_)
      obtain ⟨hr12, hz12⟩ := hq12
      replace hz12 := hz12.symm
      subst hz12
      rw [if_pos (show 0 ≤ (nI (fr + i)).toInt ∧ (nI (fr + i)).toInt < (cI Z 11).toInt from ⟨by omega, by rw [show cI Z 11 = cI S 11 from e11, hii]; unfold nn at hi; omega⟩), hjn] at hr12
      subst hr12
      refine r_ast3 dX8_gutLotsFrom_15 (Nat.le_of_ble_eq_true rfl) rfl ?_
      refine r_aload_n dX8_gutLotsFrom_16 rfl rfl ?_
      refine r_ifnull dX8_gutLotsFrom_17 ?_
      refine r_aload_n dX8_gutLotsFrom_20 rfl rfl ?_
      refine r_aload_n dX8_gutLotsFrom_21 rfl rfl ?_
      refine r_invV1v dX8_gutLotsFrom_22 lm_X8_295 rfl (c_X8_gutLot (fr + i) Z hsh hin (by rw [show cI Z 11 = cI S 11 from e11]; omega)) (Nat.le_of_ble_eq_true rfl) (Nat.le_of_ble_eq_true rfl) (Nat.zero_le _) (Nat.zero_le _) (fun S22 hq22 => ?_)
      replace hq22 := hq22.symm
      subst hq22
      refine r_in2 dX8_gutLotsFrom_25 (show _ + Int32.ofInt 1 = _ + 1 from rfl) (Nat.le_of_ble_eq_true rfl) rfl ?_
      refine r_goto 2 dX8_gutLotsFrom_28 (by decide) ?_
      rw [nI_1 (fr + i)]
      exact ih (some (.ref (1000 + (fr + i)))) trivial
set_option maxHeartbeats 4000000 in
theorem c_X8_night {l : Launch} {G : va_G} {cy : Nat → ClassId} (g : Int32) (S : HS) (h : ShC S) (hi : InvG S) : Cn l G cy yX8_night cX8_night 4 (some .int) 5 [.ref 0, .int g] S 528 5808 (qI (fun r S2 => (r = if (cI S 12).toInt < 300 then (heS g (n1S g S) 36).2 else -1) ∧ S2 = if (cI S 12).toInt < 300 then n5S g S else S)) := by
  refine Cn.of [some (.ref 0), some (.int g), none, none] (by decide) rfl (Nat.le_of_ble_eq_true rfl) ?_
  refine r_aload_n dX8_night_0 rfl rfl ?_
  refine r_getI dX8_night_1 lf_X8_118 rfl rfl ?_
  refine r_sipush (v := 300) dX8_night_4 (by decide) ?_
  refine r_icmp_lt 12 dX8_night_7 (by decide) (fun q7 => ?_) (fun q7 => ?_)
  · skip
    have hc : (cI S 12).toInt < 300 := by rw [fa_lt] at q7; exact q7
    have hs1 := n1S_sh (g := g) h
    have hs2 := n2S_sh (g := g) h
    have hs3 := n3S_sh (g := g) h
    have hlv := h.l
    refine r_aload_n dX8_night_12 rfl rfl ?_
    refine r_getI dX8_night_13 lf_X8_121 rfl rfl ?_
    refine r_ist2 dX8_night_16 (Nat.le_of_ble_eq_true rfl) rfl ?_
    refine r_aload_n dX8_night_17 rfl rfl ?_
    refine r_iload_n dX8_night_18 rfl rfl ?_
    refine r_invV1v dX8_night_19 lm_X8_124 rfl (c_X8_beginNight g S h) (Nat.le_of_ble_eq_true rfl) (Nat.le_of_ble_eq_true rfl) (Nat.le_of_ble_eq_true rfl) (Nat.le_of_ble_eq_true rfl) (fun S19 hq19 => ?_)
    replace hq19 : S19 = n1S g S := hq19
    subst hq19
    refine r_aload_n dX8_night_22 rfl rfl ?_
    refine r_iload_n dX8_night_23 rfl rfl ?_
    refine r_invV1i dX8_night_24 lm_X8_128 rfl (c_X8_haulEverywhere g (n1S g S) hs1) (Nat.le_of_ble_eq_true rfl) (Nat.le_of_ble_eq_true rfl) (Nat.le_of_ble_eq_true rfl) (Nat.le_of_ble_eq_true rfl) (fun r24 S24 hq24 => ?_)
    obtain ⟨hr24, hz24⟩ := hq24
    replace hz24 : S24 = n2S g S := hz24
    subst hz24
    subst hr24
    refine r_ist3 dX8_night_27 (Nat.le_of_ble_eq_true rfl) rfl ?_
    refine r_aload_n dX8_night_28 rfl rfl ?_
    refine r_getR dX8_night_29 lf_X8_12 rfl rfl (shR8_0 hs2.F) (shL_1 hs2.F) ?_
    refine r_invV0v dX8_night_32 lm_X8_132 rfl (c_X4_moveShoals (n2S g S) hs2.F) (Nat.le_of_ble_eq_true rfl) (Nat.le_of_ble_eq_true rfl) (Nat.le_of_ble_eq_true rfl) (Nat.le_of_ble_eq_true rfl) (fun S32 hq32 => ?_)
    replace hq32 : S32 = mvS (n2S g S) := hq32
    subst hq32
    refine r_aload_n dX8_night_35 rfl rfl ?_
    refine r_invV0v dX8_night_36 lm_X8_135 rfl (c_X8_sellAllCatches (mvS (n2S g S)) (mvS_sh hs2)) (Nat.le_of_ble_eq_true rfl) (Nat.le_of_ble_eq_true rfl) (Nat.le_of_ble_eq_true rfl) (Nat.le_of_ble_eq_true rfl) (fun S36 hq36 => ?_)
    replace hq36 : S36 = n3S g S := hq36
    subst hq36
    refine r_aload_n dX8_night_39 rfl rfl ?_
    refine r_iload_n dX8_night_40 rfl rfl ?_
    rw [show sI S (fid 8 11) 0 = nI (nn (cI S 11)) from (nI_nn hlv.1).symm]
    refine r_invV1v dX8_night_41 lm_X8_138 rfl (c_X8_gutLotsFrom (nn (cI S 11)) (n3S g S) hs3 (n3S_inv h hi) (by have := n3S_11 (g := g) h; unfold nn; omega)) (Nat.le_of_ble_eq_true rfl) (Nat.le_of_ble_eq_true rfl) (Nat.le_of_ble_eq_true rfl) (Nat.le_of_ble_eq_true rfl) (fun S41 hq41 => ?_)
    replace hq41 : S41 = n4S g S := hq41
    subst hq41
    refine r_aload_n dX8_night_44 rfl rfl ?_
    refine r_dup dX8_night_45 rfl ?_
    refine r_getI dX8_night_46 lf_X8_118 rfl rfl ?_
    refine r_iconst (v := 1) dX8_night_49 (by decide) ?_
    refine r_iadd dX8_night_50 ?_
    refine r_putI dX8_night_51 (lp_X8_118 _) rfl rfl ?_
    refine r_iload_n dX8_night_54 rfl rfl ?_
    exact r_iret dX8_night_55 rfl (Nat.le_of_ble_eq_true rfl) (Nat.le_of_ble_eq_true rfl) ⟨_, rfl, ⟨(if_pos hc).symm, (if_pos hc).symm⟩⟩
  · skip
    have hc : ¬ (cI S 12).toInt < 300 := fun z => q7 (by rw [fa_lt]; exact z)
    refine r_iconst (v := (-1)) dX8_night_10 (by decide) ?_
    exact r_iret dX8_night_11 rfl (Nat.le_of_ble_eq_true rfl) (Nat.le_of_ble_eq_true rfl) ⟨_, rfl, ⟨(if_neg hc).symm, (if_neg hc).symm⟩⟩
