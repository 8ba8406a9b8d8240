/-! ===== the reference: night ===== -/
theorem scM_scM (S : HS) (a b c d p q r s : Nat → Int32) : scM (scM S a b c d) p q r s = scM S p q r s := by
  show setA (setA (setA (setA (scM S a b c d) (ma 35) p) (ma 36) q) (ma 37) r) (ma 38) s = _
  rw [scM_35, scM_36, scM_37, scM_38]
theorem hmf_sc (X : HS) (a b c d : Nat → Int32) (e : Int32) : hmf (scM X a b c d) e = hmf X e := by
  funext k
  unfold hmf
  rw [scM_I, show mA (scM X a b c d) 3 = mA X 3 from scM_A (Or.inl (by decide)), show mA (scM X a b c d) 2 = mA X 2 from scM_A (Or.inl (by decide))]
theorem hsu_sc (X : HS) (a b c d : Nat → Int32) (e : Int32) : hsu (scM X a b c d) e = hsu X e := by
  unfold hsu
  rw [hmf_sc, show mA (scM X a b c d) 0 = mA X 0 from scM_A (Or.inl (by decide))]
theorem haM_sc (X : HS) (a b c d : Nat → Int32) (e : Int32) : haM (scM X a b c d) e = scM (haM X e) a b c d := by
  unfold haM
  rw [hmf_sc, hsu_sc, show mA (scM X a b c d) 5 = mA X 5 from scM_A (Or.inl (by decide)), show mA (scM X a b c d) 4 = mA X 4 from scM_A (Or.inl (by decide)), show mA (scM X a b c d) 0 = mA X 0 from scM_A (Or.inl (by decide)), scM_o _ _ _ _ _ _ (Or.inl (by decide)), scM_o _ _ _ _ _ _ (Or.inl (by decide)), scM_o _ _ _ _ _ _ (Or.inl (by decide))]
theorem haM_I (X : HS) (e : Int32) : sI (haM X e) = sI X := rfl
theorem haM_sh {X : HS} (h : ShM X) (e : Int32) : ShM (haM X e) := ((h.setA _ _).setA _ _).setA _ _
theorem haM_A {X : HS} {e : Int32} {a : Nat} (h : a ≠ ma 5 ∧ a ≠ ma 4 ∧ a ≠ ma 0) : sA (haM X e) a = sA X a := by
  unfold haM
  rw [sA_setn h.2.2, sA_setn h.2.1, sA_setn h.1]
theorem haM_0 {X : HS} {e : Int32} : sA (haM X e) (ma 0) = upd (mA X 0) e.toNatClampNeg (mA X 0 e.toNatClampNeg - nI (hsu X e)) := by
  unfold haM
  rw [sA_set]
/-- the hauls of the first i cells, and what they bring -/
def nhM (g : Int32) (X : HS) : Nat → HS × Nat
  | 0 => (X, 0)
  | i + 1 => if ¬ g = 0 ∧ ¬ mA X 1 i = 0 then nhM g X i else (haM (nhM g X i).1 (nI i), (nhM g X i).2 + hsu (nhM g X i).1 (nI i))
theorem nhM_I {g : Int32} {X : HS} : ∀ i, sI (nhM g X i).1 = sI X
  | 0 => rfl
  | i + 1 => by
    unfold nhM
    split
    · exact nhM_I i
    · exact (haM_I _ _).trans (nhM_I i)
theorem nhM_sh {g : Int32} {X : HS} (h : ShM X) : ∀ i, ShM (nhM g X i).1
  | 0 => h
  | i + 1 => by
    unfold nhM
    split
    · exact nhM_sh h i
    · exact haM_sh (nhM_sh h i) _
theorem nhM_A {g : Int32} {X : HS} {a : Nat} (h : a ≠ ma 5 ∧ a ≠ ma 4 ∧ a ≠ ma 0) : ∀ i, sA (nhM g X i).1 a = sA X a
  | 0 => rfl
  | i + 1 => by
    unfold nhM
    split
    · exact nhM_A h i
    · exact (haM_A h).trans (nhM_A h i)
theorem nhM_0 {g : Int32} {X : HS} : ∀ {i j : Nat}, i ≤ j → i ≤ 36 → mA (nhM g X i).1 0 j = mA X 0 j
  | 0, _, _, _ => rfl
  | i + 1, j, h, h2 => by
    unfold nhM
    split
    · exact nhM_0 (by omega) (by omega)
    · show sA (haM (nhM g X i).1 (nI i)) (ma 0) j = _
      rw [haM_0, nI_clamp (by omega)]
      unfold upd
      rw [if_neg (by omega)]
      exact nhM_0 (by omega) (by omega)
def nm0 (S : HS) : HS := setA S (ma 5) (fillR (fun _ => 0) (mA S 5) (nn (mI S 25)))
def nmS (g : Int32) (Z : HS) : HS := if g = 0 then Z else stS Z (nn (mI Z 25))
def nm2 (g : Int32) (Z : HS) (t : Nat) : HS := setI (nmS g Z) (fid 9 30) 2000 (mI (nmS g Z) 30 + nI t)
theorem stS_A {S : HS} {a : Nat} (h : a ≠ ma 2 ∧ a ≠ ma 7) : ∀ i, sA (stS S i) a = sA S a
  | 0 => rfl
  | i + 1 => by
    unfold stS
    split
    · rw [sA_setn h.2, sA_setn h.1, stS_A h i]
    · exact stS_A h i
theorem nmS_I (g : Int32) (Z : HS) : sI (nmS g Z) = sI Z := by
  unfold nmS
  split
  · rfl
  · exact (stS_f _).2.2.1
theorem nmS_sh {g : Int32} {Z : HS} (h : ShM Z) : ShM (nmS g Z) := by
  unfold nmS
  split
  · exact h
  · exact h.same (stS_f _).1 (stS_f _).2.1
theorem nmS_A {g : Int32} {Z : HS} {a : Nat} (h : a ≠ ma 2 ∧ a ≠ ma 7) : sA (nmS g Z) a = sA Z a := by
  unfold nmS
  split
  · rfl
  · exact stS_A h _
theorem drS_sh {S : HS} (h : ShM S) : ShM (drS S) := ((h.setA _ _).setI _ _ _).setA _ _
theorem drS_I {S : HS} {f a : Nat} (h : f ≠ fid 9 33) : sI (drS S) f a = sI S f a := by
  unfold drS
  rw [sI_setA, sI_setIn (Or.inl h), sI_setA]
theorem drS_A {S : HS} {a : Nat} (h : a ≠ ma 39 ∧ a ≠ ma 0) : sA (drS S) a = sA S a := by
  unfold drS
  rw [sA_setn h.2, sA_setI, sA_setn h.1]
def wkA (E : HS) (fr : Nat) : Nat → HS
  | 0 => E
  | y + 1 => wkY (wkA E fr y) y fr
theorem wkY_I {S : HS} {y fr f a : Nat} (h : f ≠ fid 9 31 ∧ f ≠ fid 9 32) : sI (wkY S y fr) f a = sI S f a := by
  unfold wkY
  rw [wLs_I h]
  unfold wk0
  rw [sI_setA]
theorem wkY_A {S : HS} {y fr a : Nat} (h : a ≠ ma 42 ∧ a ≠ ma 18 ∧ a ≠ ma 19 ∧ a ≠ ma 22 ∧ a ≠ ma 23) : sA (wkY S y fr) a = sA S a := by
  unfold wkY
  rw [wLs_A h]
  unfold wk0
  rw [sA_setn h.1]
theorem wkA_I {E : HS} {fr f a : Nat} (h : f ≠ fid 9 31 ∧ f ≠ fid 9 32) : ∀ i, sI (wkA E fr i) f a = sI E f a
  | 0 => rfl
  | i + 1 => by
    show sI (wkY (wkA E fr i) i fr) f a = _
    rw [wkY_I h, wkA_I h i]
theorem wkA_A {E : HS} {fr a : Nat} (h : a ≠ ma 42 ∧ a ≠ ma 18 ∧ a ≠ ma 19 ∧ a ≠ ma 22 ∧ a ≠ ma 23) : ∀ i, sA (wkA E fr i) a = sA E a
  | 0 => rfl
  | i + 1 => by
    show sA (wkY (wkA E fr i) i fr) a = _
    rw [wkY_A h, wkA_A h i]
theorem wkA_sh {E : HS} {fr : Nat} (h : ShM E) : ∀ i, ShM (wkA E fr i)
  | 0 => h
  | i + 1 => wLs_sh ((wkA_sh h i).setA _ _) _
theorem runF_inv {α : Type} {c : α → Bool} {f : α → α} {P : α → Prop} (hs : ∀ s, P s → c s = true → P (f s)) : ∀ n s, P s → P (runF c f n s)
  | 0, _, h => h
  | n + 1, s, h => by
    unfold runF
    by_cases q : c s = true
    · rw [if_pos q]; exact runF_inv hs n (f s) (hs s h q)
    · rw [if_neg q]; exact h
/-- what sales keep -/
def JM (S X : HS) : Prop := IX S X ∧ (∀ q, q < nn (mI X 27) → 0 ≤ (mA X 17 q).toInt) ∧ (mI S 27).toInt ≤ (mI X 27).toInt ∧ mA X 10 = mA S 10
theorem JM.sell {S X : HS} {b : Nat} {x : Int32} (hy : 0 ≤ (mI S 26).toInt ∧ (mI S 26).toInt ≤ 4) (h : JM S X) (hc : smC X x) : JM S (smH b X x) := by
  obtain ⟨h1, h2, h3, h4⟩ := h
  have hy2 : 0 ≤ (mI X 26).toInt ∧ (mI X 26).toInt ≤ 4 := by rw [h1.2.2.1]; exact hy
  obtain ⟨j, _, _, _, hjc, _, hj⟩ := smY_pos hy2 hc.2.1
  have hx := hc.1
  have hl := hc.2.2
  have h0 := h1.2.2.2.1
  have e : (mI X 27 + 1).toInt = (mI X 27).toInt + 1 := by rw [fb_addI (by have : (1 : Int32).toInt = 1 := rfl; omega) (by have : (1 : Int32).toInt = 1 := rfl; omega)]; rfl
  have e27 : mI (smH b X x) 27 = mI X 27 + 1 := sellS_27
  have e17 : mA (smH b X x) 17 = upd (mA X 17) (mI X 27).toNatClampNeg (smN X x) := by
    show sA (sellS X (nI b) (smY X) (smN X x)) (ma 17) = _
    unfold sellS
    rw [sA_setI, sA_setn (by decide), sA_setn (by decide), sA_set]
  have e10 : mA (smH b X x) 10 = mA X 10 := sellS_A (by decide)
  have hn : 0 ≤ (smN X x).toInt := by
    unfold smN
    rw [hjc]
    split <;> omega
  refine ⟨h1.sell hc, fun q hq => ?_, by rw [e27]; omega, e10.trans h4⟩
  rw [e17]
  rw [e27] at hq
  unfold upd
  by_cases z : q = (mI X 27).toNatClampNeg
  · rw [if_pos z]; exact hn
  · rw [if_neg z]
    refine h2 q ?_
    rw [clamp_nn] at z
    unfold nn at z hq ⊢
    omega
theorem smF_JM {S X : HS} {b : Nat} (hy : 0 ≤ (mI S 26).toInt ∧ (mI S 26).toInt ≤ 4) (h : JM S X) : JM S (smF b X) := by
  have h0 : JM S (sold1 X b) := ⟨h.1.setA _ _, fun q hq => by rw [show mA (sold1 X b) 17 = mA X 17 from sA_setn (by decide)]; exact h.2.1 q hq, h.2.2.1, (sA_setn (by decide)).trans h.2.2.2⟩
  have h2 := runF_inv (c := smB) (f := fun p => (smH b p.1 p.2, p.2 - smN p.1 p.2)) (P := fun p : HS × Int32 => JM S p.1) (fun s hs hc => JM.sell hy hs (smB_iff.mp hc)) 4 (sold1 X b, mA X 5 b) h0
  have h1 : JM S (smR b X).1 := by unfold smR; exact h2
  unfold smF
  generalize (smR b X).1 = Y at h1 ⊢
  have e : ∀ v, mI (setI Y (fid 9 34) 2000 v) 27 = mI Y 27 := fun v => sI_setIn (Or.inl (by decide))
  exact ⟨h1.1.thr _, fun q hq => by rw [e] at hq; exact h1.2.1 q hq, by rw [e]; exact h1.2.2.1, h1.2.2.2⟩
theorem smA_JM {S : HS} (h : ShM S) (hy : 0 ≤ (mI S 26).toInt ∧ (mI S 26).toInt ≤ 4) (hl : 0 ≤ (mI S 27).toInt ∧ (mI S 27).toInt ≤ 400) (hq : ∀ q, q < nn (mI S 27) → 0 ≤ (mA S 17 q).toInt) : ∀ i, JM S (smA S i)
  | 0 => by
    refine ⟨(smK_0 h hl).2.1, fun q hq2 => ?_, Int.le_refl _, ?_⟩
    · show 0 ≤ (sA (smL S) (ma 17) q).toInt
      unfold smL
      rw [sA_setn (by decide), sA_setn (by decide)]
      exact hq q hq2
    · show sA (smL S) (ma 10) = _
      unfold smL
      rw [sA_setn (by decide), sA_setn (by decide)]
  | i + 1 => smF_JM hy (smA_JM h hy hl hq i)
set_option maxHeartbeats 4000000 in
theorem c_X9_night {l : Launch} {G : va_G} {cy : Nat → ClassId} (g : Int32) (S : HS) (h : ShM S) (hb : 0 ≤ (mI S 25).toInt ∧ (mI S 25).toInt ≤ 12) (hy : 0 ≤ (mI S 26).toInt ∧ (mI S 26).toInt ≤ 4) (hl : 0 ≤ (mI S 27).toInt ∧ (mI S 27).toInt ≤ 400) (hn : ∀ b, b < 12 → 0 ≤ (mA S 2 b).toInt ∧ (mA S 2 b).toInt ≤ 60) (hcr : ∀ j, j < 36 → 0 ≤ (mA S 0 j).toInt ∧ (mA S 0 j).toInt ≤ 10000) (hce : ∀ i, i < 12 → -1 ≤ (mA S 3 i).toInt ∧ (mA S 3 i).toInt ≤ 35) (hcw : ∀ y, y < nn (mI S 26) → 1 ≤ (mA S 10 y).toInt ∧ (mA S 10 y).toInt ≤ 6) (hq17 : ∀ q, q < nn (mI S 27) → 0 ≤ (mA S 17 q).toInt) : Cn l G cy yX9_night cX9_night 5 (some .int) 3 [.ref 2000, .int g] S 0 0 (qI (fun r S2 => (mI S 24 = 300 → r = -1 ∧ S2 = S) ∧ (¬ mI S 24 = 300 → ∃ r5 r6 r7 r8 ii, r = nI (nhM g (nm0 S) 36).2 ∧ smK (drS (nm2 g (scM (nhM g (nm0 S) 36).1 r5 r6 r7 r8) (nhM g (nm0 S) 36).2)) ii ∧ smX (smA (drS (nm2 g (scM (nhM g (nm0 S) 36).1 r5 r6 r7 r8) (nhM g (nm0 S) 36).2)) ii) = -1 ∧ S2 = setI (wkA (smA (drS (nm2 g (scM (nhM g (nm0 S) 36).1 r5 r6 r7 r8) (nhM g (nm0 S) 36).2)) ii) (nn (mI S 27)) (nn (mI S 26))) (fid 9 24) 2000 (mI (wkA (smA (drS (nm2 g (scM (nhM g (nm0 S) 36).1 r5 r6 r7 r8) (nhM g (nm0 S) 36).2)) ii) (nn (mI S 27)) (nn (mI S 26))) 24 + 1)))) := by
  refine Cn.of [some (.ref 2000), some (.int g), none, none, none] (by decide) rfl (Nat.le_of_ble_eq_true rfl) ?_
  refine r_aload_n dX9_night_0 rfl rfl ?_
  refine r_getI dX9_night_1 lf_X9_183 rfl rfl ?_
  refine r_sipush (v := 300) dX9_night_4 (by decide) ?_
  refine r_icmp_ne 12 dX9_night_7 (by decide) (fun q7 => ?_) (fun q7 => ?_)
  · skip
    have hnow : ¬ mI S 24 = 300 := q7
    have hny : nn (mI S 26) ≤ 4 := by unfold nn; omega
    have hnb : nn (mI S 25) ≤ 12 := by unfold nn; omega
    have hnl : nn (mI S 27) ≤ 400 := by unfold nn; omega
    have hnyI : nI (nn (mI S 26)) = mI S 26 := nI_nn hy.1
    have hnbI : nI (nn (mI S 25)) = mI S 25 := nI_nn hb.1
    have hlI : nI (nn (mI S 27)) = mI S 27 := nI_nn hl.1
    have hsh := h
    refine R.heap (S2 := (setA S (ma 5) (fillR (fun _ => 0) (mA S 5) 0))) (setA_self S (ma 5)).symm ?_
    refine r_iconst (v := 0) dX9_night_12 (by decide) ?_
    refine r_ist2 dX9_night_13 (Nat.le_of_ble_eq_true rfl) rfl ?_
    refine r_iconst (v := 0) dX9_night_14 (by decide) ?_
    refine r_ist3 dX9_night_15 (Nat.le_of_ble_eq_true rfl) rfl ?_
    refine R.for (α := Unit) (nn (mI S 25)) (fun i a => [some (.ref 2000), some (.int g), some (.int 0), some (.int (nI i)), none]) (fun i a => (setA S (ma 5) (fillR (fun _ => 0) (mA S 5) i))) (fun i a => True) ?_ ?_ 0 () (Nat.zero_le _) trivial
    · intro a hI
      have h25 : sI (setA S (ma 5) (fillR (fun _ => 0) (mA S 5) (nn (mI S 25)))) (fid 9 25) 2000 = mI S 25 := rfl
      have hsh : ShM (setA S (ma 5) (fillR (fun _ => 0) (mA S 5) (nn (mI S 25)))) := h.setA _ _
      refine r_iload_n dX9_night_16 rfl rfl ?_
      refine r_aload_n dX9_night_17 rfl rfl ?_
      refine r_getI dX9_night_18 lf_X9_126 rfl rfl ?_
      refine r_icmp_ge 37 dX9_night_21 (by decide) (fun q21 => ?_) (fun q21 => ?_)
      · skip
        refine R.heap (S2 := scM (nm0 S) (mA (nm0 S) 35) (mA (nm0 S) 36) (mA (nm0 S) 37) (mA (nm0 S) 38)) (scM_self (nm0 S)) ?_
        refine r_iconst (v := 0) dX9_night_37 (by decide) ?_
        refine r_ist3 dX9_night_38 (Nat.le_of_ble_eq_true rfl) rfl ?_
        refine R.for (α := (Nat → Int32) × (Nat → Int32) × (Nat → Int32) × (Nat → Int32)) (36) (fun i a => [some (.ref 2000), some (.int g), some (.int (nI (nhM g (nm0 S) i).2)), some (.int (nI i)), none]) (fun i a => (scM (nhM g (nm0 S) i).1 a.1 a.2.1 a.2.2.1 a.2.2.2)) (fun i a => True) ?_ ?_ 0 (mA (nm0 S) 35, mA (nm0 S) 36, mA (nm0 S) 37, mA (nm0 S) 38) (Nat.zero_le _) trivial
        · intro a hI
          obtain ⟨r5, r6, r7, r8⟩ := a
          dsimp only
          have hsN : ShM (nhM g (nm0 S) 36).1 := nhM_sh (h.setA _ _) _
          have n1 : sA (nhM g (nm0 S) 36).1 (ma 1) = mA S 1 := (nhM_A (by decide) _).trans (sA_setn (by decide))
          have n2 : sA (nhM g (nm0 S) 36).1 (ma 2) = mA S 2 := (nhM_A (by decide) _).trans (sA_setn (by decide))
          have n3 : sA (nhM g (nm0 S) 36).1 (ma 3) = mA S 3 := (nhM_A (by decide) _).trans (sA_setn (by decide))
          have n10 : sA (nhM g (nm0 S) 36).1 (ma 10) = mA S 10 := (nhM_A (by decide) _).trans (sA_setn (by decide))
          have n17 : sA (nhM g (nm0 S) 36).1 (ma 17) = mA S 17 := (nhM_A (by decide) _).trans (sA_setn (by decide))
          have nI0 : sI (nhM g (nm0 S) 36).1 = sI S := (nhM_I _).trans rfl
          generalize hNN : (nhM g (nm0 S) 36) = NN at hsN n1 n2 n3 n10 n17 nI0 ⊢
          obtain ⟨Y, tt⟩ := NN
          dsimp only at hsN n1 n2 n3 n10 n17 nI0 ⊢
          have hsh : ShM (scM Y r5 r6 r7 r8) := hsN.scM _ _ _ _
          have z25 : mI (scM Y r5 r6 r7 r8) 25 = mI S 25 := by rw [scM_I]; show sI Y (fid 9 25) 2000 = _; rw [nI0]
          refine r_iload_n dX9_night_39 rfl rfl ?_
          refine r_bipush (v := 36) dX9_night_40 (by decide) ?_
          refine r_icmp_ge 76 dX9_night_42 (by decide) (fun q42 => ?_) (fun q42 => ?_)
          · skip
            refine r_iload_n dX9_night_76 rfl rfl ?_
            refine r_if_eq 84 dX9_night_77 (by decide) (fun q77 => ?_) (fun q77 => ?_)
            · skip
              have eg : nmS g (scM Y r5 r6 r7 r8) = scM Y r5 r6 r7 r8 := if_pos q77
              refine R.heap (S2 := nmS g (scM Y r5 r6 r7 r8)) (by first | rfl | exact eg.symm) ?_
              have hs2 : ShM (nm2 g (scM Y r5 r6 r7 r8) tt) := (nmS_sh hsh).setI _ _ _
              have hD : ShM (drS (nm2 g (scM Y r5 r6 r7 r8) tt)) := drS_sh hs2
              have dI : ∀ k, fid 9 k ≠ fid 9 33 → fid 9 k ≠ fid 9 30 → mI (drS (nm2 g (scM Y r5 r6 r7 r8) tt)) k = mI S k := fun k h1 h2 => by
                show sI (drS (nm2 g (scM Y r5 r6 r7 r8) tt)) (fid 9 k) 2000 = sI S (fid 9 k) 2000
                rw [drS_I h1]
                unfold nm2
                rw [sI_setIn (Or.inl h2), nmS_I, show sI (scM Y r5 r6 r7 r8) = sI Y from rfl, nI0]
              have d25 := dI 25 (by decide) (by decide)
              have d26 := dI 26 (by decide) (by decide)
              have d27 := dI 27 (by decide) (by decide)
              have dA : ∀ k, ma k ≠ ma 39 ∧ ma k ≠ ma 0 → ma k ≠ ma 2 ∧ ma k ≠ ma 7 → (k < 35 ∨ 38 < k) → sA (drS (nm2 g (scM Y r5 r6 r7 r8) tt)) (ma k) = sA Y (ma k) := fun k h1 h2 h3 => by
                rw [drS_A h1]
                unfold nm2
                rw [sA_setI, nmS_A h2, scM_A h3]
              have d10 : mA (drS (nm2 g (scM Y r5 r6 r7 r8) tt)) 10 = mA S 10 := (dA 10 (by decide) (by decide) (by decide)).trans n10
              have d17 : mA (drS (nm2 g (scM Y r5 r6 r7 r8) tt)) 17 = mA S 17 := (dA 17 (by decide) (by decide) (by decide)).trans n17
              refine r_aload_n dX9_night_84 rfl rfl ?_
              refine r_dup dX9_night_85 rfl ?_
              refine r_getI dX9_night_86 lf_X9_198 rfl rfl ?_
              refine r_iload_n dX9_night_89 rfl rfl ?_
              refine r_iadd dX9_night_90 ?_
              refine r_putI dX9_night_91 (lp_X9_198 _) rfl rfl ?_
              refine R.heap (S2 := nm2 g (scM Y r5 r6 r7 r8) tt) rfl ?_
              refine r_aload_n dX9_night_94 rfl rfl ?_
              refine r_invV0v dX9_night_95 lm_X9_201 rfl (c_X9_driftAll (nm2 g (scM Y r5 r6 r7 r8) tt) hs2) (Nat.le_of_ble_eq_true rfl) (Nat.le_of_ble_eq_true rfl) (Nat.zero_le _) (Nat.zero_le _) (fun S95 hq95 => ?_)
              replace hq95 := hq95.symm
              subst hq95
              refine r_aload_n dX9_night_98 rfl rfl ?_
              refine r_getI dX9_night_99 lf_X9_173 rfl rfl ?_
              rw [show sI (drS (nm2 g (scM Y r5 r6 r7 r8) tt)) (fid 9 27) 2000 = nI (nn (mI S 27)) from d27.trans hlI.symm]
              refine r_ist3 dX9_night_102 (Nat.le_of_ble_eq_true rfl) rfl ?_
              refine r_aload_n dX9_night_103 rfl rfl ?_
              refine r_invV0v dX9_night_104 lm_X9_204 rfl (c_X9_sellAll (drS (nm2 g (scM Y r5 r6 r7 r8) tt)) hD (by rw [d25]; exact hb) (by rw [d26]; exact hy) (by rw [d27]; exact hl)) (Nat.le_of_ble_eq_true rfl) (Nat.le_of_ble_eq_true rfl) (Nat.zero_le _) (Nat.zero_le _) (fun S104 hq104 => ?_)
              obtain ⟨ii, hii1, hKK, hXX, hz104⟩ := hq104
              subst hz104
              have hJ : JM (drS (nm2 g (scM Y r5 r6 r7 r8) tt)) (smA (drS (nm2 g (scM Y r5 r6 r7 r8) tt)) ii) := smA_JM hD (by rw [d26]; exact hy) (by rw [d27]; exact hl) (by rw [d27, d17]; exact hq17) ii
              have hsh := hJ.1.1
              refine R.heap (S2 := (wkA (smA (drS (nm2 g (scM Y r5 r6 r7 r8) tt)) ii) (nn (mI S 27)) 0)) rfl ?_
              refine r_iconst (v := 0) dX9_night_107 (by decide) ?_
              refine r_ist4 dX9_night_108 (Nat.le_of_ble_eq_true rfl) rfl ?_
              refine R.for (α := Unit) (nn (mI S 26)) (fun i a => [some (.ref 2000), some (.int g), some (.int (nI tt)), some (.int (nI (nn (mI S 27)))), some (.int (nI i))]) (fun i a => (wkA (smA (drS (nm2 g (scM Y r5 r6 r7 r8) tt)) ii) (nn (mI S 27)) i)) (fun i a => True) ?_ ?_ 0 () (Nat.zero_le _) trivial
              · intro a hI
                have e26 : sI (wkA (smA (drS (nm2 g (scM Y r5 r6 r7 r8) tt)) ii) (nn (mI S 27)) (nn (mI S 26))) (fid 9 26) 2000 = mI S 26 := (wkA_I (by decide) _).trans (hJ.1.2.2.1.trans d26)
                refine r_iload dX9_night_110 rfl ?_
                refine r_aload_n dX9_night_112 rfl rfl ?_
                refine r_getI dX9_night_113 lf_X9_140 rfl rfl ?_
                refine r_icmp_ge 132 dX9_night_116 (by decide) (fun q116 => ?_) (fun q116 => ?_)
                · skip
                  refine r_aload_n dX9_night_132 rfl rfl ?_
                  refine r_dup dX9_night_133 rfl ?_
                  refine r_getI dX9_night_134 lf_X9_183 rfl rfl ?_
                  refine r_iconst (v := 1) dX9_night_137 (by decide) ?_
                  refine r_iadd dX9_night_138 ?_
                  refine r_putI dX9_night_139 (lp_X9_183 _) rfl rfl ?_
                  refine r_iload_n dX9_night_142 rfl rfl ?_
                  exact r_iret dX9_night_143 rfl (Nat.zero_le _) (Nat.zero_le _) ⟨_, rfl, by
                      refine ⟨fun z => absurd z hnow, fun _ => ?_⟩
                      exact ⟨r5, r6, r7, r8, ii, rfl, hKK, hXX, rfl⟩⟩
                · skip
                  exact absurd (by rw [e26, hnyI]; exact Int32.le_refl _) q116
              · intro i a hi hI ih
                have hii : (nI i).toInt = i := nI_toInt (by omega)
                have hic : (nI i).toNatClampNeg = i := nI_clamp (by omega)
                have e26 : sI (wkA (smA (drS (nm2 g (scM Y r5 r6 r7 r8) tt)) ii) (nn (mI S 27)) i) (fid 9 26) 2000 = mI S 26 := (wkA_I (by decide) _).trans (hJ.1.2.2.1.trans d26)
                have e27 : mI (wkA (smA (drS (nm2 g (scM Y r5 r6 r7 r8) tt)) ii) (nn (mI S 27)) i) 27 = mI (smA (drS (nm2 g (scM Y r5 r6 r7 r8) tt)) ii) 27 := wkA_I (by decide) _
                have e10 : mA (wkA (smA (drS (nm2 g (scM Y r5 r6 r7 r8) tt)) ii) (nn (mI S 27)) i) 10 = mA S 10 := (wkA_A (by decide) _).trans (hJ.2.2.2.trans d10)
                have e17 : mA (wkA (smA (drS (nm2 g (scM Y r5 r6 r7 r8) tt)) ii) (nn (mI S 27)) i) 17 = mA (smA (drS (nm2 g (scM Y r5 r6 r7 r8) tt)) ii) 17 := wkA_A (by decide) _
                have hsh : ShM (wkA (smA (drS (nm2 g (scM Y r5 r6 r7 r8) tt)) ii) (nn (mI S 27)) i) := wkA_sh hJ.1.1 _
                have e1 : wkA (smA (drS (nm2 g (scM Y r5 r6 r7 r8) tt)) ii) (nn (mI S 27)) (i + 1) = wkY (wkA (smA (drS (nm2 g (scM Y r5 r6 r7 r8) tt)) ii) (nn (mI S 27)) i) i (nn (mI S 27)) := rfl
                rw [e1] at ih
                clear e1
                generalize (wkA (smA (drS (nm2 g (scM Y r5 r6 r7 r8) tt)) ii) (nn (mI S 27)) i) = ZW at ih hsh e26 e27 e10 e17 ⊢
                refine r_iload dX9_night_110 rfl ?_
                refine r_aload_n dX9_night_112 rfl rfl ?_
                refine r_getI dX9_night_113 lf_X9_140 rfl rfl ?_
                refine r_icmp_ge 132 dX9_night_116 (by decide) (fun q116 => ?_) (fun q116 => ?_)
                · skip
                  exact absurd q116 (by rw [e26, ← hnyI, fa_le, hii, nI_toInt (by omega)]; omega)
                · skip
                  refine r_aload_n dX9_night_119 rfl rfl ?_
                  refine r_iload dX9_night_120 rfl ?_
                  refine r_iload_n dX9_night_122 rfl rfl ?_
                  refine r_invV2v dX9_night_123 lm_X9_207 rfl (c_X9_work i (nn (mI S 27)) ZW hsh (by omega) (by rw [e27]; exact ⟨hJ.1.2.2.2.1, hJ.1.2.2.2.2⟩) (by rw [e10]; exact hcw i hi) (by rw [e27]; have := hJ.2.2.1; rw [d27] at this; unfold nn; omega) (by rw [e27, e17]; exact hJ.2.1)) (Nat.le_of_ble_eq_true rfl) (Nat.le_of_ble_eq_true rfl) (Nat.zero_le _) (Nat.zero_le _) (fun S123 hq123 => ?_)
                  replace hq123 := hq123.symm
                  subst hq123
                  refine r_in4 dX9_night_126 (show _ + Int32.ofInt 1 = _ + 1 from rfl) (Nat.le_of_ble_eq_true rfl) rfl ?_
                  refine r_goto 110 dX9_night_129 (by decide) ?_
                  rw [nI_1 i]
                  exact ih () trivial
            · skip
              refine r_aload_n dX9_night_80 rfl rfl ?_
              refine r_invV0v dX9_night_81 lm_X9_195 rfl (c_X9_storm (scM Y r5 r6 r7 r8) hsh (by rw [z25]; exact hb) (by rw [show mA (scM Y r5 r6 r7 r8) 3 = mA S 3 from (scM_A (Or.inl (by decide))).trans n3]; exact hce)) (Nat.le_of_ble_eq_true rfl) (Nat.le_of_ble_eq_true rfl) (Nat.zero_le _) (Nat.zero_le _) (fun S81 hq81 => ?_)
              have eg : nmS g (scM Y r5 r6 r7 r8) = stS (scM Y r5 r6 r7 r8) (nn (mI (scM Y r5 r6 r7 r8) 25)) := if_neg q77
              rw [← eg] at hq81
              subst hq81
              refine R.heap (S2 := nmS g (scM Y r5 r6 r7 r8)) (by first | rfl | exact eg.symm) ?_
              have hs2 : ShM (nm2 g (scM Y r5 r6 r7 r8) tt) := (nmS_sh hsh).setI _ _ _
              have hD : ShM (drS (nm2 g (scM Y r5 r6 r7 r8) tt)) := drS_sh hs2
              have dI : ∀ k, fid 9 k ≠ fid 9 33 → fid 9 k ≠ fid 9 30 → mI (drS (nm2 g (scM Y r5 r6 r7 r8) tt)) k = mI S k := fun k h1 h2 => by
                show sI (drS (nm2 g (scM Y r5 r6 r7 r8) tt)) (fid 9 k) 2000 = sI S (fid 9 k) 2000
                rw [drS_I h1]
                unfold nm2
                rw [sI_setIn (Or.inl h2), nmS_I, show sI (scM Y r5 r6 r7 r8) = sI Y from rfl, nI0]
              have d25 := dI 25 (by decide) (by decide)
              have d26 := dI 26 (by decide) (by decide)
              have d27 := dI 27 (by decide) (by decide)
              have dA : ∀ k, ma k ≠ ma 39 ∧ ma k ≠ ma 0 → ma k ≠ ma 2 ∧ ma k ≠ ma 7 → (k < 35 ∨ 38 < k) → sA (drS (nm2 g (scM Y r5 r6 r7 r8) tt)) (ma k) = sA Y (ma k) := fun k h1 h2 h3 => by
                rw [drS_A h1]
                unfold nm2
                rw [sA_setI, nmS_A h2, scM_A h3]
              have d10 : mA (drS (nm2 g (scM Y r5 r6 r7 r8) tt)) 10 = mA S 10 := (dA 10 (by decide) (by decide) (by decide)).trans n10
              have d17 : mA (drS (nm2 g (scM Y r5 r6 r7 r8) tt)) 17 = mA S 17 := (dA 17 (by decide) (by decide) (by decide)).trans n17
              refine r_aload_n dX9_night_84 rfl rfl ?_
              refine r_dup dX9_night_85 rfl ?_
              refine r_getI dX9_night_86 lf_X9_198 rfl rfl ?_
              refine r_iload_n dX9_night_89 rfl rfl ?_
              refine r_iadd dX9_night_90 ?_
              refine r_putI dX9_night_91 (lp_X9_198 _) rfl rfl ?_
              refine R.heap (S2 := nm2 g (scM Y r5 r6 r7 r8) tt) rfl ?_
              refine r_aload_n dX9_night_94 rfl rfl ?_
              refine r_invV0v dX9_night_95 lm_X9_201 rfl (c_X9_driftAll (nm2 g (scM Y r5 r6 r7 r8) tt) hs2) (Nat.le_of_ble_eq_true rfl) (Nat.le_of_ble_eq_true rfl) (Nat.zero_le _) (Nat.zero_le _) (fun S95 hq95 => ?_)
              replace hq95 := hq95.symm
              subst hq95
              refine r_aload_n dX9_night_98 rfl rfl ?_
              refine r_getI dX9_night_99 lf_X9_173 rfl rfl ?_
              rw [show sI (drS (nm2 g (scM Y r5 r6 r7 r8) tt)) (fid 9 27) 2000 = nI (nn (mI S 27)) from d27.trans hlI.symm]
              refine r_ist3 dX9_night_102 (Nat.le_of_ble_eq_true rfl) rfl ?_
              refine r_aload_n dX9_night_103 rfl rfl ?_
              refine r_invV0v dX9_night_104 lm_X9_204 rfl (c_X9_sellAll (drS (nm2 g (scM Y r5 r6 r7 r8) tt)) hD (by rw [d25]; exact hb) (by rw [d26]; exact hy) (by rw [d27]; exact hl)) (Nat.le_of_ble_eq_true rfl) (Nat.le_of_ble_eq_true rfl) (Nat.zero_le _) (Nat.zero_le _) (fun S104 hq104 => ?_)
              obtain ⟨ii, hii1, hKK, hXX, hz104⟩ := hq104
              subst hz104
              have hJ : JM (drS (nm2 g (scM Y r5 r6 r7 r8) tt)) (smA (drS (nm2 g (scM Y r5 r6 r7 r8) tt)) ii) := smA_JM hD (by rw [d26]; exact hy) (by rw [d27]; exact hl) (by rw [d27, d17]; exact hq17) ii
              have hsh := hJ.1.1
              refine R.heap (S2 := (wkA (smA (drS (nm2 g (scM Y r5 r6 r7 r8) tt)) ii) (nn (mI S 27)) 0)) rfl ?_
              refine r_iconst (v := 0) dX9_night_107 (by decide) ?_
              refine r_ist4 dX9_night_108 (Nat.le_of_ble_eq_true rfl) rfl ?_
              refine R.for (α := Unit) (nn (mI S 26)) (fun i a => [some (.ref 2000), some (.int g), some (.int (nI tt)), some (.int (nI (nn (mI S 27)))), some (.int (nI i))]) (fun i a => (wkA (smA (drS (nm2 g (scM Y r5 r6 r7 r8) tt)) ii) (nn (mI S 27)) i)) (fun i a => True) ?_ ?_ 0 () (Nat.zero_le _) trivial
              · intro a hI
                have e26 : sI (wkA (smA (drS (nm2 g (scM Y r5 r6 r7 r8) tt)) ii) (nn (mI S 27)) (nn (mI S 26))) (fid 9 26) 2000 = mI S 26 := (wkA_I (by decide) _).trans (hJ.1.2.2.1.trans d26)
                refine r_iload dX9_night_110 rfl ?_
                refine r_aload_n dX9_night_112 rfl rfl ?_
                refine r_getI dX9_night_113 lf_X9_140 rfl rfl ?_
                refine r_icmp_ge 132 dX9_night_116 (by decide) (fun q116 => ?_) (fun q116 => ?_)
                · skip
                  refine r_aload_n dX9_night_132 rfl rfl ?_
                  refine r_dup dX9_night_133 rfl ?_
                  refine r_getI dX9_night_134 lf_X9_183 rfl rfl ?_
                  refine r_iconst (v := 1) dX9_night_137 (by decide) ?_
                  refine r_iadd dX9_night_138 ?_
                  refine r_putI dX9_night_139 (lp_X9_183 _) rfl rfl ?_
                  refine r_iload_n dX9_night_142 rfl rfl ?_
                  exact r_iret dX9_night_143 rfl (Nat.zero_le _) (Nat.zero_le _) ⟨_, rfl, by
                      refine ⟨fun z => absurd z hnow, fun _ => ?_⟩
                      exact ⟨r5, r6, r7, r8, ii, rfl, hKK, hXX, rfl⟩⟩
                · skip
                  exact absurd (by rw [e26, hnyI]; exact Int32.le_refl _) q116
              · intro i a hi hI ih
                have hii : (nI i).toInt = i := nI_toInt (by omega)
                have hic : (nI i).toNatClampNeg = i := nI_clamp (by omega)
                have e26 : sI (wkA (smA (drS (nm2 g (scM Y r5 r6 r7 r8) tt)) ii) (nn (mI S 27)) i) (fid 9 26) 2000 = mI S 26 := (wkA_I (by decide) _).trans (hJ.1.2.2.1.trans d26)
                have e27 : mI (wkA (smA (drS (nm2 g (scM Y r5 r6 r7 r8) tt)) ii) (nn (mI S 27)) i) 27 = mI (smA (drS (nm2 g (scM Y r5 r6 r7 r8) tt)) ii) 27 := wkA_I (by decide) _
                have e10 : mA (wkA (smA (drS (nm2 g (scM Y r5 r6 r7 r8) tt)) ii) (nn (mI S 27)) i) 10 = mA S 10 := (wkA_A (by decide) _).trans (hJ.2.2.2.trans d10)
                have e17 : mA (wkA (smA (drS (nm2 g (scM Y r5 r6 r7 r8) tt)) ii) (nn (mI S 27)) i) 17 = mA (smA (drS (nm2 g (scM Y r5 r6 r7 r8) tt)) ii) 17 := wkA_A (by decide) _
                have hsh : ShM (wkA (smA (drS (nm2 g (scM Y r5 r6 r7 r8) tt)) ii) (nn (mI S 27)) i) := wkA_sh hJ.1.1 _
                have e1 : wkA (smA (drS (nm2 g (scM Y r5 r6 r7 r8) tt)) ii) (nn (mI S 27)) (i + 1) = wkY (wkA (smA (drS (nm2 g (scM Y r5 r6 r7 r8) tt)) ii) (nn (mI S 27)) i) i (nn (mI S 27)) := rfl
                rw [e1] at ih
                clear e1
                generalize (wkA (smA (drS (nm2 g (scM Y r5 r6 r7 r8) tt)) ii) (nn (mI S 27)) i) = ZW at ih hsh e26 e27 e10 e17 ⊢
                refine r_iload dX9_night_110 rfl ?_
                refine r_aload_n dX9_night_112 rfl rfl ?_
                refine r_getI dX9_night_113 lf_X9_140 rfl rfl ?_
                refine r_icmp_ge 132 dX9_night_116 (by decide) (fun q116 => ?_) (fun q116 => ?_)
                · skip
                  exact absurd q116 (by rw [e26, ← hnyI, fa_le, hii, nI_toInt (by omega)]; omega)
                · skip
                  refine r_aload_n dX9_night_119 rfl rfl ?_
                  refine r_iload dX9_night_120 rfl ?_
                  refine r_iload_n dX9_night_122 rfl rfl ?_
                  refine r_invV2v dX9_night_123 lm_X9_207 rfl (c_X9_work i (nn (mI S 27)) ZW hsh (by omega) (by rw [e27]; exact ⟨hJ.1.2.2.2.1, hJ.1.2.2.2.2⟩) (by rw [e10]; exact hcw i hi) (by rw [e27]; have := hJ.2.2.1; rw [d27] at this; unfold nn; omega) (by rw [e27, e17]; exact hJ.2.1)) (Nat.le_of_ble_eq_true rfl) (Nat.le_of_ble_eq_true rfl) (Nat.zero_le _) (Nat.zero_le _) (fun S123 hq123 => ?_)
                  replace hq123 := hq123.symm
                  subst hq123
                  refine r_in4 dX9_night_126 (show _ + Int32.ofInt 1 = _ + 1 from rfl) (Nat.le_of_ble_eq_true rfl) rfl ?_
                  refine r_goto 110 dX9_night_129 (by decide) ?_
                  rw [nI_1 i]
                  exact ih () trivial
          · skip
            exact absurd (by decide) q42
        · intro i a hi hI ih
          have hii : (nI i).toInt = i := nI_toInt (by omega)
          have hic : (nI i).toNatClampNeg = i := nI_clamp (by omega)
          obtain ⟨r5, r6, r7, r8⟩ := a
          dsimp only
          have hsN : ShM (nhM g (nm0 S) i).1 := nhM_sh (h.setA _ _) _
          have n1 : sA (nhM g (nm0 S) i).1 (ma 1) = mA S 1 := (nhM_A (by decide) _).trans (sA_setn (by decide))
          have n2 : sA (nhM g (nm0 S) i).1 (ma 2) = mA S 2 := (nhM_A (by decide) _).trans (sA_setn (by decide))
          have n3 : sA (nhM g (nm0 S) i).1 (ma 3) = mA S 3 := (nhM_A (by decide) _).trans (sA_setn (by decide))
          have n10 : sA (nhM g (nm0 S) i).1 (ma 10) = mA S 10 := (nhM_A (by decide) _).trans (sA_setn (by decide))
          have n17 : sA (nhM g (nm0 S) i).1 (ma 17) = mA S 17 := (nhM_A (by decide) _).trans (sA_setn (by decide))
          have nI0 : sI (nhM g (nm0 S) i).1 = sI S := (nhM_I _).trans rfl
          have n0 : mA (nhM g (nm0 S) i).1 0 i = mA S 0 i := (nhM_0 (Nat.le_refl _) (by omega)).trans (by rw [show mA (nm0 S) 0 = mA S 0 from sA_setn (by decide)])
          have e1 : nhM g (nm0 S) (i + 1) = if ¬ g = 0 ∧ ¬ mA (nm0 S) 1 i = 0 then (nhM g (nm0 S) i) else (haM (nhM g (nm0 S) i).1 (nI i), (nhM g (nm0 S) i).2 + hsu (nhM g (nm0 S) i).1 (nI i)) := rfl
          rw [show mA (nm0 S) 1 = mA S 1 from sA_setn (by decide)] at e1
          rw [e1] at ih
          clear e1
          generalize (nhM g (nm0 S) i) = NN at ih hsN n1 n2 n3 n10 n17 nI0 n0 ⊢
          obtain ⟨Y, tt⟩ := NN
          dsimp only at ih hsN n1 n2 n3 n10 n17 nI0 n0 ⊢
          have hsh : ShM (scM Y r5 r6 r7 r8) := hsN.scM _ _ _ _
          have z25 : mI (scM Y r5 r6 r7 r8) 25 = mI S 25 := by rw [scM_I]; show sI Y (fid 9 25) 2000 = _; rw [nI0]
          have z2 : mA (scM Y r5 r6 r7 r8) 2 = mA S 2 := (scM_A (Or.inl (by decide))).trans n2
          have z0 : mA (scM Y r5 r6 r7 r8) 0 i = mA S 0 i := by rw [show mA (scM Y r5 r6 r7 r8) 0 = mA Y 0 from scM_A (Or.inl (by decide))]; exact n0
          refine r_iload_n dX9_night_39 rfl rfl ?_
          refine r_bipush (v := 36) dX9_night_40 (by decide) ?_
          refine r_icmp_ge 76 dX9_night_42 (by decide) (fun q42 => ?_) (fun q42 => ?_)
          · skip
            exact absurd q42 (by rw [fa_le, hii]; have : (36 : Int32).toInt = 36 := rfl; omega)
          · skip
            refine r_iload_n dX9_night_45 rfl rfl ?_
            refine r_iload_n dX9_night_46 rfl rfl ?_
            refine r_if_eq 63 dX9_night_47 (by decide) (fun q47 => ?_) (fun q47 => ?_)
            · skip
              have hhaul : ¬ (¬ g = 0 ∧ ¬ mA S 1 i = 0) := fun z => z.1 q47
              refine r_aload_n dX9_night_63 rfl rfl ?_
              refine r_iload_n dX9_night_64 rfl rfl ?_
              refine r_invV1i dX9_night_65 lm_X9_192 rfl (c_X9_haul (nI i) (scM Y r5 r6 r7 r8) hsh (by rw [z25]; exact hb) (by rw [z2]; exact hn) ⟨by omega, by omega⟩ (by rw [hic, z0]; exact hcr i (by omega))) (Nat.le_of_ble_eq_true rfl) (Nat.le_of_ble_eq_true rfl) (Nat.zero_le _) (Nat.zero_le _) (fun r65 S65 hq65 => ?_)
              obtain ⟨hr65, p65, x65, y65, s65, hz65⟩ := hq65
              rw [haM_sc, scM_scM] at hz65
              rw [hsu_sc] at hr65
              subst hz65
              subst hr65
              refine r_iadd dX9_night_68 ?_
              refine r_ist2 dX9_night_69 (Nat.le_of_ble_eq_true rfl) rfl ?_
              refine r_in3 dX9_night_70 (show _ + Int32.ofInt 1 = _ + 1 from rfl) (Nat.le_of_ble_eq_true rfl) rfl ?_
              refine r_goto 39 dX9_night_73 (by decide) ?_
              rw [nI_1 i]
              first
                | (have hs2 := hskip
                   have h9 := ih (r5, r6, r7, r8) trivial
                   rw [if_pos hs2] at h9
                   rw [Int32.add_zero]
                   exact h9)
                | (have hs2 := hhaul
                   have h9 := ih (p65, x65, y65, s65) trivial
                   rw [if_neg hs2] at h9
                   rw [nI_add]
                   exact h9)
            · skip
              refine r_aload_n dX9_night_50 rfl rfl ?_
              refine r_getR dX9_night_51 lf_X9_13 rfl rfl (shM_R hsh (j := 1) rfl) (shM_L hsh (j := 1) rfl) ?_
              refine r_iload_n dX9_night_54 rfl rfl ?_
              refine r_zald dX9_night_55 rfl (show vp_in (nI i) 36 from vp_in_nI (by omega) (by omega)) ?_
              rw [scM_A (j := 1) (Or.inl (by decide)), n1, hic]
              refine r_if_eq 63 dX9_night_56 (by decide) (fun q56 => ?_) (fun q56 => ?_)
              · skip
                have hhaul : ¬ (¬ g = 0 ∧ ¬ mA S 1 i = 0) := fun z => z.2 q56
                refine r_aload_n dX9_night_63 rfl rfl ?_
                refine r_iload_n dX9_night_64 rfl rfl ?_
                refine r_invV1i dX9_night_65 lm_X9_192 rfl (c_X9_haul (nI i) (scM Y r5 r6 r7 r8) hsh (by rw [z25]; exact hb) (by rw [z2]; exact hn) ⟨by omega, by omega⟩ (by rw [hic, z0]; exact hcr i (by omega))) (Nat.le_of_ble_eq_true rfl) (Nat.le_of_ble_eq_true rfl) (Nat.zero_le _) (Nat.zero_le _) (fun r65 S65 hq65 => ?_)
                obtain ⟨hr65, p65, x65, y65, s65, hz65⟩ := hq65
                rw [haM_sc, scM_scM] at hz65
                rw [hsu_sc] at hr65
                subst hz65
                subst hr65
                refine r_iadd dX9_night_68 ?_
                refine r_ist2 dX9_night_69 (Nat.le_of_ble_eq_true rfl) rfl ?_
                refine r_in3 dX9_night_70 (show _ + Int32.ofInt 1 = _ + 1 from rfl) (Nat.le_of_ble_eq_true rfl) rfl ?_
                refine r_goto 39 dX9_night_73 (by decide) ?_
                rw [nI_1 i]
                first
                  | (have hs2 := hskip
                     have h9 := ih (r5, r6, r7, r8) trivial
                     rw [if_pos hs2] at h9
                     rw [Int32.add_zero]
                     exact h9)
                  | (have hs2 := hhaul
                     have h9 := ih (p65, x65, y65, s65) trivial
                     rw [if_neg hs2] at h9
                     rw [nI_add]
                     exact h9)
              · skip
                have hskip : ¬ g = 0 ∧ ¬ mA S 1 i = 0 := ⟨q47, q56⟩
                refine r_iconst (v := 0) dX9_night_59 (by decide) ?_
                refine r_goto 68 dX9_night_60 (by decide) ?_
                refine r_iadd dX9_night_68 ?_
                refine r_ist2 dX9_night_69 (Nat.le_of_ble_eq_true rfl) rfl ?_
                refine r_in3 dX9_night_70 (show _ + Int32.ofInt 1 = _ + 1 from rfl) (Nat.le_of_ble_eq_true rfl) rfl ?_
                refine r_goto 39 dX9_night_73 (by decide) ?_
                rw [nI_1 i]
                first
                  | (have hs2 := hskip
                     have h9 := ih (r5, r6, r7, r8) trivial
                     rw [if_pos hs2] at h9
                     rw [Int32.add_zero]
                     exact h9)
                  | (have hs2 := hhaul
                     have h9 := ih (p65, x65, y65, s65) trivial
                     rw [if_neg hs2] at h9
                     rw [nI_add]
                     exact h9)
      · skip
        exact absurd (by rw [h25, hnbI]; exact Int32.le_refl _) q21
    · intro i a hi hI ih
      have hii : (nI i).toInt = i := nI_toInt (by omega)
      have hic : (nI i).toNatClampNeg = i := nI_clamp (by omega)
      have h25 : sI (setA S (ma 5) (fillR (fun _ => 0) (mA S 5) i)) (fid 9 25) 2000 = mI S 25 := rfl
      have hsh : ShM (setA S (ma 5) (fillR (fun _ => 0) (mA S 5) i)) := h.setA _ _
      refine r_iload_n dX9_night_16 rfl rfl ?_
      refine r_aload_n dX9_night_17 rfl rfl ?_
      refine r_getI dX9_night_18 lf_X9_126 rfl rfl ?_
      refine r_icmp_ge 37 dX9_night_21 (by decide) (fun q21 => ?_) (fun q21 => ?_)
      · skip
        exact absurd q21 (by rw [h25, ← hnbI, fa_le, hii, nI_toInt (by omega)]; omega)
      · skip
        refine r_aload_n dX9_night_24 rfl rfl ?_
        refine r_getR dX9_night_25 lf_X9_26 rfl rfl (shM_R hsh (j := 5) rfl) (shM_L hsh (j := 5) rfl) ?_
        refine r_iload_n dX9_night_28 rfl rfl ?_
        refine r_iconst (v := 0) dX9_night_29 (by decide) ?_
        refine r_iast dX9_night_30 rfl (show vp_in (nI i) 12 from vp_in_nI (by omega) (by omega)) ?_
        refine r_in3 dX9_night_31 (show _ + Int32.ofInt 1 = _ + 1 from rfl) (Nat.le_of_ble_eq_true rfl) rfl ?_
        refine r_goto 16 dX9_night_34 (by decide) ?_
        rw [nI_1 i, hic, sA_set, setA_setA]
        exact ih () trivial
  · skip
    have hnow : mI S 24 = 300 := by first | exact q7 | exact Classical.not_not.mp q7
    refine r_iconst (v := (-1)) dX9_night_10 (by decide) ?_
    exact r_iret dX9_night_11 rfl (Nat.zero_le _) (Nat.zero_le _) ⟨_, rfl, ⟨fun _ => ⟨rfl, rfl⟩, fun z => absurd hnow z⟩⟩
