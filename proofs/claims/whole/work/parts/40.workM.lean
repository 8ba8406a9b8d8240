/-! ===== the reference: work ===== -/
/-- free crews' minutes; of a lot: cured, spoilt, wait, done; in all: cured, spoilt -/
abbrev WS : Type := (Nat → Int32) × Int32 × Int32 × Int32 × Int32 × Int32 × Int32
def wkS (S : HS) (q : Nat) (s : WS) : HS := setI (setI (setA (setA (setA (setA (setA S (ma 42) s.1) (ma 18) (upd (mA S 18) q s.2.1)) (ma 19) (upd (mA S 19) q s.2.2.1)) (ma 22) (upd (mA S 22) q s.2.2.2.1)) (ma 23) (upd (mA S 23) q s.2.2.2.2.1)) (fid 9 31) 2000 s.2.2.2.2.2.1) (fid 9 32) 2000 s.2.2.2.2.2.2
def ws0 (S : HS) (q : Nat) : WS := (mA S 42, mA S 18 q, mA S 19 q, mA S 22 q, mA S 23 q, mI S 31, mI S 32)
theorem setA_setI (S : HS) (f x : Nat) (v : Int32) (a : Nat) (r : Nat → Int32) : setA (setI S f x v) a r = setI (setA S a r) f x v := rfl
theorem upd_self (r : Nat → Int32) (q : Nat) : upd r q (r q) = r := by
  funext k
  unfold upd
  split
  · rename_i h; rw [h]
  · rfl
theorem upd_upd (r : Nat → Int32) (q : Nat) (x z : Int32) : upd (upd r q x) q z = upd r q z := by
  funext k
  unfold upd
  split <;> rfl
theorem wk_self (S : HS) (q : Nat) : S = wkS S q (ws0 S q) := by
  unfold wkS ws0
  dsimp only
  rw [upd_self, upd_self, upd_self, upd_self]
  rw [show mA S 42 = sA S (ma 42) from rfl, setA_self, show mA S 18 = sA S (ma 18) from rfl, setA_self, show mA S 19 = sA S (ma 19) from rfl, setA_self, show mA S 22 = sA S (ma 22) from rfl, setA_self, show mA S 23 = sA S (ma 23) from rfl, setA_self, show mI S 31 = sI S (fid 9 31) 2000 from rfl, setI_self, show mI S 32 = sI S (fid 9 32) 2000 from rfl, setI_self]
theorem wk_A42 {S : HS} {q : Nat} {s : WS} : sA (wkS S q s) (ma 42) = s.1 := by
  unfold wkS
  rw [sA_setI, sA_setI, sA_setn (by decide), sA_setn (by decide), sA_setn (by decide), sA_setn (by decide), sA_set]
theorem wk_A18 {S : HS} {q : Nat} {s : WS} : sA (wkS S q s) (ma 18) = upd (mA S 18) q s.2.1 := by
  unfold wkS
  rw [sA_setI, sA_setI, sA_setn (by decide), sA_setn (by decide), sA_setn (by decide), sA_set]
theorem wk_A19 {S : HS} {q : Nat} {s : WS} : sA (wkS S q s) (ma 19) = upd (mA S 19) q s.2.2.1 := by
  unfold wkS
  rw [sA_setI, sA_setI, sA_setn (by decide), sA_setn (by decide), sA_set]
theorem wk_A22 {S : HS} {q : Nat} {s : WS} : sA (wkS S q s) (ma 22) = upd (mA S 22) q s.2.2.2.1 := by
  unfold wkS
  rw [sA_setI, sA_setI, sA_setn (by decide), sA_set]
theorem wk_A23 {S : HS} {q : Nat} {s : WS} : sA (wkS S q s) (ma 23) = upd (mA S 23) q s.2.2.2.2.1 := by
  unfold wkS
  rw [sA_setI, sA_setI, sA_set]
theorem wk_A {S : HS} {q : Nat} {s : WS} {a : Nat} (h : a ≠ ma 42 ∧ a ≠ ma 18 ∧ a ≠ ma 19 ∧ a ≠ ma 22 ∧ a ≠ ma 23) : sA (wkS S q s) a = sA S a := by
  unfold wkS
  rw [sA_setI, sA_setI, sA_setn h.2.2.2.2, sA_setn h.2.2.2.1, sA_setn h.2.2.1, sA_setn h.2.1, sA_setn h.1]
theorem wk_I {S : HS} {q : Nat} {s : WS} {f a : Nat} (h : f ≠ fid 9 31 ∧ f ≠ fid 9 32) : sI (wkS S q s) f a = sI S f a := by
  unfold wkS
  rw [sI_setIn (Or.inl h.2), sI_setIn (Or.inl h.1), sI_setA, sI_setA, sI_setA, sI_setA, sI_setA]
theorem wk_I31 {S : HS} {q : Nat} {s : WS} : sI (wkS S q s) (fid 9 31) 2000 = s.2.2.2.2.2.1 := by
  unfold wkS
  rw [sI_setIn (Or.inl (by decide)), sI_setIe]
theorem wk_I32 {S : HS} {q : Nat} {s : WS} : sI (wkS S q s) (fid 9 32) 2000 = s.2.2.2.2.2.2 := sI_setIe _ _ _ _
theorem wk_42 (S : HS) (q : Nat) (s : WS) (r : Nat → Int32) : setA (wkS S q s) (ma 42) r = wkS S q (r, s.2) := by
  unfold wkS
  rw [setA_setI, setA_setI, setA_comm _ (show ma 23 ≠ ma 42 by decide), setA_comm _ (show ma 22 ≠ ma 42 by decide), setA_comm _ (show ma 19 ≠ ma 42 by decide), setA_comm _ (show ma 18 ≠ ma 42 by decide), setA_setA]
theorem wk_18 (S : HS) (q : Nat) (s : WS) (v : Int32) : setA (wkS S q s) (ma 18) (upd (upd (mA S 18) q s.2.1) q v) = wkS S q (s.1, v, s.2.2) := by
  unfold wkS
  rw [upd_upd, setA_setI, setA_setI, setA_comm _ (show ma 23 ≠ ma 18 by decide), setA_comm _ (show ma 22 ≠ ma 18 by decide), setA_comm _ (show ma 19 ≠ ma 18 by decide), setA_setA]
theorem wk_19 (S : HS) (q : Nat) (s : WS) (v : Int32) : setA (wkS S q s) (ma 19) (upd (upd (mA S 19) q s.2.2.1) q v) = wkS S q (s.1, s.2.1, v, s.2.2.2) := by
  unfold wkS
  rw [upd_upd, setA_setI, setA_setI, setA_comm _ (show ma 23 ≠ ma 19 by decide), setA_comm _ (show ma 22 ≠ ma 19 by decide), setA_setA]
theorem wk_22 (S : HS) (q : Nat) (s : WS) (v : Int32) : setA (wkS S q s) (ma 22) (upd (upd (mA S 22) q s.2.2.2.1) q v) = wkS S q (s.1, s.2.1, s.2.2.1, v, s.2.2.2.2) := by
  unfold wkS
  rw [upd_upd, setA_setI, setA_setI, setA_comm _ (show ma 23 ≠ ma 22 by decide), setA_setA]
theorem wk_23 (S : HS) (q : Nat) (s : WS) (v : Int32) : setA (wkS S q s) (ma 23) (upd (upd (mA S 23) q s.2.2.2.2.1) q v) = wkS S q (s.1, s.2.1, s.2.2.1, s.2.2.2.1, v, s.2.2.2.2.2) := by
  unfold wkS
  rw [upd_upd, setA_setI, setA_setI, setA_setA]
theorem wk_31 (S : HS) (q : Nat) (s : WS) (v : Int32) : setI (wkS S q s) (fid 9 31) 2000 v = wkS S q (s.1, s.2.1, s.2.2.1, s.2.2.2.1, s.2.2.2.2.1, v, s.2.2.2.2.2.2) := by
  unfold wkS
  rw [setI_comm _ _ _ (show fid 9 32 ≠ fid 9 31 by decide), setI_setI]
theorem wk_32 (S : HS) (q : Nat) (s : WS) (v : Int32) : setI (wkS S q s) (fid 9 32) 2000 v = wkS S q (s.1, s.2.1, s.2.2.1, s.2.2.2.1, s.2.2.2.2.1, s.2.2.2.2.2.1, v) := by
  unfold wkS
  rw [setI_setI]
theorem wk_sh {S : HS} (h : ShM S) (q : Nat) (s : WS) : ShM (wkS S q s) := ((((((h.setA _ _).setA _ _).setA _ _).setA _ _).setA _ _).setI _ _ _).setI _ _ _
/-- one cran of a lot that came at m -/
def wBeg (cw : Nat) (m : Int32) (f : Nat → Int32) : Int32 := mx2 (f (gmn f cw)) m
def wNext (cw : Nat) (m w : Int32) (s : WS) : WS := if (wBeg cw m s.1 - m).toInt ≤ w.toInt then (upd s.1 (gmn s.1 cw) (wBeg cw m s.1 + 12), s.2.1 + 1, s.2.2.1, mx2 s.2.2.2.1 (wBeg cw m s.1 - m), wBeg cw m s.1 + 12, s.2.2.2.2.2.1 + 1, s.2.2.2.2.2.2) else (s.1, s.2.1, s.2.2.1 + 1, s.2.2.2.1, s.2.2.2.2.1, s.2.2.2.2.2.1, s.2.2.2.2.2.2 + 1)
def wIt (cw : Nat) (m w : Int32) (s : WS) : Nat → WS
  | 0 => s
  | k + 1 => wNext cw m w (wIt cw m w s k)
/-- how many crans of lot q yard y works -/
def wNu (S : HS) (y q : Nat) : Nat := if mA S 16 q = nI y then nn (mA S 17 q) else 0
def wLot (S : HS) (y q : Nat) : HS := wkS S q (wIt (nn (mA S 10 y) - 1) (mA S 20 q) (mI S 29) (ws0 S q) (wNu S y q))
def wLs (S : HS) (y fr : Nat) : Nat → HS
  | 0 => S
  | i + 1 => wLot (wLs S y fr i) y (fr + i)
def wk0 (S : HS) (y : Nat) : HS := setA S (ma 42) (fillR (fun _ => 0) (mA S 42) (nn (mA S 10 y)))
def wkY (S : HS) (y fr : Nat) : HS := wLs (wk0 S y) y fr (nn (mI S 27) - fr)
theorem wLs_sh {S : HS} {y fr : Nat} (h : ShM S) : ∀ i, ShM (wLs S y fr i)
  | 0 => h
  | i + 1 => wk_sh (wLs_sh h i) _ _
theorem wLs_A {S : HS} {y fr a : Nat} (h : a ≠ ma 42 ∧ a ≠ ma 18 ∧ a ≠ ma 19 ∧ a ≠ ma 22 ∧ a ≠ ma 23) : ∀ i, sA (wLs S y fr i) a = sA S a
  | 0 => rfl
  | i + 1 => by
    show sA (wLot (wLs S y fr i) y (fr + i)) a = _
    unfold wLot
    rw [wk_A h, wLs_A h i]
theorem wLs_I {S : HS} {y fr f a : Nat} (h : f ≠ fid 9 31 ∧ f ≠ fid 9 32) : ∀ i, sI (wLs S y fr i) f a = sI S f a
  | 0 => rfl
  | i + 1 => by
    show sI (wLot (wLs S y fr i) y (fr + i)) f a = _
    unfold wLot
    rw [wk_I h, wLs_I h i]
set_option maxHeartbeats 4000000 in
theorem c_X9_work {l : Launch} {G : va_G} {cy : Nat → ClassId} (y fr : Nat) (S : HS) (h : ShM S) (hy : y < 4) (hl : 0 ≤ (mI S 27).toInt ∧ (mI S 27).toInt ≤ 400) (hc : 1 ≤ (mA S 10 y).toInt ∧ (mA S 10 y).toInt ≤ 6) (hfr : fr ≤ nn (mI S 27)) (hcrs : ∀ q, q < nn (mI S 27) → 0 ≤ (mA S 17 q).toInt) : Cn l G cy yX9_work cX9_work 8 none 1 [.ref 2000, .int (nI y), .int (nI fr)] S 0 0 (qV (fun S2 => S2 = wkY S y fr)) := by
  refine Cn.of [some (.ref 2000), some (.int (nI y)), some (.int (nI fr)), none, none, none, none, none] (by decide) rfl (Nat.le_of_ble_eq_true rfl) ?_
  have hnl : nn (mI S 27) ≤ 400 := by unfold nn; omega
  have hlI : nI (nn (mI S 27)) = mI S 27 := nI_nn hl.1
  have hcI : nI (nn (mA S 10 y)) = mA S 10 y := nI_nn (by omega)
  have hcn : 1 ≤ nn (mA S 10 y) ∧ nn (mA S 10 y) ≤ 6 := by unfold nn; omega
  have hyc : (nI y).toNatClampNeg = y := nI_clamp (by omega)
  refine R.heap (S2 := (setA S (ma 42) (fillR (fun _ => 0) (mA S 42) 0))) (setA_self S (ma 42)).symm ?_
  refine r_iconst (v := 0) dX9_work_0 (by decide) ?_
  refine r_ist3 dX9_work_1 (Nat.le_of_ble_eq_true rfl) rfl ?_
  refine R.for (α := Unit) (nn (mA S 10 y)) (fun i a => [some (.ref 2000), some (.int (nI y)), some (.int (nI fr)), some (.int (nI i)), none, none, none, none]) (fun i a => (setA S (ma 42) (fillR (fun _ => 0) (mA S 42) i))) (fun i a => True) ?_ ?_ 0 () (Nat.zero_le _) trivial
  · intro a hI
    have hsh : ShM (setA S (ma 42) (fillR (fun _ => 0) (mA S 42) (nn (mA S 10 y)))) := h.setA _ _
    have h10 : sA (setA S (ma 42) (fillR (fun _ => 0) (mA S 42) (nn (mA S 10 y)))) (ma 10) = mA S 10 := sA_setn (by decide)
    refine r_iload_n dX9_work_2 rfl rfl ?_
    refine r_aload_n dX9_work_3 rfl rfl ?_
    refine r_getR dX9_work_4 lf_X9_41 rfl rfl (shM_R hsh (j := 10) rfl) (shM_L hsh (j := 10) rfl) ?_
    refine r_iload_n dX9_work_7 rfl rfl ?_
    refine r_iald dX9_work_8 rfl (show vp_in (nI y) 4 from vp_in_nI (by omega) (by omega)) ?_
    refine r_icmp_ge 25 dX9_work_9 (by decide) (fun q9 => ?_) (fun q9 => ?_)
    · skip
      refine R.heap (S2 := wLs (wk0 S y) y fr 0) rfl ?_
      refine r_iload_n dX9_work_25 rfl rfl ?_
      refine r_ist3 dX9_work_26 (Nat.le_of_ble_eq_true rfl) rfl ?_
      refine R.for (α := Option Value × Option Value × Option Value × Option Value) ((nn (mI S 27) - fr)) (fun i a => [some (.ref 2000), some (.int (nI y)), some (.int (nI fr)), some (.int (nI (fr + i))), a.1, a.2.1, a.2.2.1, a.2.2.2]) (fun i a => (wLs (wk0 S y) y fr i)) (fun i a => True) ?_ ?_ 0 (none, none, none, none) (Nat.zero_le _) trivial
      · intro a hI
        have hsh : ShM (wLs (wk0 S y) y fr (nn (mI S 27) - fr)) := wLs_sh (h.setA _ _) _
        have e27 : sI (wLs (wk0 S y) y fr (nn (mI S 27) - fr)) (fid 9 27) 2000 = mI S 27 := wLs_I (by decide) _
        have e29 : mI (wLs (wk0 S y) y fr (nn (mI S 27) - fr)) 29 = mI S 29 := wLs_I (by decide) _
        have e10 : mA (wLs (wk0 S y) y fr (nn (mI S 27) - fr)) 10 = mA S 10 := (wLs_A (by decide) _).trans (sA_setn (by decide))
        have e16 : mA (wLs (wk0 S y) y fr (nn (mI S 27) - fr)) 16 = mA S 16 := (wLs_A (by decide) _).trans (sA_setn (by decide))
        have e17 : mA (wLs (wk0 S y) y fr (nn (mI S 27) - fr)) 17 = mA S 17 := (wLs_A (by decide) _).trans (sA_setn (by decide))
        have e20 : mA (wLs (wk0 S y) y fr (nn (mI S 27) - fr)) 20 = mA S 20 := (wLs_A (by decide) _).trans (sA_setn (by decide))
        refine r_iload_n dX9_work_27 rfl rfl ?_
        refine r_aload_n dX9_work_28 rfl rfl ?_
        refine r_getI dX9_work_29 lf_X9_173 rfl rfl ?_
        refine r_icmp_ge 241 dX9_work_32 (by decide) (fun q32 => ?_) (fun q32 => ?_)
        · skip
          exact r_vret dX9_work_241 rfl (Nat.zero_le _) (Nat.zero_le _) ⟨rfl, rfl⟩
        · skip
          exact absurd (by rw [e27, show fr + (nn (mI S 27) - fr) = nn (mI S 27) by omega, hlI]; exact Int32.le_refl _) q32
      · intro i a hi hI ih
        have hii : (nI (fr + i)).toInt = ((fr + i : Nat) : Int) := nI_toInt (by omega)
        have hic : (nI (fr + i)).toNatClampNeg = fr + i := nI_clamp (by omega)
        have hsh : ShM (wLs (wk0 S y) y fr i) := wLs_sh (h.setA _ _) _
        have e27 : sI (wLs (wk0 S y) y fr i) (fid 9 27) 2000 = mI S 27 := wLs_I (by decide) _
        have e29 : mI (wLs (wk0 S y) y fr i) 29 = mI S 29 := wLs_I (by decide) _
        have e10 : mA (wLs (wk0 S y) y fr i) 10 = mA S 10 := (wLs_A (by decide) _).trans (sA_setn (by decide))
        have e16 : mA (wLs (wk0 S y) y fr i) 16 = mA S 16 := (wLs_A (by decide) _).trans (sA_setn (by decide))
        have e17 : mA (wLs (wk0 S y) y fr i) 17 = mA S 17 := (wLs_A (by decide) _).trans (sA_setn (by decide))
        have e20 : mA (wLs (wk0 S y) y fr i) 20 = mA S 20 := (wLs_A (by decide) _).trans (sA_setn (by decide))
        have e1 : wLs (wk0 S y) y fr (i + 1) = wLot (wLs (wk0 S y) y fr i) y (fr + i) := rfl
        rw [e1] at ih
        have ihL := ih
        clear ih e1
        generalize (wLs (wk0 S y) y fr i) = Z at ihL hsh e27 e29 e10 e16 e17 e20 ⊢
        have hcr : 0 ≤ (mA S 17 (fr + i)).toInt ∧ (mA S 17 (fr + i)).toInt < 2147483648 := ⟨hcrs (fr + i) (by omega), (fb_rng _).2⟩
        refine r_iload_n dX9_work_27 rfl rfl ?_
        refine r_aload_n dX9_work_28 rfl rfl ?_
        refine r_getI dX9_work_29 lf_X9_173 rfl rfl ?_
        refine r_icmp_ge 241 dX9_work_32 (by decide) (fun q32 => ?_) (fun q32 => ?_)
        · skip
          exact absurd q32 (by rw [e27, ← hlI, fa_le, hii, nI_toInt (by omega)]; omega)
        · skip
          refine R.heap (S2 := (wkS Z (fr + i) (wIt (nn (mA Z 10 y) - 1) (mA Z 20 (fr + i)) (mI Z 29) (ws0 Z (fr + i)) 0))) (wk_self Z (fr + i)) ?_
          have hshZ := hsh
          refine r_iconst (v := 0) dX9_work_35 (by decide) ?_
          refine r_ist4 dX9_work_36 (Nat.le_of_ble_eq_true rfl) rfl ?_
          refine R.for (α := Option Value × Option Value × Option Value) (wNu Z y (fr + i)) (fun k a => [some (.ref 2000), some (.int (nI y)), some (.int (nI fr)), some (.int (nI (fr + i))), some (.int (nI k)), a.1, a.2.1, a.2.2]) (fun k a => (wkS Z (fr + i) (wIt (nn (mA Z 10 y) - 1) (mA Z 20 (fr + i)) (mI Z 29) (ws0 Z (fr + i)) k))) (fun k a => True) ?_ ?_ 0 (a.2.1, a.2.2.1, a.2.2.2) (Nat.zero_le _) trivial
          · intro a hI
            have hsk : ShM (wkS Z (fr + i) (wIt (nn (mA Z 10 y) - 1) (mA Z 20 (fr + i)) (mI Z 29) (ws0 Z (fr + i)) (wNu Z y (fr + i)))) := wk_sh hsh _ _
            have k16 : sA (wkS Z (fr + i) (wIt (nn (mA Z 10 y) - 1) (mA Z 20 (fr + i)) (mI Z 29) (ws0 Z (fr + i)) (wNu Z y (fr + i)))) (ma 16) = mA S 16 := (wk_A (by decide)).trans e16
            have k17 : sA (wkS Z (fr + i) (wIt (nn (mA Z 10 y) - 1) (mA Z 20 (fr + i)) (mI Z 29) (ws0 Z (fr + i)) (wNu Z y (fr + i)))) (ma 17) = mA S 17 := (wk_A (by decide)).trans e17
            have k20 : sA (wkS Z (fr + i) (wIt (nn (mA Z 10 y) - 1) (mA Z 20 (fr + i)) (mI Z 29) (ws0 Z (fr + i)) (wNu Z y (fr + i)))) (ma 20) = mA S 20 := (wk_A (by decide)).trans e20
            have k10 : sA (wkS Z (fr + i) (wIt (nn (mA Z 10 y) - 1) (mA Z 20 (fr + i)) (mI Z 29) (ws0 Z (fr + i)) (wNu Z y (fr + i)))) (ma 10) = mA S 10 := (wk_A (by decide)).trans e10
            have k29 : sI (wkS Z (fr + i) (wIt (nn (mA Z 10 y) - 1) (mA Z 20 (fr + i)) (mI Z 29) (ws0 Z (fr + i)) (wNu Z y (fr + i)))) (fid 9 29) 2000 = mI S 29 := (wk_I (by decide)).trans e29
            have hNu : wNu Z y (fr + i) = if mA S 16 (fr + i) = nI y then nn (mA S 17 (fr + i)) else 0 := by unfold wNu; rw [e16, e17]
            refine r_aload_n dX9_work_38 rfl rfl ?_
            refine r_getR dX9_work_39 lf_X9_59 rfl rfl (shM_R hsh (j := 16) rfl) (shM_L hsh (j := 16) rfl) ?_
            refine r_iload_n dX9_work_42 rfl rfl ?_
            refine r_iald dX9_work_43 rfl (show vp_in (nI (fr + i)) 400 from vp_in_nI (by omega) (by omega)) ?_
            rw [k16, hic]
            refine r_iload_n dX9_work_44 rfl rfl ?_
            refine r_icmp_ne 235 dX9_work_45 (by decide) (fun q45 => ?_) (fun q45 => ?_)
            · skip
              refine r_in3 dX9_work_235 (show _ + Int32.ofInt 1 = _ + 1 from rfl) (Nat.le_of_ble_eq_true rfl) rfl ?_
              refine r_goto 27 dX9_work_238 (by decide) ?_
              rw [nI_1 (fr + i)]
              exact ihL (some (.int (nI (wNu Z y (fr + i)))), a) trivial
            · skip
              refine r_iload dX9_work_48 rfl ?_
              refine r_aload_n dX9_work_50 rfl rfl ?_
              refine r_getR dX9_work_51 lf_X9_62 rfl rfl (shM_R hsh (j := 17) rfl) (shM_L hsh (j := 17) rfl) ?_
              refine r_iload_n dX9_work_54 rfl rfl ?_
              refine r_iald dX9_work_55 rfl (show vp_in (nI (fr + i)) 400 from vp_in_nI (by omega) (by omega)) ?_
              rw [k17, hic]
              refine r_icmp_ge 235 dX9_work_56 (by decide) (fun q56 => ?_) (fun q56 => ?_)
              · skip
                refine r_in3 dX9_work_235 (show _ + Int32.ofInt 1 = _ + 1 from rfl) (Nat.le_of_ble_eq_true rfl) rfl ?_
                refine r_goto 27 dX9_work_238 (by decide) ?_
                rw [nI_1 (fr + i)]
                exact ihL (some (.int (nI (wNu Z y (fr + i)))), a) trivial
              · skip
                exact absurd (by rw [hNu, if_pos q45, nI_nn hcr.1]; exact Int32.le_refl _) q56
          · intro k a hk hI ih
            obtain ⟨a5, a6, a7⟩ := a
            dsimp only
            have hsk : ShM (wkS Z (fr + i) (wIt (nn (mA Z 10 y) - 1) (mA Z 20 (fr + i)) (mI Z 29) (ws0 Z (fr + i)) k)) := wk_sh hsh _ _
            have k16 : sA (wkS Z (fr + i) (wIt (nn (mA Z 10 y) - 1) (mA Z 20 (fr + i)) (mI Z 29) (ws0 Z (fr + i)) k)) (ma 16) = mA S 16 := (wk_A (by decide)).trans e16
            have k17 : sA (wkS Z (fr + i) (wIt (nn (mA Z 10 y) - 1) (mA Z 20 (fr + i)) (mI Z 29) (ws0 Z (fr + i)) k)) (ma 17) = mA S 17 := (wk_A (by decide)).trans e17
            have k20 : sA (wkS Z (fr + i) (wIt (nn (mA Z 10 y) - 1) (mA Z 20 (fr + i)) (mI Z 29) (ws0 Z (fr + i)) k)) (ma 20) = mA S 20 := (wk_A (by decide)).trans e20
            have k10 : sA (wkS Z (fr + i) (wIt (nn (mA Z 10 y) - 1) (mA Z 20 (fr + i)) (mI Z 29) (ws0 Z (fr + i)) k)) (ma 10) = mA S 10 := (wk_A (by decide)).trans e10
            have k29 : sI (wkS Z (fr + i) (wIt (nn (mA Z 10 y) - 1) (mA Z 20 (fr + i)) (mI Z 29) (ws0 Z (fr + i)) k)) (fid 9 29) 2000 = mI S 29 := (wk_I (by decide)).trans e29
            have hNu : wNu Z y (fr + i) = if mA S 16 (fr + i) = nI y then nn (mA S 17 (fr + i)) else 0 := by unfold wNu; rw [e16, e17]
            have hkN := hk
            rw [hNu] at hkN
            have hm : mA S 16 (fr + i) = nI y := by
              by_cases z : mA S 16 (fr + i) = nI y
              · exact z
              · rw [if_neg z] at hkN; exact absurd hkN (Nat.not_lt_zero _)
            rw [if_pos hm] at hkN
            have hkk : (nI k).toInt = k := nI_toInt (by unfold nn at hkN; omega)
            have e2 : (wIt (nn (mA Z 10 y) - 1) (mA Z 20 (fr + i)) (mI Z 29) (ws0 Z (fr + i)) (k + 1)) = wNext (nn (mA Z 10 y) - 1) (mA Z 20 (fr + i)) (mI Z 29) (wIt (nn (mA Z 10 y) - 1) (mA Z 20 (fr + i)) (mI Z 29) (ws0 Z (fr + i)) k) := rfl
            rw [e2, e10, e20, e29] at ih
            rw [e10, e20, e29] at hsk k16 k17 k20 k10 k29 ⊢
            clear e2
            have ihK := ih
            clear ih
            generalize (wIt (nn (mA S 10 y) - 1) (mA S 20 (fr + i)) (mI S 29) (ws0 Z (fr + i)) k) = s at ihK hsk k16 k17 k20 k10 k29 ⊢
            have hsh := hsk
            refine r_aload_n dX9_work_38 rfl rfl ?_
            refine r_getR dX9_work_39 lf_X9_59 rfl rfl (shM_R hsh (j := 16) rfl) (shM_L hsh (j := 16) rfl) ?_
            refine r_iload_n dX9_work_42 rfl rfl ?_
            refine r_iald dX9_work_43 rfl (show vp_in (nI (fr + i)) 400 from vp_in_nI (by omega) (by omega)) ?_
            rw [k16, hic]
            refine r_iload_n dX9_work_44 rfl rfl ?_
            refine r_icmp_ne 235 dX9_work_45 (by decide) (fun q45 => ?_) (fun q45 => ?_)
            · skip
              exact absurd hm q45
            · skip
              refine r_iload dX9_work_48 rfl ?_
              refine r_aload_n dX9_work_50 rfl rfl ?_
              refine r_getR dX9_work_51 lf_X9_62 rfl rfl (shM_R hsh (j := 17) rfl) (shM_L hsh (j := 17) rfl) ?_
              refine r_iload_n dX9_work_54 rfl rfl ?_
              refine r_iald dX9_work_55 rfl (show vp_in (nI (fr + i)) 400 from vp_in_nI (by omega) (by omega)) ?_
              rw [k17, hic]
              refine r_icmp_ge 235 dX9_work_56 (by decide) (fun q56 => ?_) (fun q56 => ?_)
              · skip
                exact absurd q56 (by rw [show mA S 17 (fr + i) = nI (nn (mA S 17 (fr + i))) from (nI_nn hcr.1).symm, fa_le, hkk, nI_toInt (by unfold nn; omega)]; omega)
              · skip
                refine r_iconst (v := 0) dX9_work_59 (by decide) ?_
                refine r_ist5 dX9_work_60 (Nat.le_of_ble_eq_true rfl) rfl ?_
                refine r_iconst (v := 1) dX9_work_62 (by decide) ?_
                refine r_ist6 dX9_work_63 (Nat.le_of_ble_eq_true rfl) rfl ?_
                refine R.for (α := Unit) ((nn (mA S 10 y) - 1)) (fun c a => [some (.ref 2000), some (.int (nI y)), some (.int (nI fr)), some (.int (nI (fr + i))), some (.int (nI k)), some (.int (nI (gmn s.1 c))), some (.int (nI (c + 1))), a7]) (fun c a => (wkS Z (fr + i) s)) (fun c a => True) ?_ ?_ 0 () (Nat.zero_le _) trivial
                · intro a hI
                  have hgl := gmn_le s.1 (nn (mA S 10 y) - 1)
                  have hgi : (nI (gmn s.1 (nn (mA S 10 y) - 1))).toInt = ((gmn s.1 (nn (mA S 10 y) - 1) : Nat) : Int) := nI_toInt (by omega)
                  have hgc : (nI (gmn s.1 (nn (mA S 10 y) - 1))).toNatClampNeg = gmn s.1 (nn (mA S 10 y) - 1) := nI_clamp (by omega)
                  refine r_iload dX9_work_65 rfl ?_
                  refine r_aload_n dX9_work_67 rfl rfl ?_
                  refine r_getR dX9_work_68 lf_X9_41 rfl rfl (shM_R hsh (j := 10) rfl) (shM_L hsh (j := 10) rfl) ?_
                  refine r_iload_n dX9_work_71 rfl rfl ?_
                  refine r_iald dX9_work_72 rfl (show vp_in (nI y) 4 from vp_in_nI (by omega) (by omega)) ?_
                  rw [k10, hyc]
                  refine r_icmp_ge 108 dX9_work_73 (by decide) (fun q73 => ?_) (fun q73 => ?_)
                  · skip
                    refine r_aload_n dX9_work_108 rfl rfl ?_
                    refine r_getR dX9_work_109 lf_X9_108 rfl rfl (shM_R hsh (j := 42) rfl) (shM_L hsh (j := 42) rfl) ?_
                    refine r_iload dX9_work_112 rfl ?_
                    refine r_iald dX9_work_114 rfl (show vp_in (nI (gmn s.1 (nn (mA S 10 y) - 1))) 6 from vp_in_nI (by omega) (by omega)) ?_
                    rw [wk_A42, hgc]
                    refine r_aload_n dX9_work_115 rfl rfl ?_
                    refine r_getR dX9_work_116 lf_X9_71 rfl rfl (shM_R hsh (j := 20) rfl) (shM_L hsh (j := 20) rfl) ?_
                    refine r_iload_n dX9_work_119 rfl rfl ?_
                    refine r_iald dX9_work_120 rfl (show vp_in (nI (fr + i)) 400 from vp_in_nI (by omega) (by omega)) ?_
                    rw [k20, hic]
                    refine r_mmax dX9_work_121 lm_X9_160 (Nat.le_of_ble_eq_true rfl) (Nat.le_of_ble_eq_true rfl) (Nat.zero_le _) (Nat.zero_le _) ?_
                    rw [show (if s.1 (gmn s.1 (nn (mA S 10 y) - 1)) < mA S 20 (fr + i) then mA S 20 (fr + i) else s.1 (gmn s.1 (nn (mA S 10 y) - 1))) = (wBeg (nn (mA S 10 y) - 1) (mA S 20 (fr + i)) s.1) from rfl]
                    refine r_ist6 dX9_work_124 (Nat.le_of_ble_eq_true rfl) rfl ?_
                    refine r_iload dX9_work_126 rfl ?_
                    refine r_aload_n dX9_work_128 rfl rfl ?_
                    refine r_getR dX9_work_129 lf_X9_71 rfl rfl (shM_R hsh (j := 20) rfl) (shM_L hsh (j := 20) rfl) ?_
                    refine r_iload_n dX9_work_132 rfl rfl ?_
                    refine r_iald dX9_work_133 rfl (show vp_in (nI (fr + i)) 400 from vp_in_nI (by omega) (by omega)) ?_
                    rw [k20, hic]
                    refine r_isub dX9_work_134 ?_
                    refine r_ist7 dX9_work_135 (Nat.le_of_ble_eq_true rfl) rfl ?_
                    refine r_iload dX9_work_137 rfl ?_
                    refine r_aload_n dX9_work_139 rfl rfl ?_
                    refine r_getI dX9_work_140 lf_X9_83 rfl rfl ?_
                    rw [k29]
                    refine r_icmp_le 169 dX9_work_143 (by decide) (fun q143 => ?_) (fun q143 => ?_)
                    · skip
                      have hwP : ((wBeg (nn (mA S 10 y) - 1) (mA S 20 (fr + i)) s.1) - mA S 20 (fr + i)).toInt ≤ (mI S 29).toInt := by rw [fa_le] at q143; exact q143
                      refine r_aload_n dX9_work_169 rfl rfl ?_
                      refine r_getR dX9_work_170 lf_X9_108 rfl rfl (shM_R hsh (j := 42) rfl) (shM_L hsh (j := 42) rfl) ?_
                      refine r_iload dX9_work_173 rfl ?_
                      refine r_iload dX9_work_175 rfl ?_
                      refine r_bipush (v := 12) dX9_work_177 (by decide) ?_
                      refine r_iadd dX9_work_179 ?_
                      refine r_iast dX9_work_180 rfl (show vp_in (nI (gmn s.1 (nn (mA S 10 y) - 1))) 6 from vp_in_nI (by omega) (by omega)) ?_
                      refine R.heap (S2 := wkS Z (fr + i) (upd s.1 (gmn s.1 (nn (mA S 10 y) - 1)) ((wBeg (nn (mA S 10 y) - 1) (mA S 20 (fr + i)) s.1) + 12), s.2)) (by rw [wk_A42, hgc, wk_42]) ?_
                      have hsh : ShM (wkS Z (fr + i) (upd s.1 (gmn s.1 (nn (mA S 10 y) - 1)) ((wBeg (nn (mA S 10 y) - 1) (mA S 20 (fr + i)) s.1) + 12), s.2)) := wk_sh hshZ _ _
                      refine r_aload_n dX9_work_181 rfl rfl ?_
                      refine r_getR dX9_work_182 lf_X9_65 rfl rfl (shM_R hsh (j := 18) rfl) (shM_L hsh (j := 18) rfl) ?_
                      refine r_iload_n dX9_work_185 rfl rfl ?_
                      refine r_dup2 dX9_work_186 rfl rfl ?_
                      refine r_iald dX9_work_187 rfl (show vp_in (nI (fr + i)) 400 from vp_in_nI (by omega) (by omega)) ?_
                      rw [wk_A18, hic, pk_us]
                      refine r_iconst (v := 1) dX9_work_188 (by decide) ?_
                      refine r_iadd dX9_work_189 ?_
                      refine r_iast dX9_work_190 rfl (show vp_in (nI (fr + i)) 400 from vp_in_nI (by omega) (by omega)) ?_
                      refine R.heap (S2 := wkS Z (fr + i) (upd s.1 (gmn s.1 (nn (mA S 10 y) - 1)) ((wBeg (nn (mA S 10 y) - 1) (mA S 20 (fr + i)) s.1) + 12), s.2.1 + 1, s.2.2)) (by rw [wk_A18, hic, wk_18]) ?_
                      have hsh : ShM (wkS Z (fr + i) (upd s.1 (gmn s.1 (nn (mA S 10 y) - 1)) ((wBeg (nn (mA S 10 y) - 1) (mA S 20 (fr + i)) s.1) + 12), s.2.1 + 1, s.2.2)) := wk_sh hshZ _ _
                      refine r_aload_n dX9_work_191 rfl rfl ?_
                      refine r_dup dX9_work_192 rfl ?_
                      refine r_getI dX9_work_193 lf_X9_189 rfl rfl ?_
                      rw [wk_I31]
                      refine r_iconst (v := 1) dX9_work_196 (by decide) ?_
                      refine r_iadd dX9_work_197 ?_
                      refine r_putI dX9_work_198 (lp_X9_189 _) rfl rfl ?_
                      refine R.heap (S2 := wkS Z (fr + i) (upd s.1 (gmn s.1 (nn (mA S 10 y) - 1)) ((wBeg (nn (mA S 10 y) - 1) (mA S 20 (fr + i)) s.1) + 12), s.2.1 + 1, s.2.2.1, s.2.2.2.1, s.2.2.2.2.1, s.2.2.2.2.2.1 + 1, s.2.2.2.2.2.2)) (by rw [wk_31]) ?_
                      have hsh : ShM (wkS Z (fr + i) (upd s.1 (gmn s.1 (nn (mA S 10 y) - 1)) ((wBeg (nn (mA S 10 y) - 1) (mA S 20 (fr + i)) s.1) + 12), s.2.1 + 1, s.2.2.1, s.2.2.2.1, s.2.2.2.2.1, s.2.2.2.2.2.1 + 1, s.2.2.2.2.2.2)) := wk_sh hshZ _ _
                      refine r_aload_n dX9_work_201 rfl rfl ?_
                      refine r_getR dX9_work_202 lf_X9_77 rfl rfl (shM_R hsh (j := 22) rfl) (shM_L hsh (j := 22) rfl) ?_
                      refine r_iload_n dX9_work_205 rfl rfl ?_
                      refine r_aload_n dX9_work_206 rfl rfl ?_
                      refine r_getR dX9_work_207 lf_X9_77 rfl rfl (shM_R hsh (j := 22) rfl) (shM_L hsh (j := 22) rfl) ?_
                      refine r_iload_n dX9_work_210 rfl rfl ?_
                      refine r_iald dX9_work_211 rfl (show vp_in (nI (fr + i)) 400 from vp_in_nI (by omega) (by omega)) ?_
                      rw [wk_A22, hic, pk_us]
                      refine r_iload dX9_work_212 rfl ?_
                      refine r_mmax dX9_work_214 lm_X9_160 (Nat.le_of_ble_eq_true rfl) (Nat.le_of_ble_eq_true rfl) (Nat.zero_le _) (Nat.zero_le _) ?_
                      rw [show (if s.2.2.2.1 < (wBeg (nn (mA S 10 y) - 1) (mA S 20 (fr + i)) s.1) - mA S 20 (fr + i) then (wBeg (nn (mA S 10 y) - 1) (mA S 20 (fr + i)) s.1) - mA S 20 (fr + i) else s.2.2.2.1) = mx2 s.2.2.2.1 ((wBeg (nn (mA S 10 y) - 1) (mA S 20 (fr + i)) s.1) - mA S 20 (fr + i)) from rfl]
                      refine r_iast dX9_work_217 rfl (show vp_in (nI (fr + i)) 400 from vp_in_nI (by omega) (by omega)) ?_
                      refine R.heap (S2 := wkS Z (fr + i) (upd s.1 (gmn s.1 (nn (mA S 10 y) - 1)) ((wBeg (nn (mA S 10 y) - 1) (mA S 20 (fr + i)) s.1) + 12), s.2.1 + 1, s.2.2.1, mx2 s.2.2.2.1 ((wBeg (nn (mA S 10 y) - 1) (mA S 20 (fr + i)) s.1) - mA S 20 (fr + i)), s.2.2.2.2.1, s.2.2.2.2.2.1 + 1, s.2.2.2.2.2.2)) (by rw [wk_A22, hic, wk_22]) ?_
                      have hsh : ShM (wkS Z (fr + i) (upd s.1 (gmn s.1 (nn (mA S 10 y) - 1)) ((wBeg (nn (mA S 10 y) - 1) (mA S 20 (fr + i)) s.1) + 12), s.2.1 + 1, s.2.2.1, mx2 s.2.2.2.1 ((wBeg (nn (mA S 10 y) - 1) (mA S 20 (fr + i)) s.1) - mA S 20 (fr + i)), s.2.2.2.2.1, s.2.2.2.2.2.1 + 1, s.2.2.2.2.2.2)) := wk_sh hshZ _ _
                      refine r_aload_n dX9_work_218 rfl rfl ?_
                      refine r_getR dX9_work_219 lf_X9_80 rfl rfl (shM_R hsh (j := 23) rfl) (shM_L hsh (j := 23) rfl) ?_
                      refine r_iload_n dX9_work_222 rfl rfl ?_
                      refine r_iload dX9_work_223 rfl ?_
                      refine r_bipush (v := 12) dX9_work_225 (by decide) ?_
                      refine r_iadd dX9_work_227 ?_
                      refine r_iast dX9_work_228 rfl (show vp_in (nI (fr + i)) 400 from vp_in_nI (by omega) (by omega)) ?_
                      refine R.heap (S2 := wkS Z (fr + i) (upd s.1 (gmn s.1 (nn (mA S 10 y) - 1)) ((wBeg (nn (mA S 10 y) - 1) (mA S 20 (fr + i)) s.1) + 12), s.2.1 + 1, s.2.2.1, mx2 s.2.2.2.1 ((wBeg (nn (mA S 10 y) - 1) (mA S 20 (fr + i)) s.1) - mA S 20 (fr + i)), (wBeg (nn (mA S 10 y) - 1) (mA S 20 (fr + i)) s.1) + 12, s.2.2.2.2.2.1 + 1, s.2.2.2.2.2.2)) (by rw [wk_A23, hic, wk_23]) ?_
                      refine r_in4 dX9_work_229 (show _ + Int32.ofInt 1 = _ + 1 from rfl) (Nat.le_of_ble_eq_true rfl) rfl ?_
                      refine r_goto 38 dX9_work_232 (by decide) ?_
                      rw [nI_1 k]
                      first
                        | (have hw2 := hwP
                           have h9 := ihK (some (.int (nI (gmn s.1 (nn (mA S 10 y) - 1)))), some (.int (wBeg (nn (mA S 10 y) - 1) (mA S 20 (fr + i)) s.1)), some (.int (wBeg (nn (mA S 10 y) - 1) (mA S 20 (fr + i)) s.1 - mA S 20 (fr + i)))) trivial
                           rw [show wNext (nn (mA S 10 y) - 1) (mA S 20 (fr + i)) (mI S 29) s = _ from if_pos hw2] at h9
                           exact h9)
                        | (have hw2 := hwN
                           have h9 := ihK (some (.int (nI (gmn s.1 (nn (mA S 10 y) - 1)))), some (.int (wBeg (nn (mA S 10 y) - 1) (mA S 20 (fr + i)) s.1)), some (.int (wBeg (nn (mA S 10 y) - 1) (mA S 20 (fr + i)) s.1 - mA S 20 (fr + i)))) trivial
                           rw [show wNext (nn (mA S 10 y) - 1) (mA S 20 (fr + i)) (mI S 29) s = _ from if_neg hw2] at h9
                           exact h9)
                    · skip
                      have hwN : ¬ ((wBeg (nn (mA S 10 y) - 1) (mA S 20 (fr + i)) s.1) - mA S 20 (fr + i)).toInt ≤ (mI S 29).toInt := by rw [fa_le] at q143; exact q143
                      refine r_aload_n dX9_work_146 rfl rfl ?_
                      refine r_getR dX9_work_147 lf_X9_68 rfl rfl (shM_R hsh (j := 19) rfl) (shM_L hsh (j := 19) rfl) ?_
                      refine r_iload_n dX9_work_150 rfl rfl ?_
                      refine r_dup2 dX9_work_151 rfl rfl ?_
                      refine r_iald dX9_work_152 rfl (show vp_in (nI (fr + i)) 400 from vp_in_nI (by omega) (by omega)) ?_
                      rw [wk_A19, hic, pk_us]
                      refine r_iconst (v := 1) dX9_work_153 (by decide) ?_
                      refine r_iadd dX9_work_154 ?_
                      refine r_iast dX9_work_155 rfl (show vp_in (nI (fr + i)) 400 from vp_in_nI (by omega) (by omega)) ?_
                      refine R.heap (S2 := wkS Z (fr + i) (s.1, s.2.1, s.2.2.1 + 1, s.2.2.2)) (by rw [wk_A19, hic, wk_19]) ?_
                      have hsh : ShM (wkS Z (fr + i) (s.1, s.2.1, s.2.2.1 + 1, s.2.2.2)) := wk_sh hshZ _ _
                      refine r_aload_n dX9_work_156 rfl rfl ?_
                      refine r_dup dX9_work_157 rfl ?_
                      refine r_getI dX9_work_158 lf_X9_186 rfl rfl ?_
                      rw [wk_I32]
                      refine r_iconst (v := 1) dX9_work_161 (by decide) ?_
                      refine r_iadd dX9_work_162 ?_
                      refine r_putI dX9_work_163 (lp_X9_186 _) rfl rfl ?_
                      refine R.heap (S2 := wkS Z (fr + i) (s.1, s.2.1, s.2.2.1 + 1, s.2.2.2.1, s.2.2.2.2.1, s.2.2.2.2.2.1, s.2.2.2.2.2.2 + 1)) (by rw [wk_32]) ?_
                      have hsh : ShM (wkS Z (fr + i) (s.1, s.2.1, s.2.2.1 + 1, s.2.2.2.1, s.2.2.2.2.1, s.2.2.2.2.2.1, s.2.2.2.2.2.2 + 1)) := wk_sh hshZ _ _
                      refine r_goto 229 dX9_work_166 (by decide) ?_
                      skip
                      refine r_in4 dX9_work_229 (show _ + Int32.ofInt 1 = _ + 1 from rfl) (Nat.le_of_ble_eq_true rfl) rfl ?_
                      refine r_goto 38 dX9_work_232 (by decide) ?_
                      rw [nI_1 k]
                      first
                        | (have hw2 := hwP
                           have h9 := ihK (some (.int (nI (gmn s.1 (nn (mA S 10 y) - 1)))), some (.int (wBeg (nn (mA S 10 y) - 1) (mA S 20 (fr + i)) s.1)), some (.int (wBeg (nn (mA S 10 y) - 1) (mA S 20 (fr + i)) s.1 - mA S 20 (fr + i)))) trivial
                           rw [show wNext (nn (mA S 10 y) - 1) (mA S 20 (fr + i)) (mI S 29) s = _ from if_pos hw2] at h9
                           exact h9)
                        | (have hw2 := hwN
                           have h9 := ihK (some (.int (nI (gmn s.1 (nn (mA S 10 y) - 1)))), some (.int (wBeg (nn (mA S 10 y) - 1) (mA S 20 (fr + i)) s.1)), some (.int (wBeg (nn (mA S 10 y) - 1) (mA S 20 (fr + i)) s.1 - mA S 20 (fr + i)))) trivial
                           rw [show wNext (nn (mA S 10 y) - 1) (mA S 20 (fr + i)) (mI S 29) s = _ from if_neg hw2] at h9
                           exact h9)
                  · skip
                    exact absurd (by rw [show (nn (mA S 10 y) - 1) + 1 = nn (mA S 10 y) by omega, hcI]; exact Int32.le_refl _) q73
                · intro c a hc hI ih
                  have hcc : (nI (c + 1)).toInt = ((c + 1 : Nat) : Int) := nI_toInt (by omega)
                  have hcd : (nI (c + 1)).toNatClampNeg = c + 1 := nI_clamp (by omega)
                  have hgl := gmn_le s.1 c
                  have hgi : (nI (gmn s.1 c)).toInt = ((gmn s.1 c : Nat) : Int) := nI_toInt (by omega)
                  have hgc : (nI (gmn s.1 c)).toNatClampNeg = gmn s.1 c := nI_clamp (by omega)
                  refine r_iload dX9_work_65 rfl ?_
                  refine r_aload_n dX9_work_67 rfl rfl ?_
                  refine r_getR dX9_work_68 lf_X9_41 rfl rfl (shM_R hsh (j := 10) rfl) (shM_L hsh (j := 10) rfl) ?_
                  refine r_iload_n dX9_work_71 rfl rfl ?_
                  refine r_iald dX9_work_72 rfl (show vp_in (nI y) 4 from vp_in_nI (by omega) (by omega)) ?_
                  rw [k10, hyc]
                  refine r_icmp_ge 108 dX9_work_73 (by decide) (fun q73 => ?_) (fun q73 => ?_)
                  · skip
                    exact absurd q73 (by rw [← hcI, fa_le, hcc, nI_toInt (by omega)]; omega)
                  · skip
                    refine r_aload_n dX9_work_76 rfl rfl ?_
                    refine r_getR dX9_work_77 lf_X9_108 rfl rfl (shM_R hsh (j := 42) rfl) (shM_L hsh (j := 42) rfl) ?_
                    refine r_iload dX9_work_80 rfl ?_
                    refine r_iald dX9_work_82 rfl (show vp_in (nI (c + 1)) 6 from vp_in_nI (by omega) (by omega)) ?_
                    rw [wk_A42, hcd]
                    refine r_aload_n dX9_work_83 rfl rfl ?_
                    refine r_getR dX9_work_84 lf_X9_108 rfl rfl (shM_R hsh (j := 42) rfl) (shM_L hsh (j := 42) rfl) ?_
                    refine r_iload dX9_work_87 rfl ?_
                    refine r_iald dX9_work_89 rfl (show vp_in (nI (gmn s.1 c)) 6 from vp_in_nI (by omega) (by omega)) ?_
                    rw [wk_A42, hgc]
                    refine r_icmp_ge 98 dX9_work_90 (by decide) (fun q90 => ?_) (fun q90 => ?_)
                    · skip
                      have q90T : ¬ (s.1 (c + 1)).toInt < (s.1 (gmn s.1 c)).toInt := by rw [fa_le] at q90; omega
                      refine r_iload dX9_work_98 rfl ?_
                      refine r_ist5 dX9_work_100 (Nat.le_of_ble_eq_true rfl) rfl ?_
                      refine r_in6 dX9_work_102 (show _ + Int32.ofInt 1 = _ + 1 from rfl) (Nat.le_of_ble_eq_true rfl) rfl ?_
                      refine r_goto 65 dX9_work_105 (by decide) ?_
                      rw [nI_1 (c + 1)]
                      have h9 := ih () trivial
                      first
                        | (have qf := q90F
                           rw [show gmn s.1 (c + 1) = c + 1 from if_pos qf] at h9
                           exact h9)
                        | (have qt := q90T
                           rw [show gmn s.1 (c + 1) = gmn s.1 c from if_neg qt] at h9
                           exact h9)
                    · skip
                      have q90F : (s.1 (c + 1)).toInt < (s.1 (gmn s.1 c)).toInt := by rw [fa_le] at q90; omega
                      refine r_iload dX9_work_93 rfl ?_
                      refine r_goto 100 dX9_work_95 (by decide) ?_
                      refine r_ist5 dX9_work_100 (Nat.le_of_ble_eq_true rfl) rfl ?_
                      refine r_in6 dX9_work_102 (show _ + Int32.ofInt 1 = _ + 1 from rfl) (Nat.le_of_ble_eq_true rfl) rfl ?_
                      refine r_goto 65 dX9_work_105 (by decide) ?_
                      rw [nI_1 (c + 1)]
                      have h9 := ih () trivial
                      first
                        | (have qf := q90F
                           rw [show gmn s.1 (c + 1) = c + 1 from if_pos qf] at h9
                           exact h9)
                        | (have qt := q90T
                           rw [show gmn s.1 (c + 1) = gmn s.1 c from if_neg qt] at h9
                           exact h9)
    · skip
      exact absurd (by rw [hyc, h10, hcI]; exact Int32.le_refl _) q9
  · intro i a hi hI ih
    have hii : (nI i).toInt = i := nI_toInt (by omega)
    have hic : (nI i).toNatClampNeg = i := nI_clamp (by omega)
    have hsh : ShM (setA S (ma 42) (fillR (fun _ => 0) (mA S 42) i)) := h.setA _ _
    have h10 : sA (setA S (ma 42) (fillR (fun _ => 0) (mA S 42) i)) (ma 10) = mA S 10 := sA_setn (by decide)
    refine r_iload_n dX9_work_2 rfl rfl ?_
    refine r_aload_n dX9_work_3 rfl rfl ?_
    refine r_getR dX9_work_4 lf_X9_41 rfl rfl (shM_R hsh (j := 10) rfl) (shM_L hsh (j := 10) rfl) ?_
    refine r_iload_n dX9_work_7 rfl rfl ?_
    refine r_iald dX9_work_8 rfl (show vp_in (nI y) 4 from vp_in_nI (by omega) (by omega)) ?_
    refine r_icmp_ge 25 dX9_work_9 (by decide) (fun q9 => ?_) (fun q9 => ?_)
    · skip
      exact absurd q9 (by rw [hyc, h10, ← hcI, fa_le, hii, nI_toInt (by omega)]; omega)
    · skip
      refine r_aload_n dX9_work_12 rfl rfl ?_
      refine r_getR dX9_work_13 lf_X9_108 rfl rfl (shM_R hsh (j := 42) rfl) (shM_L hsh (j := 42) rfl) ?_
      refine r_iload_n dX9_work_16 rfl rfl ?_
      refine r_iconst (v := 0) dX9_work_17 (by decide) ?_
      refine r_iast dX9_work_18 rfl (show vp_in (nI i) 6 from vp_in_nI (by omega) (by omega)) ?_
      refine r_in3 dX9_work_19 (show _ + Int32.ofInt 1 = _ + 1 from rfl) (Nat.le_of_ble_eq_true rfl) rfl ?_
      refine r_goto 2 dX9_work_22 (by decide) ?_
      rw [nI_1 i, hic, sA_set, setA_setA]
      exact ih () trivial
