/-! ===== the system: all catches sold; lots gutted ===== -/
def runF {α : Type} (c : α → Bool) (f : α → α) : Nat → α → α
  | 0, s => s
  | n + 1, s => if c s = true then runF c f n (f s) else s
theorem runF_eq {α : Type} {c : α → Bool} {f : α → α} {it : Nat → α} (hs : ∀ k, it (k + 1) = f (it k)) : ∀ (n k j : Nat), k ≤ n → (∀ i, i < k → c (it (j + i)) = true) → (k = n ∨ ¬ c (it (j + k)) = true) → runF c f n (it j) = it (j + k)
  | 0, k, j, hk, _, _ => by
    have e : k = 0 := by omega
    rw [e]; rfl
  | n + 1, 0, j, _, _, he => by
    have : ¬ c (it j) = true := by
      rcases he with q | q
      · cases q
      · exact q
    show (if c (it j) = true then _ else it j) = it (j + 0)
    rw [if_neg this]; rfl
  | n + 1, k + 1, j, hk, hc, he => by
    show (if c (it j) = true then runF c f n (f (it j)) else it j) = _
    rw [if_pos (show c (it j) = true from hc 0 (by omega)), ← hs j, runF_eq hs n k (j + 1) (by omega) (fun i hi => by rw [show j + 1 + i = j + (i + 1) by omega]; exact hc (i + 1) (by omega)) (by
      rcases he with q | q
      · exact Or.inl (by omega)
      · exact Or.inr (by rw [show j + 1 + k = j + (k + 1) by omega]; exact q))]
    congr 1
    omega
def slB (p : HS × Int32) : Bool := decide (0 < p.2.toInt ∧ (0 ≤ (buyS p.1).toInt ∧ (buyS p.1).toInt < (cI p.1 10).toInt) ∧ (cI p.1 11).toInt < 400)
theorem slB_iff {p : HS × Int32} : slB p = true ↔ slC p.1 p.2 := decide_eq_true_iff
def slR (b : Nat) (m : Int32) (S : HS) : HS × Int32 := runF slB (fun p => (slH p.1 b m p.2, p.2 - slN p.1 p.2)) 4 (S, sI S (fid 0 5) (100 + 3 * b))
def slF (b : Nat) (m : Int32) (S : HS) : HS := setI (slR b m S).1 (fid 8 17) 0 (sI (slR b m S).1 (fid 8 17) 0 + (slR b m S).2)
theorem slD_R {b : Nat} {m : Int32} {S : HS} {k : Nat} (h : slD b m S k) : slR b m S = slI b m S (sI S (fid 0 5) (100 + 3 * b)) k := by
  have := runF_eq (c := slB) (f := fun p => (slH p.1 b m p.2, p.2 - slN p.1 p.2)) (it := slI b m S (sI S (fid 0 5) (100 + 3 * b))) (fun _ => rfl) 4 k 0 h.1 (fun i hi => by rw [Nat.zero_add]; exact slB_iff.mpr (h.2.1 i hi)) (by
    rcases h.2.2 with q | q
    · exact Or.inl q
    · exact Or.inr (by rw [Nat.zero_add]; exact fun z => q (slB_iff.mp z)))
  rw [Nat.zero_add] at this
  exact this
theorem slD_E {b : Nat} {m : Int32} {S : HS} {k : Nat} (h : slD b m S k) : slE b m S k = slF b m S := by
  unfold slE slF
  rw [slD_R h]
theorem first_not (P : Nat → Prop) : ∀ n, ∃ k, k ≤ n ∧ (∀ j, j < k → P j) ∧ (k = n ∨ ¬ P k)
  | 0 => ⟨0, Nat.le_refl _, fun j hj => absurd hj (Nat.not_lt_zero _), Or.inl rfl⟩
  | n + 1 => by
    obtain ⟨k, hk, h1, h2⟩ := first_not P n
    by_cases q : P k
    · rcases h2 with e | e
      · refine ⟨n + 1, Nat.le_refl _, fun j hj => ?_, Or.inl rfl⟩
        by_cases z : j = k
        · rw [z]; exact q
        · exact h1 j (by omega)
      · exact absurd q e
    · exact ⟨k, by omega, h1, Or.inr q⟩
theorem slR_k (b : Nat) (m : Int32) (S : HS) : ∃ k, slD b m S k := first_not (fun k => slC (slI b m S (sI S (fid 0 5) (100 + 3 * b)) k).1 (slI b m S (sI S (fid 0 5) (100 + 3 * b)) k).2) 4
theorem slF_sh {b : Nat} {m : Int32} {S : HS} (h : ShC S) : ShC (slF b m S) := by
  obtain ⟨k, hk⟩ := slR_k b m S
  rw [← slD_E hk]
  exact (slI_sh h hk.2.1).same rfl rfl rfl (sI_setIn (Or.inl (by decide))) (sI_setIn (Or.inl (by decide))) (sI_setIn (Or.inl (by decide)))
theorem slI_I {b : Nat} {m : Int32} {S : HS} {x : Int32} {f : Nat} (hf : f = fid 8 9 ∨ f = fid 8 10 ∨ f = fid 8 12 ∨ f = fid 8 17) : ∀ k, sI (slI b m S x k).1 f 0 = sI S f 0
  | 0 => rfl
  | k + 1 => by
    show sI (slH (slI b m S x k).1 b m (slI b m S x k).2) f 0 = _
    rw [slH_I hf, slI_I hf k]
theorem slF_I {b : Nat} {m : Int32} {S : HS} {f : Nat} (hf : f = fid 8 9 ∨ f = fid 8 10 ∨ f = fid 8 12) : sI (slF b m S) f 0 = sI S f 0 := by
  obtain ⟨k, hk⟩ := slR_k b m S
  rw [← slD_E hk]
  unfold slE
  rw [sI_setIn (Or.inl (by rcases hf with q | q | q <;> (rw [q]; decide))), slI_I (by rcases hf with q | q | q <;> simp [q])]
/-- boat b is sold in the round of s steps -/
def saC (S : HS) (s b : Nat) : Prop := 0 < (sI S (fid 0 5) (100 + 3 * b)).toInt ∧ stepsF (sI S (fid 0 3) (100 + 3 * b)) = nI s
def saD (S : HS) (s b : Nat) : Decidable (saC S s b) := by unfold saC; exact inferInstance
def saB (s : Nat) (S : HS) : Nat → HS
  | 0 => S
  | b + 1 => @ite _ (saC (saB s S b) s b) (saD (saB s S b) s b) (slF b (30 * (nI s + 1)) (saB s S b)) (saB s S b)
def saA (S : HS) : Nat → HS
  | 0 => S
  | s + 1 => saB s (saA S s) (nn (cI S 9))
theorem saB_sh {s : Nat} {S : HS} (h : ShC S) : ∀ b, ShC (saB s S b)
  | 0 => h
  | b + 1 => by
    unfold saB
    by_cases q : saC (saB s S b) s b
    · rw [if_pos q]; exact slF_sh (saB_sh h b)
    · rw [if_neg q]; exact saB_sh h b
theorem saA_sh {S : HS} (h : ShC S) : ∀ s, ShC (saA S s)
  | 0 => h
  | s + 1 => saB_sh (saA_sh h s) _
theorem saB_I {s : Nat} {S : HS} {f : Nat} (hf : f = fid 8 9 ∨ f = fid 8 10 ∨ f = fid 8 12) : ∀ b, sI (saB s S b) f 0 = sI S f 0
  | 0 => rfl
  | b + 1 => by
    unfold saB
    by_cases q : saC (saB s S b) s b
    · rw [if_pos q, slF_I hf]; exact saB_I hf b
    · rw [if_neg q]; exact saB_I hf b
theorem saA_I {S : HS} {f : Nat} (hf : f = fid 8 9 ∨ f = fid 8 10 ∨ f = fid 8 12) : ∀ s, sI (saA S s) f 0 = sI S f 0
  | 0 => rfl
  | s + 1 => by
    show sI (saB s (saA S s) _) f 0 = _
    rw [saB_I hf, saA_I hf s]
theorem R.forB {l : Launch} {G : va_G} {cy : Nat → ClassId} {y : MethodName} {b : ByteArray} {nL : Nat} {rt : Option FieldType} {d mc ms : Nat} {Q : Option Value → HS → Prop} {pc : Nat} {st : List Value} {α : Type} (kf nf : Nat → Nat) (N : Nat) (lvf : Nat → α → List (Option Value)) (Sf : Nat → α → HS) (I : Nat → α → Prop) (hx : ∀ a k n, I N a → k ≤ kf N → n ≤ nf N → R l G cy y b nL rt d mc ms Q pc (lvf N a) st (Sf N a) k n) (hs : ∀ i a k n, i < N → I i a → k ≤ kf i → n ≤ nf i → (∀ a' k' n', I (i + 1) a' → k' ≤ kf (i + 1) → n' ≤ nf (i + 1) → R l G cy y b nL rt d mc ms Q pc (lvf (i + 1) a') st (Sf (i + 1) a') k' n') → R l G cy y b nL rt d mc ms Q pc (lvf i a) st (Sf i a) k n) : ∀ i a k n, i ≤ N → I i a → k ≤ kf i → n ≤ nf i → R l G cy y b nL rt d mc ms Q pc (lvf i a) st (Sf i a) k n := by
  intro i
  generalize hu : N - i = u
  induction u generalizing i with
  | zero =>
    intro a k n hi hI hk hn
    have e : i = N := by omega
    subst e
    exact hx a k n hI hk hn
  | succ u ih => exact fun a k n hi hI hk hn => hs i a k n (by omega) hI hk hn (fun a' k' n' hI' hk' hn' => ih (i + 1) (by omega) a' k' n' (by omega) hI' hk' hn')
set_option maxHeartbeats 4000000 in
theorem c_X8_sellAllCatches {l : Launch} {G : va_G} {cy : Nat → ClassId} (S : HS) (h : ShC S) : Cn l G cy yX8_sellAllCatches cX8_sellAllCatches 4 none 4 [.ref 0] S 528 5808 (qV (fun S2 => S2 = saA S 11)) := by
  refine Cn.of [some (.ref 0), none, none, none] (by decide) rfl (Nat.le_of_ble_eq_true rfl) ?_
  have hbv := h.b
  have hnb : nn (cI S 9) ≤ 12 := by unfold nn; omega
  have hnbI : nI (nn (cI S 9)) = cI S 9 := nI_nn hbv.1
  refine r_iconst (v := 0) dX8_sellAllCatches_0 (by decide) ?_
  refine r_ist1 dX8_sellAllCatches_1 (Nat.le_of_ble_eq_true rfl) rfl ?_
  refine R.forB (α := Option Value × Option Value) (fun i => 48 * i) (fun i => 528 * i) (11) (fun i a => [some (.ref 0), some (.int (nI i)), a.1, a.2]) (fun i a => (saA S i)) (fun i a => True) ?_ ?_ 0 (none, none) _ _ (Nat.zero_le _) trivial (by (try dsimp only); omega) (by (try dsimp only); omega)
  · intro a kc nc hI hkc hnc
    refine r_iload_n dX8_sellAllCatches_2 rfl rfl ?_
    refine r_bipush (v := 10) dX8_sellAllCatches_3 (by decide) ?_
    refine r_icmp_gt 70 dX8_sellAllCatches_5 (by decide) (fun q5 => ?_) (fun q5 => ?_)
    · skip
      exact r_vret dX8_sellAllCatches_70 rfl (by (try dsimp only at *); omega) (by (try dsimp only at *); omega) ⟨rfl, rfl⟩
    · skip
      exact absurd (by decide) q5
  · intro i a kc nc hi hI hkc hnc ih
    have hii : (nI i).toInt = i := nI_toInt (by omega)
    obtain ⟨a1, a⟩ := a
    dsimp only at *
    refine r_iload_n dX8_sellAllCatches_2 rfl rfl ?_
    refine r_bipush (v := 10) dX8_sellAllCatches_3 (by decide) ?_
    refine r_icmp_gt 70 dX8_sellAllCatches_5 (by decide) (fun q5 => ?_) (fun q5 => ?_)
    · skip
      exact absurd q5 (by rw [fa_lt, hii]; have : (10 : Int32).toInt = 10 := rfl; omega)
    · skip
      refine r_iconst (v := 0) dX8_sellAllCatches_8 (by decide) ?_
      refine r_ist2 dX8_sellAllCatches_9 (Nat.le_of_ble_eq_true rfl) rfl ?_
      refine R.forB (α := Option Value) (fun j => 48 * i + 4 * j) (fun j => 528 * i + 44 * j) (nn (cI S 9)) (fun j a => [some (.ref 0), some (.int (nI i)), some (.int (nI j)), a]) (fun j a => (saB i (saA S i) j)) (fun j a => True) ?_ ?_ 0 a _ _ (Nat.zero_le _) trivial (by (try dsimp only); omega) (by (try dsimp only); omega)
      · intro a kc1 nc1 hI hkc1 hnc1
        have h9 : cI (saB i (saA S i) (nn (cI S 9))) 9 = cI S 9 := by rw [show cI (saB i (saA S i) (nn (cI S 9))) 9 = sI (saB i (saA S i) (nn (cI S 9))) (fid 8 9) 0 from rfl, saB_I (Or.inl rfl), saA_I (Or.inl rfl)]
        refine r_iload_n dX8_sellAllCatches_10 rfl rfl ?_
        refine r_aload_n dX8_sellAllCatches_11 rfl rfl ?_
        refine r_getI dX8_sellAllCatches_12 lf_X8_89 rfl rfl ?_
        refine r_icmp_ge 64 dX8_sellAllCatches_15 (by decide) (fun q15 => ?_) (fun q15 => ?_)
        · skip
          refine r_in1 dX8_sellAllCatches_64 (show _ + Int32.ofInt 1 = _ + 1 from rfl) (Nat.le_of_ble_eq_true rfl) rfl ?_
          refine r_goto 2 dX8_sellAllCatches_67 (by decide) ?_
          rw [nI_1 i]
          exact ih (some (.int (nI (nn (cI S 9)))), a) _ _ trivial (by (try dsimp only at *); omega) (by (try dsimp only at *); omega)
        · skip
          exact absurd (by rw [show sI (saB i (saA S i) (nn (cI S 9))) (fid 8 9) 0 = cI S 9 from h9, hnbI]; exact Int32.le_refl _) q15
      · intro j a kc1 nc1 hj hI hkc1 hnc1 ih
        have hjj : (nI j).toInt = j := nI_toInt (by omega)
        have hjn : nn (nI j) = j := by unfold nn; omega
        have hsh : ShC (saB i (saA S i) j) := saB_sh (saA_sh h i) j
        have h9 : sI (saB i (saA S i) j) (fid 8 9) 0 = cI S 9 := by rw [saB_I (Or.inl rfl), saA_I (Or.inl rfl)]
        have e1 : saB i (saA S i) (j + 1) = @ite _ (saC (saB i (saA S i) j) i j) (saD (saB i (saA S i) j) i j) (slF j (30 * (nI i + 1)) (saB i (saA S i) j)) (saB i (saA S i) j) := rfl
        rw [e1] at ih
        generalize (saB i (saA S i) j) = Z at ih hsh h9 e1 ⊢
        have hkb := tkB (show j < 12 by omega)
        refine r_iload_n dX8_sellAllCatches_10 rfl rfl ?_
        refine r_aload_n dX8_sellAllCatches_11 rfl rfl ?_
        refine r_getI dX8_sellAllCatches_12 lf_X8_89 rfl rfl ?_
        refine r_icmp_ge 64 dX8_sellAllCatches_15 (by decide) (fun q15 => ?_) (fun q15 => ?_)
        · skip
          exact absurd q15 (by rw [h9, ← hnbI, fa_le, hjj, nI_toInt (by omega)]; omega)
        · skip
          refine r_aload_n dX8_sellAllCatches_18 rfl rfl ?_
          refine r_iload_n dX8_sellAllCatches_19 rfl rfl ?_
          refine r_invV1r dX8_sellAllCatches_20 lm_X8_95 rfl (c_X8_boatAt (nI j) Z hsh) (Nat.le_of_ble_eq_true rfl) (Nat.le_of_ble_eq_true rfl) (by (try dsimp only at *); omega) (by (try dsimp only at *); omega) (fun r20 S20 hq20 => ?_)
          obtain ⟨hr20, hz20⟩ := hq20
          replace hz20 := hz20.symm
          subst hz20
          rw [if_pos (show 0 ≤ (nI j).toInt ∧ (nI j).toInt < (cI Z 9).toInt from ⟨by omega, by rw [show cI Z 9 = cI S 9 from h9, hjj]; unfold nn at hj; omega⟩), hjn] at hr20
          subst hr20
          refine r_ast3 dX8_sellAllCatches_23 (Nat.le_of_ble_eq_true rfl) rfl ?_
          refine r_aload_n dX8_sellAllCatches_24 rfl rfl ?_
          refine r_ifnull dX8_sellAllCatches_25 ?_
          refine r_aload_n dX8_sellAllCatches_28 rfl rfl ?_
          refine r_getI dX8_sellAllCatches_29 lf_X8_204 rfl (by first | assumption | rfl) ?_
          refine r_if_le 58 dX8_sellAllCatches_32 (by decide) (fun q32 => ?_) (fun q32 => ?_)
          · skip
            refine r_in2 dX8_sellAllCatches_58 (show _ + Int32.ofInt 1 = _ + 1 from rfl) (Nat.le_of_ble_eq_true rfl) rfl ?_
            refine r_goto 10 dX8_sellAllCatches_61 (by decide) ?_
            first
              | (have hcc : ¬ saC Z i j := fun q => (by have := q.1; rw [fa_le] at q32; have h0 : (0 : Int32).toInt = 0 := rfl; omega)
                 have h9' := ih (some (.ref (100 + 3 * j))) kc1 nc1 trivial (by (try dsimp only at *); omega) (by (try dsimp only at *); omega)
                 rw [if_neg hcc] at h9'
                 rw [nI_1 j]
                 exact h9')
              | (have hcc : ¬ saC Z i j := fun q => q43 q.2
                 have h9' := ih (some (.ref (100 + 3 * j))) kc1 nc1 trivial (by (try dsimp only at *); omega) (by (try dsimp only at *); omega)
                 rw [if_neg hcc] at h9'
                 rw [nI_1 j]
                 exact h9')
              | (have hcc : saC Z i j := ⟨by rw [fa_le] at q32; have h0 : (0 : Int32).toInt = 0 := rfl; omega, q43⟩
                 have h9' := ih (some (.ref (100 + 3 * j))) (kc1 + 4) (nc1 + 44) trivial (by (try dsimp only at *); omega) (by (try dsimp only at *); omega)
                 rw [if_pos hcc] at h9'
                 rw [nI_1 j]
                 exact h9')
          · skip
            refine r_aload_n dX8_sellAllCatches_35 rfl rfl ?_
            refine r_getI dX8_sellAllCatches_36 lf_X8_99 rfl (by first | assumption | rfl) ?_
            refine r_invS1i dX8_sellAllCatches_39 lm_X8_279 (c_X4_stepsFrom _ Z) (Nat.le_of_ble_eq_true rfl) (Nat.le_of_ble_eq_true rfl) (by (try dsimp only at *); omega) (by (try dsimp only at *); omega) (fun r39 S39 hq39 => ?_)
            obtain ⟨rfl, hz39⟩ := hq39
            replace hz39 := hz39.symm
            subst hz39
            refine r_iload_n dX8_sellAllCatches_42 rfl rfl ?_
            refine r_icmp_ne 58 dX8_sellAllCatches_43 (by decide) (fun q43 => ?_) (fun q43 => ?_)
            · skip
              refine r_in2 dX8_sellAllCatches_58 (show _ + Int32.ofInt 1 = _ + 1 from rfl) (Nat.le_of_ble_eq_true rfl) rfl ?_
              refine r_goto 10 dX8_sellAllCatches_61 (by decide) ?_
              first
                | (have hcc : ¬ saC Z i j := fun q => (by have := q.1; rw [fa_le] at q32; have h0 : (0 : Int32).toInt = 0 := rfl; omega)
                   have h9' := ih (some (.ref (100 + 3 * j))) kc1 nc1 trivial (by (try dsimp only at *); omega) (by (try dsimp only at *); omega)
                   rw [if_neg hcc] at h9'
                   rw [nI_1 j]
                   exact h9')
                | (have hcc : ¬ saC Z i j := fun q => q43 q.2
                   have h9' := ih (some (.ref (100 + 3 * j))) kc1 nc1 trivial (by (try dsimp only at *); omega) (by (try dsimp only at *); omega)
                   rw [if_neg hcc] at h9'
                   rw [nI_1 j]
                   exact h9')
                | (have hcc : saC Z i j := ⟨by rw [fa_le] at q32; have h0 : (0 : Int32).toInt = 0 := rfl; omega, q43⟩
                   have h9' := ih (some (.ref (100 + 3 * j))) (kc1 + 4) (nc1 + 44) trivial (by (try dsimp only at *); omega) (by (try dsimp only at *); omega)
                   rw [if_pos hcc] at h9'
                   rw [nI_1 j]
                   exact h9')
            · skip
              refine r_aload_n dX8_sellAllCatches_46 rfl rfl ?_
              refine r_iload_n dX8_sellAllCatches_47 rfl rfl ?_
              refine r_aload_n dX8_sellAllCatches_48 rfl rfl ?_
              refine r_bipush (v := 30) dX8_sellAllCatches_49 (by decide) ?_
              refine r_iload_n dX8_sellAllCatches_51 rfl rfl ?_
              refine r_iconst (v := 1) dX8_sellAllCatches_52 (by decide) ?_
              refine r_iadd dX8_sellAllCatches_53 ?_
              refine r_imul dX8_sellAllCatches_54 ?_
              refine r_invV3v dX8_sellAllCatches_55 lm_X8_282 rfl (c_X8_sellCatch j (30 * (nI i + 1)) Z hsh (by omega)) (Nat.le_of_ble_eq_true rfl) (Nat.le_of_ble_eq_true rfl) (by (try dsimp only at *); omega) (by (try dsimp only at *); omega) (fun S55 hq55 => ?_)
              obtain ⟨kk55, hd55, hz55⟩ := hq55
              rw [slD_E hd55] at hz55
              replace hz55 := hz55.symm
              subst hz55
              refine r_in2 dX8_sellAllCatches_58 (show _ + Int32.ofInt 1 = _ + 1 from rfl) (Nat.le_of_ble_eq_true rfl) rfl ?_
              refine r_goto 10 dX8_sellAllCatches_61 (by decide) ?_
              first
                | (have hcc : ¬ saC Z i j := fun q => (by have := q.1; rw [fa_le] at q32; have h0 : (0 : Int32).toInt = 0 := rfl; omega)
                   have h9' := ih (some (.ref (100 + 3 * j))) kc1 nc1 trivial (by (try dsimp only at *); omega) (by (try dsimp only at *); omega)
                   rw [if_neg hcc] at h9'
                   rw [nI_1 j]
                   exact h9')
                | (have hcc : ¬ saC Z i j := fun q => q43 q.2
                   have h9' := ih (some (.ref (100 + 3 * j))) kc1 nc1 trivial (by (try dsimp only at *); omega) (by (try dsimp only at *); omega)
                   rw [if_neg hcc] at h9'
                   rw [nI_1 j]
                   exact h9')
                | (have hcc : saC Z i j := ⟨by rw [fa_le] at q32; have h0 : (0 : Int32).toInt = 0 := rfl; omega, q43⟩
                   have h9' := ih (some (.ref (100 + 3 * j))) (kc1 + 4) (nc1 + 44) trivial (by (try dsimp only at *); omega) (by (try dsimp only at *); omega)
                   rw [if_pos hcc] at h9'
                   rw [nI_1 j]
                   exact h9')
