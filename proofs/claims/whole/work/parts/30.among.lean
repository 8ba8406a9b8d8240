/-! ===== the reference: parting ===== -/
def shT (n : Nat) (m : Nat → Nat) (many : Nat) (old : Nat → Int32) (t : Nat) : Nat → Int32 := fun k => if k < many then nI (pQ n m many k + (if gvP (pT n m many) many t k = true then 1 else 0)) else old k
def moT (n : Nat) (m : Nat → Nat) (many : Nat) (old : Nat → Int32) (t : Nat) : Nat → Int32 := fun k => if k < many then (if gvP (pT n m many) many t k = true then 1 else 0) else old k
def paS (n : Nat) (m : Nat → Nat) (many : Nat) (S : HS) (t : Nat) : HS := setA (setA S (ma 36) (shT n m many (mA S 36) t)) (ma 37) (moT n m many (mA S 37) t)
theorem fillR_eq {g old : Nat → Int32} (n : Nat) : fillR g old n = fun k => if k < n then g k else old k := by
  funext k
  split
  · rename_i h; exact fillR_in h
  · rename_i h; exact fillR_out (by omega)
theorem shT_step {n : Nat} {m : Nat → Nat} {many t b : Nat} {old : Nat → Int32} (hp : pkB (gvP (pT n m many) many t) (pT n m many) many = some b) : upd (shT n m many old t) b (shT n m many old t b + 1) = shT n m many old (t + 1) := by
  obtain ⟨h1, h2, -, -⟩ := pkB_some hp
  funext k
  unfold shT
  rw [gvP_step hp]
  by_cases hk : k = b
  · subst hk
    rw [pk_us, if_pos h1, if_pos h1, h2, if_neg (by simp), if_pos (by simp), nI_1]
  · rw [pk_un hk]
    simp only [hk, if_false]
theorem moT_step {n : Nat} {m : Nat → Nat} {many t b : Nat} {old : Nat → Int32} (hp : pkB (gvP (pT n m many) many t) (pT n m many) many = some b) : upd (moT n m many old t) b 1 = moT n m many old (t + 1) := by
  obtain ⟨h1, h2, -, -⟩ := pkB_some hp
  funext k
  unfold moT
  rw [gvP_step hp]
  by_cases hk : k = b
  · subst hk
    rw [pk_us, if_pos h1, if_pos (by simp)]
  · rw [pk_un hk]
    simp only [hk, if_false]
def bI (o : Option Nat) : Int32 := match o with
  | none => -1
  | some b => nI b
def bR (r : Nat → Nat) (o : Option Nat) : Nat := match o with
  | none => 0
  | some b => r b
theorem bI_neg {o : Option Nat} {n : Nat} (hn : n < 2 ^ 31) (h : ∀ b, o = some b → b < n) : bI o = -1 ↔ o = none := by
  cases o with
  | none => simp [bI]
  | some b =>
    have hb := h b rfl
    have e : (nI b).toInt = b := nI_toInt (by omega)
    have e1 : (-1 : Int32).toInt = -1 := by decide
    simp only [bI, fa_eq, e, e1]
    constructor
    · intro q; omega
    · intro q; exact absurd q (by simp)
theorem setA4b (S : HS) (a c : Nat) (r1 r2 r3 r4 : Nat → Int32) (h : a ≠ c) : setA (setA (setA (setA S a r1) c r2) a r3) c r4 = setA (setA S a r3) c r4 := setA4 S h r1 r2 r3 r4
set_option maxHeartbeats 4000000 in
theorem c_X9_partAmong {l : Launch} {G : va_G} {cy : Nat → ClassId} (n many : Nat) (m : Nat → Nat) (S : HS) (h : ShM S) (hn : n < 2 ^ 31) (hmy : many ≤ 12) (hm : ∀ k, k < many → mA S 35 k = nI (m k) ∧ m k ≤ 100) (h0 : 0 < fb_sm m many) : Cn l G cy yX9_partAmong cX9_partAmong 14 none 0 [.ref 2000, .long (lN n), .int (nI many)] S 0 0 (qV (fun S2 => S2 = paS n m many S (pL n m many))) := by
  refine Cn.of [some (.ref 2000), some (.long (lN n)), none, some (.int (nI many)), none, none, none, none, none, none, none, none, none, none] (by decide) rfl (Nat.le_of_ble_eq_true rfl) ?_
  have hsh := h
  have hal : (fb_sm m many) ≤ 1200 := by
    have := fb_sm_bound (f := m) (c := 100) (n := many) (fun k hk => (hm k hk).2)
    omega
  have hnm : ∀ v, v ≤ 100 → n * v < 2 ^ 63 := fun v hv => by
    have := Nat.mul_le_mul (Nat.le_of_lt hn) hv
    omega
  refine r_lconst (v := 0) dX9_partAmong_0 (by decide) ?_
  refine r_lst4 dX9_partAmong_1 (Nat.le_of_ble_eq_true rfl) rfl ?_
  refine r_iconst (v := 0) dX9_partAmong_3 (by decide) ?_
  refine r_ist6 dX9_partAmong_4 (Nat.le_of_ble_eq_true rfl) rfl ?_
  refine R.for (α := Unit) (many) (fun i a => [some (.ref 2000), some (.long (lN n)), none, some (.int (nI many)), some (.long (lN (fb_sm m i))), none, some (.int (nI i)), none, none, none, none, none, none, none]) (fun i a => S) (fun i a => True) ?_ ?_ 0 () (Nat.zero_le _) trivial
  · intro a hI
    have hmi : (nI many).toInt = (many : Nat) := nI_toInt (by omega)
    refine r_iload dX9_partAmong_6 rfl ?_
    refine r_iload_n dX9_partAmong_8 rfl rfl ?_
    refine r_icmp_ge 31 dX9_partAmong_9 (by decide) (fun q9 => ?_) (fun q9 => ?_)
    · skip
      refine R.heap (show S = (setA (setA S (ma 36) (fillR (fun k => nI ((pQ n m many) k)) (mA S 36) 0)) (ma 37) (fillR (fun _ => 0) (mA S 37) 0)) from by show S = setA (setA S (ma 36) (sA S (ma 36))) (ma 37) (sA S (ma 37)); rw [setA_self, setA_self]) ?_
      refine r_lload_n dX9_partAmong_31 rfl rfl ?_
      refine r_lst6 dX9_partAmong_32 (Nat.le_of_ble_eq_true rfl) rfl ?_
      
      refine r_iconst (v := 0) dX9_partAmong_34 (by decide) ?_
      refine r_ist8 dX9_partAmong_35 (Nat.le_of_ble_eq_true rfl) rfl ?_
      refine R.for (α := Unit) (many) (fun i a => [some (.ref 2000), some (.long (lN n)), none, some (.int (nI many)), some (.long (lN (fb_sm m many))), none, some (.long (lN (n - fb_sm (pQ n m many) i))), none, some (.int (nI i)), none, none, none, none, none]) (fun i a => (setA (setA S (ma 36) (fillR (fun k => nI ((pQ n m many) k)) (mA S 36) i)) (ma 37) (fillR (fun _ => 0) (mA S 37) i))) (fun i a => True) ?_ ?_ 0 () (Nat.zero_le _) trivial
      · intro a hI
        have hmi : (nI many).toInt = (many : Nat) := nI_toInt (by omega)
        refine R.heap (S2 := paS n m many S 0) (by
          unfold paS
          rw [fillR_eq, fillR_eq]
          rfl) ?_
        rw [show n - fb_sm (pQ n m many) many = (pL n m many) - 0 from rfl]
        refine r_iload dX9_partAmong_37 rfl ?_
        refine r_iload_n dX9_partAmong_39 rfl rfl ?_
        refine r_icmp_ge 91 dX9_partAmong_40 (by decide) (fun q40 => ?_) (fun q40 => ?_)
        · skip
          
          refine R.for (α := Option Value × Option Value × Option Value × Option Value × Option Value × Option Value) ((pL n m many)) (fun t a => [some (.ref 2000), some (.long (lN n)), none, some (.int (nI many)), some (.long (lN (fb_sm m many))), none, some (.long (lN ((pL n m many) - t))), none, a.1, a.2.1, a.2.2.1, a.2.2.2.1, a.2.2.2.2.1, a.2.2.2.2.2]) (fun t a => (paS n m many S t)) (fun t a => True) ?_ ?_ 0 (some (.int (nI many)), none, none, none, none, none) (Nat.zero_le _) trivial
          · intro a hI
            have hmi : (nI many).toInt = (many : Nat) := nI_toInt (by omega)
            have hLm := pL_lt (n := n) h0
            
            refine r_lload dX9_partAmong_91 rfl ?_
            refine r_lconst (v := 0) dX9_partAmong_93 (by decide) ?_
            refine r_lcmp dX9_partAmong_94 ?_
            refine r_if_le 194 dX9_partAmong_95 (by decide) (fun q95 => ?_) (fun q95 => ?_)
            · skip
              exact r_vret dX9_partAmong_194 rfl (Nat.zero_le _) (Nat.zero_le _) ⟨rfl, rfl⟩
            · skip
              rw [lg_cmp_le, Nat.sub_self] at q95
              exact absurd q95 (by decide)
          · intro t a ht hI ih
            have hmi : (nI many).toInt = (many : Nat) := nI_toInt (by omega)
            have hLm := pL_lt (n := n) h0
            have hsh := h.same (S2 := (paS n m many S t)) rfl rfl
            obtain ⟨bb, hbb⟩ := gvP_pick (r := (pT n m many)) (many := many) (t := t) (by omega)
            obtain ⟨hb1, hb2, -, -⟩ := pkB_some hbb
            have hbi : (nI bb).toInt = (bb : Nat) := nI_toInt (by omega)
            have hbc : (nI bb).toNatClampNeg = bb := nI_clamp (by omega)
            have r35 : sA (paS n m many S t) (ma 35) = sA S (ma 35) := (sA_setn (show ma 35 ≠ ma 37 by decide)).trans (sA_setn (show ma 35 ≠ ma 36 by decide))
            have r36 : sA (paS n m many S t) (ma 36) = shT n m many (mA S 36) t := (sA_setn (show ma 36 ≠ ma 37 by decide)).trans (sA_set _ _ _)
            have r37 : sA (paS n m many S t) (ma 37) = moT n m many (mA S 37) t := sA_set _ _ _
            
            refine r_lload dX9_partAmong_91 rfl ?_
            refine r_lconst (v := 0) dX9_partAmong_93 (by decide) ?_
            refine r_lcmp dX9_partAmong_94 ?_
            refine r_if_le 194 dX9_partAmong_95 (by decide) (fun q95 => ?_) (fun q95 => ?_)
            · skip
              rw [lg_cmp_le, show (0 : Int64) = lN 0 from rfl, pk_lLE (by omega) (by decide)] at q95
              exact absurd q95 (by omega)
            · skip
              refine r_iconst (v := (-1)) dX9_partAmong_98 (by decide) ?_
              refine r_ist8 dX9_partAmong_99 (Nat.le_of_ble_eq_true rfl) rfl ?_
              refine r_lconst (v := 0) dX9_partAmong_101 (by decide) ?_
              refine r_lst9 dX9_partAmong_102 (Nat.le_of_ble_eq_true rfl) rfl ?_
              refine r_iconst (v := 0) dX9_partAmong_104 (by decide) ?_
              refine r_ist11 dX9_partAmong_105 (Nat.le_of_ble_eq_true rfl) rfl ?_
              refine R.for (α := Option Value × Option Value) (many) (fun i a => [some (.ref 2000), some (.long (lN n)), none, some (.int (nI many)), some (.long (lN (fb_sm m many))), none, some (.long (lN ((pL n m many) - t))), none, some (.int (bI (pkB (gvP (pT n m many) many t) (pT n m many) i))), some (.long (lN (bR (pT n m many) (pkB (gvP (pT n m many) many t) (pT n m many) i)))), none, some (.int (nI i)), a.1, a.2]) (fun i a => (paS n m many S t)) (fun i a => True) ?_ ?_ 0 _ (Nat.zero_le _) trivial
              · intro a hI
                refine r_iload dX9_partAmong_107 rfl ?_
                refine r_iload_n dX9_partAmong_109 rfl rfl ?_
                refine r_icmp_ge 166 dX9_partAmong_110 (by decide) (fun q110 => ?_) (fun q110 => ?_)
                · skip
                  rw [hbb, show bI (some bb) = nI bb from rfl]
                  refine r_aload_n dX9_partAmong_166 rfl rfl ?_
                  refine r_getR dX9_partAmong_167 lf_X9_93 rfl rfl (shM_R hsh (j := 37) rfl) (shM_L hsh (j := 37) rfl) ?_
                  refine r_iload dX9_partAmong_170 rfl ?_
                  refine r_iconst (v := 1) dX9_partAmong_172 (by decide) ?_
                  refine r_zast dX9_partAmong_173 rfl (show vp_in _ 12 from vp_in_iff.mpr (by (try simp only [b2i_eq0, b2i_ne0, decide_eq_true_eq] at *); (try simp only [mI, mA, sI_setA, sI_setQ, sI_setR, sA_setI, sA_setR, sA_setQ, fa_lt, fa_le, fa_eq, Int32.reduceToInt] at *); omega)) ?_
                  refine r_aload_n dX9_partAmong_174 rfl rfl ?_
                  refine r_getR dX9_partAmong_175 lf_X9_90 rfl rfl (shM_R hsh (j := 36) rfl) (shM_L hsh (j := 36) rfl) ?_
                  refine r_iload dX9_partAmong_178 rfl ?_
                  refine r_dup2 dX9_partAmong_180 rfl rfl ?_
                  refine r_iald dX9_partAmong_181 rfl (show vp_in _ 12 from vp_in_iff.mpr (by (try simp only [b2i_eq0, b2i_ne0, decide_eq_true_eq] at *); (try simp only [mI, mA, sI_setA, sI_setQ, sI_setR, sA_setI, sA_setR, sA_setQ, fa_lt, fa_le, fa_eq, Int32.reduceToInt] at *); omega)) ?_
                  refine r_iconst (v := 1) dX9_partAmong_182 (by decide) ?_
                  refine r_iadd dX9_partAmong_183 ?_
                  refine r_iast dX9_partAmong_184 rfl (show vp_in _ 12 from vp_in_iff.mpr (by (try simp only [b2i_eq0, b2i_ne0, decide_eq_true_eq] at *); (try simp only [mI, mA, sI_setA, sI_setQ, sI_setR, sA_setI, sA_setR, sA_setQ, fa_lt, fa_le, fa_eq, Int32.reduceToInt] at *); omega)) ?_
                  refine r_lload dX9_partAmong_185 rfl ?_
                  refine r_lconst (v := 1) dX9_partAmong_187 (by decide) ?_
                  refine r_lsub dX9_partAmong_188 ?_
                  refine r_lst6 dX9_partAmong_189 (Nat.le_of_ble_eq_true rfl) rfl ?_
                  refine r_goto 91 dX9_partAmong_191 (by decide) ?_
                  
                  rw [show (1 : Int64) = lN 1 from rfl, lN_sub (a := (pL n m many) - t) (b := 1) (by omega), show (pL n m many) - t - 1 = (pL n m many) - (t + 1) by omega]
                  refine R.heap (S2 := (paS n m many S (t + 1))) ?_ (ih (some (.int (nI bb)), some (.long (lN (bR (pT n m many) (some bb)))), none, some (.int (nI many)), a.1, a.2) trivial)
                  rw [hbc, sA_setn (show ma 36 ≠ ma 37 by decide), r36, shT_step hbb, show vp_nar .boolean (1 : Int32) = 1 from rfl, r37, moT_step hbb]
                  unfold paS
                  rw [setA_comm _ (show ma 37 ≠ ma 36 by decide), setA4b _ _ _ _ _ _ _ (by decide)]
                · skip
                  exact absurd q110 (by (try simp only [b2i_eq0, b2i_ne0, decide_eq_true_eq] at *); (try simp only [mI, mA, sI_setA, sI_setQ, sI_setR, sA_setI, sA_setR, sA_setQ, fa_lt, fa_le, fa_eq, Int32.reduceToInt] at *); omega)
              · intro i a hi hI ih
                have hii : (nI i).toInt = i := nI_toInt (by omega)
                have hic : (nI i).toNatClampNeg = i := nI_clamp (by omega)
                obtain ⟨hm1, hm2⟩ := hm i hi
                replace hm1 : sA S (ma 35) i = nI (m i) := hm1
                have hdv : lN n * (nI (m i)).toInt64 - lN n * (nI (m i)).toInt64 / lN (fb_sm m many) * lN (fb_sm m many) = lN ((pT n m many) i) := by
                  rw [nI_l (by omega), lN_mul, pk_lRem (hnm (m i) hm2) h0 (by omega)]
                  rfl
                have hbn := bI_neg (o := (pkB (gvP (pT n m many) many t) (pT n m many) i)) (n := many) (by omega) (fun b hb => Nat.lt_trans (pkB_some hb).1 hi)
                have hti := pT_lt (n := n) h0 i
                have hmo : moT n m many (mA S 37) t i = if (gvP (pT n m many) many t) i = true then 1 else 0 := if_pos hi
                have hrb : bR (pT n m many) (pkB (gvP (pT n m many) many t) (pT n m many) i) < (fb_sm m many) := by
                  cases (pkB (gvP (pT n m many) many t) (pT n m many) i) with
                  | none => exact h0
                  | some b => exact pT_lt h0 b
                refine r_iload dX9_partAmong_107 rfl ?_
                refine r_iload_n dX9_partAmong_109 rfl rfl ?_
                refine r_icmp_ge 166 dX9_partAmong_110 (by decide) (fun q110 => ?_) (fun q110 => ?_)
                · skip
                  exact absurd q110 (by (try simp only [b2i_eq0, b2i_ne0, decide_eq_true_eq] at *); (try simp only [mI, mA, sI_setA, sI_setQ, sI_setR, sA_setI, sA_setR, sA_setQ, fa_lt, fa_le, fa_eq, Int32.reduceToInt] at *); omega)
                · skip
                  refine r_lload_n dX9_partAmong_113 rfl rfl ?_
                  refine r_aload_n dX9_partAmong_114 rfl rfl ?_
                  refine r_getR dX9_partAmong_115 lf_X9_87 rfl rfl (shM_R hsh (j := 35) rfl) (shM_L hsh (j := 35) rfl) ?_
                  refine r_iload dX9_partAmong_118 rfl ?_
                  refine r_iald dX9_partAmong_120 rfl (show vp_in _ 12 from vp_in_iff.mpr (by (try simp only [b2i_eq0, b2i_ne0, decide_eq_true_eq] at *); (try simp only [mI, mA, sI_setA, sI_setQ, sI_setR, sA_setI, sA_setR, sA_setQ, fa_lt, fa_le, fa_eq, Int32.reduceToInt] at *); omega)) ?_
                  refine r_i2l dX9_partAmong_121 ?_
                  rw [r35, hic, hm1]
                  refine r_lmul dX9_partAmong_122 ?_
                  refine r_lload dX9_partAmong_123 rfl ?_
                  refine r_lrem dX9_partAmong_125 (by rw [show (0 : Int64) = lN 0 from rfl, pk_lEQ (by omega) (by decide)]; omega) ?_
                  rw [hdv]
                  refine r_lst12 dX9_partAmong_126 (Nat.le_of_ble_eq_true rfl) rfl ?_
                  refine r_aload_n dX9_partAmong_128 rfl rfl ?_
                  refine r_getR dX9_partAmong_129 lf_X9_93 rfl rfl (shM_R hsh (j := 37) rfl) (shM_L hsh (j := 37) rfl) ?_
                  refine r_iload dX9_partAmong_132 rfl ?_
                  refine r_zald dX9_partAmong_134 rfl (show vp_in _ 12 from vp_in_iff.mpr (by (try simp only [b2i_eq0, b2i_ne0, decide_eq_true_eq] at *); (try simp only [mI, mA, sI_setA, sI_setQ, sI_setR, sA_setI, sA_setR, sA_setQ, fa_lt, fa_le, fa_eq, Int32.reduceToInt] at *); omega)) ?_
                  rw [r37, hic, hmo]
                  refine r_if_ne 160 dX9_partAmong_135 (by decide) (fun q135 => ?_) (fun q135 => ?_)
                  · skip
                    refine r_in11 dX9_partAmong_160 (show _ + Int32.ofInt 1 = _ + 1 from rfl) (Nat.le_of_ble_eq_true rfl) rfl ?_
                    refine r_goto 107 dX9_partAmong_163 (by decide) ?_
                    rw [nI_1]
                    have h9 := ih (some (.long (lN ((pT n m many) i))), none) trivial
                    first
                      | (rw [show (pkB (gvP (pT n m many) many t) (pT n m many) (i + 1)) = (pkB (gvP (pT n m many) many t) (pT n m many) i) from if_pos (by by_cases hu : (gvP (pT n m many) many t) i = true; exact hu; rw [if_neg hu] at q135; exact absurd rfl q135)] at h9; exact h9)
                      | (rw [show (pkB (gvP (pT n m many) many t) (pT n m many) (i + 1)) = some i from by
                            have hu : ¬ (gvP (pT n m many) many t) i = true := fun hu => by rw [if_pos hu] at q135; exact absurd q135 (by decide)
                            unfold pkB; rw [if_neg hu, hbn.mp q141]] at h9
                         exact h9)
                      | (rw [show (pkB (gvP (pT n m many) many t) (pT n m many) (i + 1)) = some i from by
                            have hu : ¬ (gvP (pT n m many) many t) i = true := fun hu => by rw [if_pos hu] at q135; exact absurd q135 (by decide)
                            have hne : (pkB (gvP (pT n m many) many t) (pT n m many) i) ≠ none := fun e => q141 (hbn.mpr e)
                            unfold pkB; rw [if_neg hu]
                            cases hpk : (pkB (gvP (pT n m many) many t) (pT n m many) i) with
                            | none => exact absurd hpk hne
                            | some b =>
                              rw [lg_cmp_le, hpk, pk_lLE (by omega) (by have := pT_lt (n := n) h0 b; show (pT n m many) b < _; omega)] at q149
                              dsimp only
                              rw [if_pos (show (pT n m many) b < (pT n m many) i from Nat.lt_of_not_le q149)]] at h9
                         exact h9)
                      | (rw [show (pkB (gvP (pT n m many) many t) (pT n m many) (i + 1)) = (pkB (gvP (pT n m many) many t) (pT n m many) i) from by
                            have hu : ¬ (gvP (pT n m many) many t) i = true := fun hu => by rw [if_pos hu] at q135; exact absurd q135 (by decide)
                            have hne : (pkB (gvP (pT n m many) many t) (pT n m many) i) ≠ none := fun e => q141 (hbn.mpr e)
                            show (if (gvP (pT n m many) many t) i = true then _ else _) = _
                            rw [if_neg hu]
                            cases hpk : (pkB (gvP (pT n m many) many t) (pT n m many) i) with
                            | none => exact absurd hpk hne
                            | some b =>
                              rw [lg_cmp_le, hpk, pk_lLE (by omega) (by have := pT_lt (n := n) h0 b; show (pT n m many) b < _; omega)] at q149
                              dsimp only
                              rw [if_neg (show ¬ (pT n m many) b < (pT n m many) i from Nat.not_lt.mpr q149)]] at h9
                         exact h9)
                  · skip
                    refine r_iload dX9_partAmong_138 rfl ?_
                    refine r_iconst (v := (-1)) dX9_partAmong_140 (by decide) ?_
                    refine r_icmp_eq 152 dX9_partAmong_141 (by decide) (fun q141 => ?_) (fun q141 => ?_)
                    · skip
                      refine r_iload dX9_partAmong_152 rfl ?_
                      refine r_ist8 dX9_partAmong_154 (Nat.le_of_ble_eq_true rfl) rfl ?_
                      refine r_lload dX9_partAmong_156 rfl ?_
                      refine r_lst9 dX9_partAmong_158 (Nat.le_of_ble_eq_true rfl) rfl ?_
                      refine r_in11 dX9_partAmong_160 (show _ + Int32.ofInt 1 = _ + 1 from rfl) (Nat.le_of_ble_eq_true rfl) rfl ?_
                      refine r_goto 107 dX9_partAmong_163 (by decide) ?_
                      rw [nI_1]
                      have h9 := ih (some (.long (lN ((pT n m many) i))), none) trivial
                      first
                        | (rw [show (pkB (gvP (pT n m many) many t) (pT n m many) (i + 1)) = (pkB (gvP (pT n m many) many t) (pT n m many) i) from if_pos (by by_cases hu : (gvP (pT n m many) many t) i = true; exact hu; rw [if_neg hu] at q135; exact absurd rfl q135)] at h9; exact h9)
                        | (rw [show (pkB (gvP (pT n m many) many t) (pT n m many) (i + 1)) = some i from by
                              have hu : ¬ (gvP (pT n m many) many t) i = true := fun hu => by rw [if_pos hu] at q135; exact absurd q135 (by decide)
                              unfold pkB; rw [if_neg hu, hbn.mp q141]] at h9
                           exact h9)
                        | (rw [show (pkB (gvP (pT n m many) many t) (pT n m many) (i + 1)) = some i from by
                              have hu : ¬ (gvP (pT n m many) many t) i = true := fun hu => by rw [if_pos hu] at q135; exact absurd q135 (by decide)
                              have hne : (pkB (gvP (pT n m many) many t) (pT n m many) i) ≠ none := fun e => q141 (hbn.mpr e)
                              unfold pkB; rw [if_neg hu]
                              cases hpk : (pkB (gvP (pT n m many) many t) (pT n m many) i) with
                              | none => exact absurd hpk hne
                              | some b =>
                                rw [lg_cmp_le, hpk, pk_lLE (by omega) (by have := pT_lt (n := n) h0 b; show (pT n m many) b < _; omega)] at q149
                                dsimp only
                                rw [if_pos (show (pT n m many) b < (pT n m many) i from Nat.lt_of_not_le q149)]] at h9
                           exact h9)
                        | (rw [show (pkB (gvP (pT n m many) many t) (pT n m many) (i + 1)) = (pkB (gvP (pT n m many) many t) (pT n m many) i) from by
                              have hu : ¬ (gvP (pT n m many) many t) i = true := fun hu => by rw [if_pos hu] at q135; exact absurd q135 (by decide)
                              have hne : (pkB (gvP (pT n m many) many t) (pT n m many) i) ≠ none := fun e => q141 (hbn.mpr e)
                              show (if (gvP (pT n m many) many t) i = true then _ else _) = _
                              rw [if_neg hu]
                              cases hpk : (pkB (gvP (pT n m many) many t) (pT n m many) i) with
                              | none => exact absurd hpk hne
                              | some b =>
                                rw [lg_cmp_le, hpk, pk_lLE (by omega) (by have := pT_lt (n := n) h0 b; show (pT n m many) b < _; omega)] at q149
                                dsimp only
                                rw [if_neg (show ¬ (pT n m many) b < (pT n m many) i from Nat.not_lt.mpr q149)]] at h9
                           exact h9)
                    · skip
                      refine r_lload dX9_partAmong_144 rfl ?_
                      refine r_lload dX9_partAmong_146 rfl ?_
                      refine r_lcmp dX9_partAmong_148 ?_
                      refine r_if_le 160 dX9_partAmong_149 (by decide) (fun q149 => ?_) (fun q149 => ?_)
                      · skip
                        refine r_in11 dX9_partAmong_160 (show _ + Int32.ofInt 1 = _ + 1 from rfl) (Nat.le_of_ble_eq_true rfl) rfl ?_
                        refine r_goto 107 dX9_partAmong_163 (by decide) ?_
                        rw [nI_1]
                        have h9 := ih (some (.long (lN ((pT n m many) i))), none) trivial
                        first
                          | (rw [show (pkB (gvP (pT n m many) many t) (pT n m many) (i + 1)) = (pkB (gvP (pT n m many) many t) (pT n m many) i) from if_pos (by by_cases hu : (gvP (pT n m many) many t) i = true; exact hu; rw [if_neg hu] at q135; exact absurd rfl q135)] at h9; exact h9)
                          | (rw [show (pkB (gvP (pT n m many) many t) (pT n m many) (i + 1)) = some i from by
                                have hu : ¬ (gvP (pT n m many) many t) i = true := fun hu => by rw [if_pos hu] at q135; exact absurd q135 (by decide)
                                unfold pkB; rw [if_neg hu, hbn.mp q141]] at h9
                             exact h9)
                          | (rw [show (pkB (gvP (pT n m many) many t) (pT n m many) (i + 1)) = some i from by
                                have hu : ¬ (gvP (pT n m many) many t) i = true := fun hu => by rw [if_pos hu] at q135; exact absurd q135 (by decide)
                                have hne : (pkB (gvP (pT n m many) many t) (pT n m many) i) ≠ none := fun e => q141 (hbn.mpr e)
                                unfold pkB; rw [if_neg hu]
                                cases hpk : (pkB (gvP (pT n m many) many t) (pT n m many) i) with
                                | none => exact absurd hpk hne
                                | some b =>
                                  rw [lg_cmp_le, hpk, pk_lLE (by omega) (by have := pT_lt (n := n) h0 b; show (pT n m many) b < _; omega)] at q149
                                  dsimp only
                                  rw [if_pos (show (pT n m many) b < (pT n m many) i from Nat.lt_of_not_le q149)]] at h9
                             exact h9)
                          | (rw [show (pkB (gvP (pT n m many) many t) (pT n m many) (i + 1)) = (pkB (gvP (pT n m many) many t) (pT n m many) i) from by
                                have hu : ¬ (gvP (pT n m many) many t) i = true := fun hu => by rw [if_pos hu] at q135; exact absurd q135 (by decide)
                                have hne : (pkB (gvP (pT n m many) many t) (pT n m many) i) ≠ none := fun e => q141 (hbn.mpr e)
                                show (if (gvP (pT n m many) many t) i = true then _ else _) = _
                                rw [if_neg hu]
                                cases hpk : (pkB (gvP (pT n m many) many t) (pT n m many) i) with
                                | none => exact absurd hpk hne
                                | some b =>
                                  rw [lg_cmp_le, hpk, pk_lLE (by omega) (by have := pT_lt (n := n) h0 b; show (pT n m many) b < _; omega)] at q149
                                  dsimp only
                                  rw [if_neg (show ¬ (pT n m many) b < (pT n m many) i from Nat.not_lt.mpr q149)]] at h9
                             exact h9)
                      · skip
                        refine r_iload dX9_partAmong_152 rfl ?_
                        refine r_ist8 dX9_partAmong_154 (Nat.le_of_ble_eq_true rfl) rfl ?_
                        refine r_lload dX9_partAmong_156 rfl ?_
                        refine r_lst9 dX9_partAmong_158 (Nat.le_of_ble_eq_true rfl) rfl ?_
                        refine r_in11 dX9_partAmong_160 (show _ + Int32.ofInt 1 = _ + 1 from rfl) (Nat.le_of_ble_eq_true rfl) rfl ?_
                        refine r_goto 107 dX9_partAmong_163 (by decide) ?_
                        rw [nI_1]
                        have h9 := ih (some (.long (lN ((pT n m many) i))), none) trivial
                        first
                          | (rw [show (pkB (gvP (pT n m many) many t) (pT n m many) (i + 1)) = (pkB (gvP (pT n m many) many t) (pT n m many) i) from if_pos (by by_cases hu : (gvP (pT n m many) many t) i = true; exact hu; rw [if_neg hu] at q135; exact absurd rfl q135)] at h9; exact h9)
                          | (rw [show (pkB (gvP (pT n m many) many t) (pT n m many) (i + 1)) = some i from by
                                have hu : ¬ (gvP (pT n m many) many t) i = true := fun hu => by rw [if_pos hu] at q135; exact absurd q135 (by decide)
                                unfold pkB; rw [if_neg hu, hbn.mp q141]] at h9
                             exact h9)
                          | (rw [show (pkB (gvP (pT n m many) many t) (pT n m many) (i + 1)) = some i from by
                                have hu : ¬ (gvP (pT n m many) many t) i = true := fun hu => by rw [if_pos hu] at q135; exact absurd q135 (by decide)
                                have hne : (pkB (gvP (pT n m many) many t) (pT n m many) i) ≠ none := fun e => q141 (hbn.mpr e)
                                unfold pkB; rw [if_neg hu]
                                cases hpk : (pkB (gvP (pT n m many) many t) (pT n m many) i) with
                                | none => exact absurd hpk hne
                                | some b =>
                                  rw [lg_cmp_le, hpk, pk_lLE (by omega) (by have := pT_lt (n := n) h0 b; show (pT n m many) b < _; omega)] at q149
                                  dsimp only
                                  rw [if_pos (show (pT n m many) b < (pT n m many) i from Nat.lt_of_not_le q149)]] at h9
                             exact h9)
                          | (rw [show (pkB (gvP (pT n m many) many t) (pT n m many) (i + 1)) = (pkB (gvP (pT n m many) many t) (pT n m many) i) from by
                                have hu : ¬ (gvP (pT n m many) many t) i = true := fun hu => by rw [if_pos hu] at q135; exact absurd q135 (by decide)
                                have hne : (pkB (gvP (pT n m many) many t) (pT n m many) i) ≠ none := fun e => q141 (hbn.mpr e)
                                show (if (gvP (pT n m many) many t) i = true then _ else _) = _
                                rw [if_neg hu]
                                cases hpk : (pkB (gvP (pT n m many) many t) (pT n m many) i) with
                                | none => exact absurd hpk hne
                                | some b =>
                                  rw [lg_cmp_le, hpk, pk_lLE (by omega) (by have := pT_lt (n := n) h0 b; show (pT n m many) b < _; omega)] at q149
                                  dsimp only
                                  rw [if_neg (show ¬ (pT n m many) b < (pT n m many) i from Nat.not_lt.mpr q149)]] at h9
                             exact h9)
        · skip
          exact absurd q40 (by (try simp only [b2i_eq0, b2i_ne0, decide_eq_true_eq] at *); (try simp only [mI, mA, sI_setA, sI_setQ, sI_setR, sA_setI, sA_setR, sA_setQ, fa_lt, fa_le, fa_eq, Int32.reduceToInt] at *); omega)
      · intro i a hi hI ih
        have hmi : (nI many).toInt = (many : Nat) := nI_toInt (by omega)
        have hii : (nI i).toInt = i := nI_toInt (by omega)
        have hic : (nI i).toNatClampNeg = i := nI_clamp (by omega)
        obtain ⟨hm1, hm2⟩ := hm i hi
        replace hm1 : sA S (ma 35) i = nI (m i) := hm1
        have hsh := h.same (S2 := (setA (setA S (ma 36) (fillR (fun k => nI ((pQ n m many) k)) (mA S 36) i)) (ma 37) (fillR (fun _ => 0) (mA S 37) i))) rfl rfl
        have hq1 := pQ_le (n := n) h0 (i := i + 1) hi
        have hq2 : fb_sm (pQ n m many) (i + 1) = fb_sm (pQ n m many) i + (pQ n m many) i := rfl
        have hm0 : sA (setA (setA S (ma 36) (fillR (fun k => nI ((pQ n m many) k)) (mA S 36) i)) (ma 37) (fillR (fun _ => 0) (mA S 37) i)) (ma 35) = sA S (ma 35) := (sA_setn (show ma 35 ≠ ma 37 by decide)).trans (sA_setn (show ma 35 ≠ ma 36 by decide))
        refine r_iload dX9_partAmong_37 rfl ?_
        refine r_iload_n dX9_partAmong_39 rfl rfl ?_
        refine r_icmp_ge 91 dX9_partAmong_40 (by decide) (fun q40 => ?_) (fun q40 => ?_)
        · skip
          exact absurd q40 (by (try simp only [b2i_eq0, b2i_ne0, decide_eq_true_eq] at *); (try simp only [mI, mA, sI_setA, sI_setQ, sI_setR, sA_setI, sA_setR, sA_setQ, fa_lt, fa_le, fa_eq, Int32.reduceToInt] at *); omega)
        · skip
          refine r_aload_n dX9_partAmong_43 rfl rfl ?_
          refine r_getR dX9_partAmong_44 lf_X9_90 rfl rfl (shM_R hsh (j := 36) rfl) (shM_L hsh (j := 36) rfl) ?_
          refine r_iload dX9_partAmong_47 rfl ?_
          refine r_lload_n dX9_partAmong_49 rfl rfl ?_
          refine r_aload_n dX9_partAmong_50 rfl rfl ?_
          refine r_getR dX9_partAmong_51 lf_X9_87 rfl rfl (shM_R hsh (j := 35) rfl) (shM_L hsh (j := 35) rfl) ?_
          refine r_iload dX9_partAmong_54 rfl ?_
          refine r_iald dX9_partAmong_56 rfl (show vp_in _ 12 from vp_in_iff.mpr (by (try simp only [b2i_eq0, b2i_ne0, decide_eq_true_eq] at *); (try simp only [mI, mA, sI_setA, sI_setQ, sI_setR, sA_setI, sA_setR, sA_setQ, fa_lt, fa_le, fa_eq, Int32.reduceToInt] at *); omega)) ?_
          refine r_i2l dX9_partAmong_57 ?_
          rw [hm0, hic, hm1]
          refine r_lmul dX9_partAmong_58 ?_
          refine r_lload dX9_partAmong_59 rfl ?_
          refine r_ldiv dX9_partAmong_61 (by rw [show (0 : Int64) = lN 0 from rfl, pk_lEQ (by omega) (by decide)]; omega) ?_
          have hdv : (lN n * (nI (m i)).toInt64 / lN (fb_sm m many)).toInt32 = nI ((pQ n m many) i) := by
            rw [nI_l (by omega), lN_mul, pk_lDiv (hnm (m i) hm2) h0 (by omega), lN_i]
            rfl
          refine r_l2i dX9_partAmong_62 ?_
          refine r_iast dX9_partAmong_63 rfl (show vp_in _ 12 from vp_in_iff.mpr (by (try simp only [b2i_eq0, b2i_ne0, decide_eq_true_eq] at *); (try simp only [mI, mA, sI_setA, sI_setQ, sI_setR, sA_setI, sA_setR, sA_setQ, fa_lt, fa_le, fa_eq, Int32.reduceToInt] at *); omega)) ?_
          refine r_lload dX9_partAmong_64 rfl ?_
          refine r_aload_n dX9_partAmong_66 rfl rfl ?_
          refine r_getR dX9_partAmong_67 lf_X9_90 rfl rfl (shM_R hsh (j := 36) rfl) (shM_L hsh (j := 36) rfl) ?_
          refine r_iload dX9_partAmong_70 rfl ?_
          refine r_iald dX9_partAmong_72 rfl (show vp_in _ 12 from vp_in_iff.mpr (by (try simp only [b2i_eq0, b2i_ne0, decide_eq_true_eq] at *); (try simp only [mI, mA, sI_setA, sI_setQ, sI_setR, sA_setI, sA_setR, sA_setQ, fa_lt, fa_le, fa_eq, Int32.reduceToInt] at *); omega)) ?_
          refine r_i2l dX9_partAmong_73 ?_
          refine r_lsub dX9_partAmong_74 ?_
          refine r_lst6 dX9_partAmong_75 (Nat.le_of_ble_eq_true rfl) rfl ?_
          refine r_aload_n dX9_partAmong_77 rfl rfl ?_
          refine r_getR dX9_partAmong_78 lf_X9_93 rfl rfl (shM_R hsh (j := 37) rfl) (shM_L hsh (j := 37) rfl) ?_
          refine r_iload dX9_partAmong_81 rfl ?_
          refine r_iconst (v := 0) dX9_partAmong_83 (by decide) ?_
          refine r_zast dX9_partAmong_84 rfl (show vp_in _ 12 from vp_in_iff.mpr (by (try simp only [b2i_eq0, b2i_ne0, decide_eq_true_eq] at *); (try simp only [mI, mA, sI_setA, sI_setQ, sI_setR, sA_setI, sA_setR, sA_setQ, fa_lt, fa_le, fa_eq, Int32.reduceToInt] at *); omega)) ?_
          refine r_in8 dX9_partAmong_85 (show _ + Int32.ofInt 1 = _ + 1 from rfl) (Nat.le_of_ble_eq_true rfl) rfl ?_
          refine r_goto 37 dX9_partAmong_88 (by decide) ?_
          rw [nI_1]
          refine R.heap (S2 := (setA (setA S (ma 36) (fillR (fun k => nI ((pQ n m many) k)) (mA S 36) (i + 1))) (ma 37) (fillR (fun _ => 0) (mA S 37) (i + 1)))) (by
            rw [sA_setn (show ma 37 ≠ ma 36 by decide), sA_set, setA4 _ (show ma 36 ≠ ma 37 by decide), hic, sA_setn (show ma 36 ≠ ma 37 by decide), sA_set, hdv]
            rfl) ?_
          have h9 := ih () trivial
          rw [sA_set, hic, pk_us, hdv, nI_l (by omega), lN_sub (by omega), show n - fb_sm (pQ n m many) i - (pQ n m many) i = n - fb_sm (pQ n m many) (i + 1) by omega]
          exact h9
    · skip
      exact absurd q9 (by (try simp only [b2i_eq0, b2i_ne0, decide_eq_true_eq] at *); (try simp only [mI, mA, sI_setA, sI_setQ, sI_setR, sA_setI, sA_setR, sA_setQ, fa_lt, fa_le, fa_eq, Int32.reduceToInt] at *); omega)
  · intro i a hi hI ih
    have hmi : (nI many).toInt = (many : Nat) := nI_toInt (by omega)
    have hii : (nI i).toInt = i := nI_toInt (by omega)
    have hic : (nI i).toNatClampNeg = i := nI_clamp (by omega)
    obtain ⟨hm1, hm2⟩ := hm i hi
    replace hm1 : sA S (ma 35) i = nI (m i) := hm1
    refine r_iload dX9_partAmong_6 rfl ?_
    refine r_iload_n dX9_partAmong_8 rfl rfl ?_
    refine r_icmp_ge 31 dX9_partAmong_9 (by decide) (fun q9 => ?_) (fun q9 => ?_)
    · skip
      exact absurd q9 (by (try simp only [b2i_eq0, b2i_ne0, decide_eq_true_eq] at *); (try simp only [mI, mA, sI_setA, sI_setQ, sI_setR, sA_setI, sA_setR, sA_setQ, fa_lt, fa_le, fa_eq, Int32.reduceToInt] at *); omega)
    · skip
      refine r_lload dX9_partAmong_12 rfl ?_
      refine r_aload_n dX9_partAmong_14 rfl rfl ?_
      refine r_getR dX9_partAmong_15 lf_X9_87 rfl rfl (shM_R hsh (j := 35) rfl) (shM_L hsh (j := 35) rfl) ?_
      refine r_iload dX9_partAmong_18 rfl ?_
      refine r_iald dX9_partAmong_20 rfl (show vp_in _ 12 from vp_in_iff.mpr (by (try simp only [b2i_eq0, b2i_ne0, decide_eq_true_eq] at *); (try simp only [mI, mA, sI_setA, sI_setQ, sI_setR, sA_setI, sA_setR, sA_setQ, fa_lt, fa_le, fa_eq, Int32.reduceToInt] at *); omega)) ?_
      refine r_i2l dX9_partAmong_21 ?_
      refine r_ladd dX9_partAmong_22 ?_
      refine r_lst4 dX9_partAmong_23 (Nat.le_of_ble_eq_true rfl) rfl ?_
      refine r_in6 dX9_partAmong_25 (show _ + Int32.ofInt 1 = _ + 1 from rfl) (Nat.le_of_ble_eq_true rfl) rfl ?_
      refine r_goto 6 dX9_partAmong_28 (by decide) ?_
      rw [nI_1]
      rw [hic, hm1, nI_l (by omega), lN_add]
      exact ih () trivial
