/-! ===== the reference: bytes fed ===== -/
theorem ssh_and (x : BitVec 32) (s : Nat) (h : s ≤ 24) : x.sshiftRight s &&& 255#32 = x >>> s &&& 255#32 := by
  apply BitVec.eq_of_getLsbD_eq
  intro i hi
  rw [BitVec.getLsbD_and, BitVec.getLsbD_and, BitVec.getLsbD_sshiftRight, BitVec.getLsbD_ushiftRight]
  by_cases q : i < 8
  · rw [if_pos (by omega)]
    have : decide (32 ≤ i) = false := decide_eq_false (by omega)
    rw [this]
    simp
  · have z : (255#32).getLsbD i = false := by
      have hh : ∀ j, j < 32 → ¬ j < 8 → (255#32).getLsbD j = false := by decide
      exact hh i hi q
    rw [z, Bool.and_false, Bool.and_false]
theorem by_24 (w : Int32) : w >>> (24 : Int32) &&& 255 = (w.toUInt32 >>> (24 : UInt32)).toInt32 &&& 255 := by
  apply Int32.toBitVec_inj.mp
  rw [Int32.toBitVec_and, Int32.toBitVec_and, Int32.toBitVec_shiftRight]
  exact ssh_and w.toBitVec 24 (by decide)
theorem by_16 (w : Int32) : w >>> (16 : Int32) &&& 255 = (w.toUInt32 >>> (16 : UInt32)).toInt32 &&& 255 := by
  apply Int32.toBitVec_inj.mp
  rw [Int32.toBitVec_and, Int32.toBitVec_and, Int32.toBitVec_shiftRight]
  exact ssh_and w.toBitVec 16 (by decide)
theorem by_8 (w : Int32) : w >>> (8 : Int32) &&& 255 = (w.toUInt32 >>> (8 : UInt32)).toInt32 &&& 255 := by
  apply Int32.toBitVec_inj.mp
  rw [Int32.toBitVec_and, Int32.toBitVec_and, Int32.toBitVec_shiftRight]
  exact ssh_and w.toBitVec 8 (by decide)
theorem by_0 (w : Int32) : w >>> (0 : Int32) &&& 255 = (w.toUInt32 >>> (0 : UInt32)).toInt32 &&& 255 := by
  apply Int32.toBitVec_inj.mp
  rw [Int32.toBitVec_and, Int32.toBitVec_and, Int32.toBitVec_shiftRight]
  exact ssh_and w.toBitVec 0 (by decide)
/-- the reference's byte k of five words -/
def bsM (w : Int32) (i : Nat) : Int32 := w >>> ((24 - 8 * (nI i - nI i / 4 * 4)) &&& 31) &&& 255
theorem bsM_sh : ∀ i, i < 20 → (24 - 8 * (nI i - nI i / 4 * 4)) &&& 31 = shf (i % 4) ∧ (shf (i % 4)).toUInt32 &&& Int32.toUInt32 31 = (shf (i % 4)).toUInt32 := by decide
theorem bsM_by (w : Int32) {i : Nat} (hi : i < 20) : bsM w i = by4 w (i % 4) := by
  obtain ⟨h1, h2⟩ := bsM_sh i hi
  unfold bsM by4
  rw [h1, h2]
  have : i % 4 = 0 ∨ i % 4 = 1 ∨ i % 4 = 2 ∨ i % 4 = 3 := by omega
  rcases this with q | q | q | q <;> rw [q]
  · exact by_24 w
  · exact by_16 w
  · exact by_8 w
  · exact by_0 w
def wdM (a b c e f : Int32) (i : Nat) : Int32 := if i < 4 then a else if i < 8 then b else if i < 12 then c else if i < 16 then e else f
def btM (a b c e f : Int32) (i : Nat) : Int32 := by4 (wdM a b c e f i) (i % 4)
set_option maxHeartbeats 4000000 in
theorem c_X9_byteOf {l : Launch} {G : va_G} {cy : Nat → ClassId} (a b c e f : Int32) (i : Nat) (hi : i < 20) (S : HS) : Cn l G cy yX9_byteOf cX9_byteOf 7 (some .int) 0 [.int a, .int b, .int c, .int e, .int f, .int (nI i)] S 0 0 (qI (fun r S2 => r = btM a b c e f i ∧ S2 = S)) := by
  refine Cn.of [some (.int a), some (.int b), some (.int c), some (.int e), some (.int f), some (.int (nI i)), none] (by decide) rfl (Nat.le_of_ble_eq_true rfl) ?_
  have hii : (nI i).toInt = i := nI_toInt (by omega)
  refine r_iload dX9_byteOf_0 rfl ?_
  refine r_iconst (v := 4) dX9_byteOf_2 (by decide) ?_
  refine r_icmp_ge 10 dX9_byteOf_3 (by decide) (fun q3 => ?_) (fun q3 => ?_)
  · skip
    refine r_iload dX9_byteOf_10 rfl ?_
    refine r_bipush (v := 8) dX9_byteOf_12 (by decide) ?_
    refine r_icmp_ge 21 dX9_byteOf_14 (by decide) (fun q14 => ?_) (fun q14 => ?_)
    · skip
      refine r_iload dX9_byteOf_21 rfl ?_
      refine r_bipush (v := 12) dX9_byteOf_23 (by decide) ?_
      refine r_icmp_ge 32 dX9_byteOf_25 (by decide) (fun q25 => ?_) (fun q25 => ?_)
      · skip
        refine r_iload dX9_byteOf_32 rfl ?_
        refine r_bipush (v := 16) dX9_byteOf_34 (by decide) ?_
        refine r_icmp_ge 43 dX9_byteOf_36 (by decide) (fun q36 => ?_) (fun q36 => ?_)
        · skip
          refine r_iload dX9_byteOf_43 rfl ?_
          refine r_ist6 dX9_byteOf_45 (Nat.le_of_ble_eq_true rfl) rfl ?_
          refine r_iload dX9_byteOf_47 rfl ?_
          refine r_bipush (v := 24) dX9_byteOf_49 (by decide) ?_
          refine r_bipush (v := 8) dX9_byteOf_51 (by decide) ?_
          refine r_iload dX9_byteOf_53 rfl ?_
          refine r_iconst (v := 4) dX9_byteOf_55 (by decide) ?_
          refine r_irem dX9_byteOf_56 (by decide) ?_
          refine r_imul dX9_byteOf_57 ?_
          refine r_isub dX9_byteOf_58 ?_
          refine r_ishr dX9_byteOf_59 ?_
          refine r_sipush (v := 255) dX9_byteOf_60 (by decide) ?_
          refine r_iand dX9_byteOf_63 ?_
          exact r_iret dX9_byteOf_64 rfl (Nat.zero_le _) (Nat.zero_le _) ⟨_, rfl, by
              refine ⟨?_, rfl⟩
              have z4 : (4 : Int32).toInt = 4 := rfl
              have z8 : (8 : Int32).toInt = 8 := rfl
              have z12 : (12 : Int32).toInt = 12 := rfl
              have z16 : (16 : Int32).toInt = 16 := rfl
              simp only [fa_le] at *
              unfold btM
              rw [← bsM_by _ hi]
              unfold wdM
              first
                | (rw [if_pos (by omega)]; rfl)
                | (rw [if_neg (by omega), if_pos (by omega)]; rfl)
                | (rw [if_neg (by omega), if_neg (by omega), if_pos (by omega)]; rfl)
                | (rw [if_neg (by omega), if_neg (by omega), if_neg (by omega), if_pos (by omega)]; rfl)
                | (rw [if_neg (by omega), if_neg (by omega), if_neg (by omega), if_neg (by omega)]; rfl)⟩
        · skip
          refine r_iload_n dX9_byteOf_39 rfl rfl ?_
          refine r_goto 45 dX9_byteOf_40 (by decide) ?_
          refine r_ist6 dX9_byteOf_45 (Nat.le_of_ble_eq_true rfl) rfl ?_
          refine r_iload dX9_byteOf_47 rfl ?_
          refine r_bipush (v := 24) dX9_byteOf_49 (by decide) ?_
          refine r_bipush (v := 8) dX9_byteOf_51 (by decide) ?_
          refine r_iload dX9_byteOf_53 rfl ?_
          refine r_iconst (v := 4) dX9_byteOf_55 (by decide) ?_
          refine r_irem dX9_byteOf_56 (by decide) ?_
          refine r_imul dX9_byteOf_57 ?_
          refine r_isub dX9_byteOf_58 ?_
          refine r_ishr dX9_byteOf_59 ?_
          refine r_sipush (v := 255) dX9_byteOf_60 (by decide) ?_
          refine r_iand dX9_byteOf_63 ?_
          exact r_iret dX9_byteOf_64 rfl (Nat.zero_le _) (Nat.zero_le _) ⟨_, rfl, by
              refine ⟨?_, rfl⟩
              have z4 : (4 : Int32).toInt = 4 := rfl
              have z8 : (8 : Int32).toInt = 8 := rfl
              have z12 : (12 : Int32).toInt = 12 := rfl
              have z16 : (16 : Int32).toInt = 16 := rfl
              simp only [fa_le] at *
              unfold btM
              rw [← bsM_by _ hi]
              unfold wdM
              first
                | (rw [if_pos (by omega)]; rfl)
                | (rw [if_neg (by omega), if_pos (by omega)]; rfl)
                | (rw [if_neg (by omega), if_neg (by omega), if_pos (by omega)]; rfl)
                | (rw [if_neg (by omega), if_neg (by omega), if_neg (by omega), if_pos (by omega)]; rfl)
                | (rw [if_neg (by omega), if_neg (by omega), if_neg (by omega), if_neg (by omega)]; rfl)⟩
      · skip
        refine r_iload_n dX9_byteOf_28 rfl rfl ?_
        refine r_goto 45 dX9_byteOf_29 (by decide) ?_
        refine r_ist6 dX9_byteOf_45 (Nat.le_of_ble_eq_true rfl) rfl ?_
        refine r_iload dX9_byteOf_47 rfl ?_
        refine r_bipush (v := 24) dX9_byteOf_49 (by decide) ?_
        refine r_bipush (v := 8) dX9_byteOf_51 (by decide) ?_
        refine r_iload dX9_byteOf_53 rfl ?_
        refine r_iconst (v := 4) dX9_byteOf_55 (by decide) ?_
        refine r_irem dX9_byteOf_56 (by decide) ?_
        refine r_imul dX9_byteOf_57 ?_
        refine r_isub dX9_byteOf_58 ?_
        refine r_ishr dX9_byteOf_59 ?_
        refine r_sipush (v := 255) dX9_byteOf_60 (by decide) ?_
        refine r_iand dX9_byteOf_63 ?_
        exact r_iret dX9_byteOf_64 rfl (Nat.zero_le _) (Nat.zero_le _) ⟨_, rfl, by
            refine ⟨?_, rfl⟩
            have z4 : (4 : Int32).toInt = 4 := rfl
            have z8 : (8 : Int32).toInt = 8 := rfl
            have z12 : (12 : Int32).toInt = 12 := rfl
            have z16 : (16 : Int32).toInt = 16 := rfl
            simp only [fa_le] at *
            unfold btM
            rw [← bsM_by _ hi]
            unfold wdM
            first
              | (rw [if_pos (by omega)]; rfl)
              | (rw [if_neg (by omega), if_pos (by omega)]; rfl)
              | (rw [if_neg (by omega), if_neg (by omega), if_pos (by omega)]; rfl)
              | (rw [if_neg (by omega), if_neg (by omega), if_neg (by omega), if_pos (by omega)]; rfl)
              | (rw [if_neg (by omega), if_neg (by omega), if_neg (by omega), if_neg (by omega)]; rfl)⟩
    · skip
      refine r_iload_n dX9_byteOf_17 rfl rfl ?_
      refine r_goto 45 dX9_byteOf_18 (by decide) ?_
      refine r_ist6 dX9_byteOf_45 (Nat.le_of_ble_eq_true rfl) rfl ?_
      refine r_iload dX9_byteOf_47 rfl ?_
      refine r_bipush (v := 24) dX9_byteOf_49 (by decide) ?_
      refine r_bipush (v := 8) dX9_byteOf_51 (by decide) ?_
      refine r_iload dX9_byteOf_53 rfl ?_
      refine r_iconst (v := 4) dX9_byteOf_55 (by decide) ?_
      refine r_irem dX9_byteOf_56 (by decide) ?_
      refine r_imul dX9_byteOf_57 ?_
      refine r_isub dX9_byteOf_58 ?_
      refine r_ishr dX9_byteOf_59 ?_
      refine r_sipush (v := 255) dX9_byteOf_60 (by decide) ?_
      refine r_iand dX9_byteOf_63 ?_
      exact r_iret dX9_byteOf_64 rfl (Nat.zero_le _) (Nat.zero_le _) ⟨_, rfl, by
          refine ⟨?_, rfl⟩
          have z4 : (4 : Int32).toInt = 4 := rfl
          have z8 : (8 : Int32).toInt = 8 := rfl
          have z12 : (12 : Int32).toInt = 12 := rfl
          have z16 : (16 : Int32).toInt = 16 := rfl
          simp only [fa_le] at *
          unfold btM
          rw [← bsM_by _ hi]
          unfold wdM
          first
            | (rw [if_pos (by omega)]; rfl)
            | (rw [if_neg (by omega), if_pos (by omega)]; rfl)
            | (rw [if_neg (by omega), if_neg (by omega), if_pos (by omega)]; rfl)
            | (rw [if_neg (by omega), if_neg (by omega), if_neg (by omega), if_pos (by omega)]; rfl)
            | (rw [if_neg (by omega), if_neg (by omega), if_neg (by omega), if_neg (by omega)]; rfl)⟩
  · skip
    refine r_iload_n dX9_byteOf_6 rfl rfl ?_
    refine r_goto 45 dX9_byteOf_7 (by decide) ?_
    refine r_ist6 dX9_byteOf_45 (Nat.le_of_ble_eq_true rfl) rfl ?_
    refine r_iload dX9_byteOf_47 rfl ?_
    refine r_bipush (v := 24) dX9_byteOf_49 (by decide) ?_
    refine r_bipush (v := 8) dX9_byteOf_51 (by decide) ?_
    refine r_iload dX9_byteOf_53 rfl ?_
    refine r_iconst (v := 4) dX9_byteOf_55 (by decide) ?_
    refine r_irem dX9_byteOf_56 (by decide) ?_
    refine r_imul dX9_byteOf_57 ?_
    refine r_isub dX9_byteOf_58 ?_
    refine r_ishr dX9_byteOf_59 ?_
    refine r_sipush (v := 255) dX9_byteOf_60 (by decide) ?_
    refine r_iand dX9_byteOf_63 ?_
    exact r_iret dX9_byteOf_64 rfl (Nat.zero_le _) (Nat.zero_le _) ⟨_, rfl, by
        refine ⟨?_, rfl⟩
        have z4 : (4 : Int32).toInt = 4 := rfl
        have z8 : (8 : Int32).toInt = 8 := rfl
        have z12 : (12 : Int32).toInt = 12 := rfl
        have z16 : (16 : Int32).toInt = 16 := rfl
        simp only [fa_le] at *
        unfold btM
        rw [← bsM_by _ hi]
        unfold wdM
        first
          | (rw [if_pos (by omega)]; rfl)
          | (rw [if_neg (by omega), if_pos (by omega)]; rfl)
          | (rw [if_neg (by omega), if_neg (by omega), if_pos (by omega)]; rfl)
          | (rw [if_neg (by omega), if_neg (by omega), if_neg (by omega), if_pos (by omega)]; rfl)
          | (rw [if_neg (by omega), if_neg (by omega), if_neg (by omega), if_neg (by omega)]; rfl)⟩
/-- how many of the first i bytes are not 0 -/
def fcM (a b c e f : Int32) : Nat → Int32
  | 0 => 0
  | i + 1 => if btM a b c e f i = 0 then fcM a b c e f i else fcM a b c e f i + 1
def fwM (a b c e f : Int32) (s : (Nat → Int32) × Int32) : Nat → (Nat → Int32) × Int32
  | 0 => s
  | i + 1 => if btM a b c e f i = 0 then fwM a b c e f s i else (upd (fwM a b c e f s i).1 (fwM a b c e f s i).2.toNatClampNeg (btM a b c e f i), (fwM a b c e f s i).2 + 1)
def ftM (S : HS) (s : (Nat → Int32) × Int32) : HS := setI (setA S (ma 43) s.1) (fid 9 47) 2000 s.2
theorem ftM_self (S : HS) : S = ftM S (mA S 43, mI S 47) := by
  unfold ftM
  dsimp only
  rw [show mA S 43 = sA S (ma 43) from rfl, setA_self, show mI S 47 = sI S (fid 9 47) 2000 from rfl, setI_self]
theorem ftM_43 (S : HS) (s : (Nat → Int32) × Int32) (r : Nat → Int32) : setA (ftM S s) (ma 43) r = ftM S (r, s.2) := by
  unfold ftM
  rw [setA_setI, setA_setA]
theorem ftM_47 (S : HS) (s : (Nat → Int32) × Int32) (v : Int32) : setI (ftM S s) (fid 9 47) 2000 v = ftM S (s.1, v) := by
  unfold ftM
  rw [setI_setI]
theorem ftM_A (S : HS) (s : (Nat → Int32) × Int32) : sA (ftM S s) (ma 43) = s.1 := by
  unfold ftM
  rw [sA_setI, sA_set]
theorem ftM_I (S : HS) (s : (Nat → Int32) × Int32) : sI (ftM S s) (fid 9 47) 2000 = s.2 := sI_setIe _ _ _ _
theorem ftM_sh {S : HS} (h : ShM S) (s : (Nat → Int32) × Int32) : ShM (ftM S s) := (h.setA _ _).setI _ _ _
theorem fwM_rng {a b c e f : Int32} {s : (Nat → Int32) × Int32} (h : 0 ≤ s.2.toInt ∧ s.2.toInt ≤ 200) : ∀ i, i ≤ 20 → 0 ≤ (fwM a b c e f s i).2.toInt ∧ (fwM a b c e f s i).2.toInt ≤ s.2.toInt + i
  | 0, _ => ⟨h.1, by show s.2.toInt ≤ _; omega⟩
  | i + 1, hi => by
    have ih := fwM_rng (a := a) (b := b) (c := c) (e := e) (f := f) h i (by omega)
    unfold fwM
    split
    · omega
    · have : (1 : Int32).toInt = 1 := rfl
      show 0 ≤ ((fwM a b c e f s i).2 + 1).toInt ∧ _
      rw [show ((upd (fwM a b c e f s i).1 (fwM a b c e f s i).2.toNatClampNeg (btM a b c e f i), (fwM a b c e f s i).2 + 1) : (Nat → Int32) × Int32).2 = (fwM a b c e f s i).2 + 1 from rfl, fb_addI (by omega) (by omega)]
      omega
set_option maxHeartbeats 4000000 in
theorem c_X9_feed {l : Launch} {G : va_G} {cy : Nat → ClassId} (a1 b c e f : Int32) (S : HS) (h : ShM S) (hz : 0 ≤ (mI S 47).toInt ∧ (mI S 47).toInt ≤ 200) : Cn l G cy yX9_feed cX9_feed 9 (some .int) 1 [.ref 2000, .int a1, .int b, .int c, .int e, .int f] S 0 0 (qI (fun r S2 => (r = if ((mI S 47 + fcM a1 b c e f 20).toInt ≤ 200) then (fwM a1 b c e f (mA S 43, mI S 47) 20).2 else -1) ∧ S2 = if ((mI S 47 + fcM a1 b c e f 20).toInt ≤ 200) then ftM S (fwM a1 b c e f (mA S 43, mI S 47) 20) else S)) := by
  refine Cn.of [some (.ref 2000), some (.int a1), some (.int b), some (.int c), some (.int e), some (.int f), none, none, none] (by decide) rfl (Nat.le_of_ble_eq_true rfl) ?_
  have hsh := h
  refine r_iconst (v := 0) dX9_feed_0 (by decide) ?_
  refine r_ist6 dX9_feed_1 (Nat.le_of_ble_eq_true rfl) rfl ?_
  refine r_iconst (v := 0) dX9_feed_3 (by decide) ?_
  refine r_ist7 dX9_feed_4 (Nat.le_of_ble_eq_true rfl) rfl ?_
  refine R.for (α := Unit) (20) (fun i a => [some (.ref 2000), some (.int a1), some (.int b), some (.int c), some (.int e), some (.int f), some (.int (fcM a1 b c e f i)), some (.int (nI i)), none]) (fun i a => S) (fun i a => True) ?_ ?_ 0 () (Nat.zero_le _) trivial
  · intro a hI
    refine r_iload dX9_feed_6 rfl ?_
    refine r_bipush (v := 20) dX9_feed_8 (by decide) ?_
    refine r_icmp_ge 44 dX9_feed_10 (by decide) (fun q10 => ?_) (fun q10 => ?_)
    · skip
      refine r_aload_n dX9_feed_44 rfl rfl ?_
      refine r_getI dX9_feed_45 lf_X9_215 rfl rfl ?_
      refine r_iload dX9_feed_48 rfl ?_
      refine r_iadd dX9_feed_50 ?_
      refine r_sipush (v := 200) dX9_feed_51 (by decide) ?_
      refine r_icmp_le 59 dX9_feed_54 (by decide) (fun q54 => ?_) (fun q54 => ?_)
      · skip
        have hc : ((mI S 47 + fcM a1 b c e f 20).toInt ≤ 200) := by rw [fa_le] at q54; exact q54
        refine R.heap (S2 := ftM S (fwM a1 b c e f (mA S 43, mI S 47) 0)) (ftM_self S) ?_
        refine r_iconst (v := 0) dX9_feed_59 (by decide) ?_
        refine r_ist7 dX9_feed_60 (Nat.le_of_ble_eq_true rfl) rfl ?_
        refine R.for (α := Option Value) (20) (fun i a => [some (.ref 2000), some (.int a1), some (.int b), some (.int c), some (.int e), some (.int f), some (.int (fcM a1 b c e f 20)), some (.int (nI i)), a]) (fun i a => (ftM S (fwM a1 b c e f (mA S 43, mI S 47) i))) (fun i a => True) ?_ ?_ 0 none (Nat.zero_le _) trivial
        · intro a hI
          have hsh := ftM_sh h (fwM a1 b c e f (mA S 43, mI S 47) 20)
          refine r_iload dX9_feed_62 rfl ?_
          refine r_bipush (v := 20) dX9_feed_64 (by decide) ?_
          refine r_icmp_ge 115 dX9_feed_66 (by decide) (fun q66 => ?_) (fun q66 => ?_)
          · skip
            refine r_aload_n dX9_feed_115 rfl rfl ?_
            refine r_getI dX9_feed_116 lf_X9_215 rfl rfl ?_
            rw [ftM_I]
            exact r_iret dX9_feed_119 rfl (Nat.zero_le _) (Nat.zero_le _) ⟨_, rfl, ⟨(if_pos hc).symm, (if_pos hc).symm⟩⟩
          · skip
            exact absurd (by decide) q66
        · intro i a hi hI ih
          have hii : (nI i).toInt = i := nI_toInt (by omega)
          have hsh := ftM_sh h (fwM a1 b c e f (mA S 43, mI S 47) i)
          have hrg := fwM_rng (a := a1) (b := b) (c := c) (e := e) (f := f) (s := (mA S 43, mI S 47)) hz i (by omega)
          refine r_iload dX9_feed_62 rfl ?_
          refine r_bipush (v := 20) dX9_feed_64 (by decide) ?_
          refine r_icmp_ge 115 dX9_feed_66 (by decide) (fun q66 => ?_) (fun q66 => ?_)
          · skip
            exact absurd q66 (by rw [fa_le, hii]; have : (20 : Int32).toInt = 20 := rfl; omega)
          · skip
            refine r_iload_n dX9_feed_69 rfl rfl ?_
            refine r_iload_n dX9_feed_70 rfl rfl ?_
            refine r_iload_n dX9_feed_71 rfl rfl ?_
            refine r_iload dX9_feed_72 rfl ?_
            refine r_iload dX9_feed_74 rfl ?_
            refine r_iload dX9_feed_76 rfl ?_
            refine r_invS6i dX9_feed_78 lm_X9_211 (c_X9_byteOf a1 b c e f i hi _) (Nat.le_of_ble_eq_true rfl) (Nat.le_of_ble_eq_true rfl) (Nat.zero_le _) (Nat.zero_le _) (fun r78 S78 hq78 => ?_)
            obtain ⟨rfl, hz78⟩ := hq78
            replace hz78 := hz78.symm
            subst hz78
            refine r_ist8 dX9_feed_81 (Nat.le_of_ble_eq_true rfl) rfl ?_
            refine r_iload dX9_feed_83 rfl ?_
            refine r_if_eq 109 dX9_feed_85 (by decide) (fun q85 => ?_) (fun q85 => ?_)
            · skip
              have hz0 : btM a1 b c e f i = 0 := q85
              try rw [ftM_47]
              refine r_in7 dX9_feed_109 (show _ + Int32.ofInt 1 = _ + 1 from rfl) (Nat.le_of_ble_eq_true rfl) rfl ?_
              refine r_goto 62 dX9_feed_112 (by decide) ?_
              rw [nI_1 i]
              have h9 := ih (some (.int (btM a1 b c e f i))) trivial
              first
                | (have q2 := hz0
                   rw [show (fwM a1 b c e f (mA S 43, mI S 47) (i + 1)) = (fwM a1 b c e f (mA S 43, mI S 47) i) from if_pos q2] at h9
                   exact h9)
                | (have q2 := hz1
                   rw [show (fwM a1 b c e f (mA S 43, mI S 47) (i + 1)) = (upd (fwM a1 b c e f (mA S 43, mI S 47) i).1 (fwM a1 b c e f (mA S 43, mI S 47) i).2.toNatClampNeg (btM a1 b c e f i), (fwM a1 b c e f (mA S 43, mI S 47) i).2 + 1) from if_neg q2] at h9
                   exact h9)
            · skip
              have hz1 : ¬ btM a1 b c e f i = 0 := q85
              refine r_aload_n dX9_feed_88 rfl rfl ?_
              refine r_getR dX9_feed_89 lf_X9_111 rfl rfl (shM_R hsh (j := 43) rfl) (shM_L hsh (j := 43) rfl) ?_
              refine r_aload_n dX9_feed_92 rfl rfl ?_
              refine r_getI dX9_feed_93 lf_X9_215 rfl rfl ?_
              rw [ftM_I]
              refine r_iload dX9_feed_96 rfl ?_
              refine r_iast dX9_feed_98 rfl (show vp_in (fwM a1 b c e f (mA S 43, mI S 47) i).2 220 from vp_in_iff.mpr ⟨hrg.1, by have := hrg.2; have := hz.2; dsimp only at *; omega⟩) ?_
              rw [ftM_A, ftM_43]
              have hsh := ftM_sh h (upd (fwM a1 b c e f (mA S 43, mI S 47) i).1 (fwM a1 b c e f (mA S 43, mI S 47) i).2.toNatClampNeg (btM a1 b c e f i), (fwM a1 b c e f (mA S 43, mI S 47) i).2)
              refine r_aload_n dX9_feed_99 rfl rfl ?_
              refine r_dup dX9_feed_100 rfl ?_
              refine r_getI dX9_feed_101 lf_X9_215 rfl rfl ?_
              rw [ftM_I]
              refine r_iconst (v := 1) dX9_feed_104 (by decide) ?_
              refine r_iadd dX9_feed_105 ?_
              refine r_putI dX9_feed_106 (lp_X9_215 _) rfl rfl ?_
              try rw [ftM_47]
              refine r_in7 dX9_feed_109 (show _ + Int32.ofInt 1 = _ + 1 from rfl) (Nat.le_of_ble_eq_true rfl) rfl ?_
              refine r_goto 62 dX9_feed_112 (by decide) ?_
              rw [nI_1 i]
              have h9 := ih (some (.int (btM a1 b c e f i))) trivial
              first
                | (have q2 := hz0
                   rw [show (fwM a1 b c e f (mA S 43, mI S 47) (i + 1)) = (fwM a1 b c e f (mA S 43, mI S 47) i) from if_pos q2] at h9
                   exact h9)
                | (have q2 := hz1
                   rw [show (fwM a1 b c e f (mA S 43, mI S 47) (i + 1)) = (upd (fwM a1 b c e f (mA S 43, mI S 47) i).1 (fwM a1 b c e f (mA S 43, mI S 47) i).2.toNatClampNeg (btM a1 b c e f i), (fwM a1 b c e f (mA S 43, mI S 47) i).2 + 1) from if_neg q2] at h9
                   exact h9)
      · skip
        have hc : ¬ ((mI S 47 + fcM a1 b c e f 20).toInt ≤ 200) := fun z => q54 (by rw [fa_le]; exact z)
        refine r_iconst (v := (-1)) dX9_feed_57 (by decide) ?_
        exact r_iret dX9_feed_58 rfl (Nat.zero_le _) (Nat.zero_le _) ⟨_, rfl, ⟨(if_neg hc).symm, (if_neg hc).symm⟩⟩
    · skip
      exact absurd (by decide) q10
  · intro i a hi hI ih
    have hii : (nI i).toInt = i := nI_toInt (by omega)
    refine r_iload dX9_feed_6 rfl ?_
    refine r_bipush (v := 20) dX9_feed_8 (by decide) ?_
    refine r_icmp_ge 44 dX9_feed_10 (by decide) (fun q10 => ?_) (fun q10 => ?_)
    · skip
      exact absurd q10 (by rw [fa_le, hii]; have : (20 : Int32).toInt = 20 := rfl; omega)
    · skip
      refine r_iload dX9_feed_13 rfl ?_
      refine r_iload_n dX9_feed_15 rfl rfl ?_
      refine r_iload_n dX9_feed_16 rfl rfl ?_
      refine r_iload_n dX9_feed_17 rfl rfl ?_
      refine r_iload dX9_feed_18 rfl ?_
      refine r_iload dX9_feed_20 rfl ?_
      refine r_iload dX9_feed_22 rfl ?_
      refine r_invS6i dX9_feed_24 lm_X9_211 (c_X9_byteOf a1 b c e f i hi S) (Nat.le_of_ble_eq_true rfl) (Nat.le_of_ble_eq_true rfl) (Nat.zero_le _) (Nat.zero_le _) (fun r24 S24 hq24 => ?_)
      obtain ⟨rfl, hz24⟩ := hq24
      replace hz24 := hz24.symm
      subst hz24
      refine r_if_eq 34 dX9_feed_27 (by decide) (fun q27 => ?_) (fun q27 => ?_)
      · skip
        have hz0 : btM a1 b c e f i = 0 := q27
        refine r_iconst (v := 0) dX9_feed_34 (by decide) ?_
        refine r_iadd dX9_feed_35 ?_
        refine r_ist6 dX9_feed_36 (Nat.le_of_ble_eq_true rfl) rfl ?_
        refine r_in7 dX9_feed_38 (show _ + Int32.ofInt 1 = _ + 1 from rfl) (Nat.le_of_ble_eq_true rfl) rfl ?_
        refine r_goto 6 dX9_feed_41 (by decide) ?_
        rw [nI_1 i]
        have h9 := ih () trivial
        first
          | (have q2 := hz0
             rw [show fcM a1 b c e f (i + 1) = fcM a1 b c e f i from if_pos q2] at h9
             rw [Int32.add_zero]
             exact h9)
          | (have q2 := hz1
             rw [show fcM a1 b c e f (i + 1) = fcM a1 b c e f i + 1 from if_neg q2] at h9
             exact h9)
      · skip
        have hz1 : ¬ btM a1 b c e f i = 0 := q27
        refine r_iconst (v := 1) dX9_feed_30 (by decide) ?_
        refine r_goto 35 dX9_feed_31 (by decide) ?_
        refine r_iadd dX9_feed_35 ?_
        refine r_ist6 dX9_feed_36 (Nat.le_of_ble_eq_true rfl) rfl ?_
        refine r_in7 dX9_feed_38 (show _ + Int32.ofInt 1 = _ + 1 from rfl) (Nat.le_of_ble_eq_true rfl) rfl ?_
        refine r_goto 6 dX9_feed_41 (by decide) ?_
        rw [nI_1 i]
        have h9 := ih () trivial
        first
          | (have q2 := hz0
             rw [show fcM a1 b c e f (i + 1) = fcM a1 b c e f i from if_pos q2] at h9
             rw [Int32.add_zero]
             exact h9)
          | (have q2 := hz1
             rw [show fcM a1 b c e f (i + 1) = fcM a1 b c e f i + 1 from if_neg q2] at h9
             exact h9)
