/-! ===== loops that count; heaps that differ in rows ===== -/
theorem R.for {l : Launch} {G : va_G} {cy : Nat → ClassId} {y : MethodName} {b : ByteArray} {nL : Nat} {rt : Option FieldType} {d mc ms : Nat} {Q : Option Value → HS → Prop} {pc : Nat} {st : List Value} {k n : Nat} {α : Type} (N : Nat) (lvf : Nat → α → List (Option Value)) (Sf : Nat → α → HS) (I : Nat → α → Prop) (hx : ∀ a, I N a → R l G cy y b nL rt d mc ms Q pc (lvf N a) st (Sf N a) k n) (hs : ∀ i a, i < N → I i a → (∀ a', I (i + 1) a' → R l G cy y b nL rt d mc ms Q pc (lvf (i + 1) a') st (Sf (i + 1) a') k n) → R l G cy y b nL rt d mc ms Q pc (lvf i a) st (Sf i a) k n) : ∀ i a, i ≤ N → I i a → R l G cy y b nL rt d mc ms Q pc (lvf i a) st (Sf i a) k n := by
  intro i
  generalize hu : N - i = u
  induction u generalizing i with
  | zero =>
    intro a hi hI
    have e : i = N := by omega
    subst e
    exact hx a hI
  | succ u ih => exact fun a hi hI => hs i a (by omega) hI (fun a' hI' => ih (i + 1) (by omega) a' (by omega) hI')
theorem setA_self (S : HS) (a : Nat) : setA S a (sA S a) = S := by
  have e : va_up (sA S) a (sA S a) = sA S := by
    funext j
    unfold va_up
    split
    · rename_i h; rw [h]
    · rfl
  unfold setA
  rw [e]
  rfl
theorem setI_self (S : HS) (f a : Nat) : setI S f a (sI S f a) = S := by
  have e : up2 (sI S) f a (sI S f a) = sI S := by
    funext i j
    unfold up2
    split
    · rename_i h; rw [h.1, h.2]
    · rfl
  unfold setI
  rw [e]
  rfl
theorem setA_setA (S : HS) (a : Nat) (r r' : Nat → Int32) : setA (setA S a r) a r' = setA S a r' := by
  have e : va_up (va_up (sA S) a r) a r' = va_up (sA S) a r' := by
    funext j
    unfold va_up
    split <;> rfl
  unfold setA
  simp only [sA, sL, sI, sR, sQ] at e ⊢
  rw [e]
theorem setA_comm (S : HS) {a c : Nat} (h : a ≠ c) (r r' : Nat → Int32) : setA (setA S a r) c r' = setA (setA S c r') a r := by
  have e : va_up (va_up (sA S) a r) c r' = va_up (va_up (sA S) c r') a r := by
    funext j
    unfold va_up
    by_cases h1 : j = c
    · subst h1; simp [Ne.symm h]
    · simp [h1]
  unfold setA
  simp only [sA, sL, sI, sR, sQ] at e ⊢
  rw [e]
theorem ShM.same {S S2 : HS} (hL : sL S2 = sL S) (hR : sR S2 = sR S) (h : ShM S) : ShM S2 := by
  unfold ShM at *
  rw [hL, hR]
  exact h
/-- the number of an Int32 that is not negative -/
def nn (x : Int32) : Nat := x.toInt.toNat
theorem nn_int {x : Int32} (h : 0 ≤ x.toInt) : (nn x : Int) = x.toInt := by unfold nn; omega
theorem clamp_nn {x : Int32} : x.toNatClampNeg = nn x := rfl
section RI
variable {l : Launch} {G : va_G} {cy : Nat → ClassId} {y : MethodName} {b : ByteArray} {nL : Nat} {rt : Option FieldType} {d mc ms : Nat} {Q : Option Value → HS → Prop} {pc : Nat} {st : List Value} {S : HS} {k n : Nat}
theorem r_in0 {r0 : List (Option Value)} {z : Int} {x v : Int32} (hd : decode b pc = .ok (.iinc 0 z, 3)) (hz : x + Int32.ofInt z = v) (hn : 0 < nL) (h : R l G cy y b nL rt d mc ms Q (pc + 3) (some (.int v) :: r0) st S k n) : R l G cy y b nL rt d mc ms Q pc (some (.int x) :: r0) st S k n := r_inc0 (x0 := none) hd hz hn h
theorem r_in1 {a0 : Option Value} {r0 : List (Option Value)} {z : Int} {x v : Int32} (hd : decode b pc = .ok (.iinc 1 z, 3)) (hz : x + Int32.ofInt z = v) (hn : 1 < nL) (hp : okp a0 = true) (h : R l G cy y b nL rt d mc ms Q (pc + 3) (a0 :: some (.int v) :: r0) st S k n) : R l G cy y b nL rt d mc ms Q pc (a0 :: some (.int x) :: r0) st S k n := r_inc1 (x0 := none) hd hz hn hp h
theorem r_in2 {a0 a1 : Option Value} {r0 : List (Option Value)} {z : Int} {x v : Int32} (hd : decode b pc = .ok (.iinc 2 z, 3)) (hz : x + Int32.ofInt z = v) (hn : 2 < nL) (hp : okp a1 = true) (h : R l G cy y b nL rt d mc ms Q (pc + 3) (a0 :: a1 :: some (.int v) :: r0) st S k n) : R l G cy y b nL rt d mc ms Q pc (a0 :: a1 :: some (.int x) :: r0) st S k n := r_inc2 (x0 := none) hd hz hn hp h
theorem r_in3 {a0 a1 a2 : Option Value} {r0 : List (Option Value)} {z : Int} {x v : Int32} (hd : decode b pc = .ok (.iinc 3 z, 3)) (hz : x + Int32.ofInt z = v) (hn : 3 < nL) (hp : okp a2 = true) (h : R l G cy y b nL rt d mc ms Q (pc + 3) (a0 :: a1 :: a2 :: some (.int v) :: r0) st S k n) : R l G cy y b nL rt d mc ms Q pc (a0 :: a1 :: a2 :: some (.int x) :: r0) st S k n := r_inc3 (x0 := none) hd hz hn hp h
theorem r_in4 {a0 a1 a2 a3 : Option Value} {r0 : List (Option Value)} {z : Int} {x v : Int32} (hd : decode b pc = .ok (.iinc 4 z, 3)) (hz : x + Int32.ofInt z = v) (hn : 4 < nL) (hp : okp a3 = true) (h : R l G cy y b nL rt d mc ms Q (pc + 3) (a0 :: a1 :: a2 :: a3 :: some (.int v) :: r0) st S k n) : R l G cy y b nL rt d mc ms Q pc (a0 :: a1 :: a2 :: a3 :: some (.int x) :: r0) st S k n := r_inc4 (x0 := none) hd hz hn hp h
theorem r_in5 {a0 a1 a2 a3 a4 : Option Value} {r0 : List (Option Value)} {z : Int} {x v : Int32} (hd : decode b pc = .ok (.iinc 5 z, 3)) (hz : x + Int32.ofInt z = v) (hn : 5 < nL) (hp : okp a4 = true) (h : R l G cy y b nL rt d mc ms Q (pc + 3) (a0 :: a1 :: a2 :: a3 :: a4 :: some (.int v) :: r0) st S k n) : R l G cy y b nL rt d mc ms Q pc (a0 :: a1 :: a2 :: a3 :: a4 :: some (.int x) :: r0) st S k n := r_inc5 (x0 := none) hd hz hn hp h
theorem r_in6 {a0 a1 a2 a3 a4 a5 : Option Value} {r0 : List (Option Value)} {z : Int} {x v : Int32} (hd : decode b pc = .ok (.iinc 6 z, 3)) (hz : x + Int32.ofInt z = v) (hn : 6 < nL) (hp : okp a5 = true) (h : R l G cy y b nL rt d mc ms Q (pc + 3) (a0 :: a1 :: a2 :: a3 :: a4 :: a5 :: some (.int v) :: r0) st S k n) : R l G cy y b nL rt d mc ms Q pc (a0 :: a1 :: a2 :: a3 :: a4 :: a5 :: some (.int x) :: r0) st S k n := r_inc6 (x0 := none) hd hz hn hp h
theorem r_in7 {a0 a1 a2 a3 a4 a5 a6 : Option Value} {r0 : List (Option Value)} {z : Int} {x v : Int32} (hd : decode b pc = .ok (.iinc 7 z, 3)) (hz : x + Int32.ofInt z = v) (hn : 7 < nL) (hp : okp a6 = true) (h : R l G cy y b nL rt d mc ms Q (pc + 3) (a0 :: a1 :: a2 :: a3 :: a4 :: a5 :: a6 :: some (.int v) :: r0) st S k n) : R l G cy y b nL rt d mc ms Q pc (a0 :: a1 :: a2 :: a3 :: a4 :: a5 :: a6 :: some (.int x) :: r0) st S k n := r_inc7 (x0 := none) hd hz hn hp h
theorem r_in8 {a0 a1 a2 a3 a4 a5 a6 a7 : Option Value} {r0 : List (Option Value)} {z : Int} {x v : Int32} (hd : decode b pc = .ok (.iinc 8 z, 3)) (hz : x + Int32.ofInt z = v) (hn : 8 < nL) (hp : okp a7 = true) (h : R l G cy y b nL rt d mc ms Q (pc + 3) (a0 :: a1 :: a2 :: a3 :: a4 :: a5 :: a6 :: a7 :: some (.int v) :: r0) st S k n) : R l G cy y b nL rt d mc ms Q pc (a0 :: a1 :: a2 :: a3 :: a4 :: a5 :: a6 :: a7 :: some (.int x) :: r0) st S k n := r_inc8 (x0 := none) hd hz hn hp h
theorem r_in9 {a0 a1 a2 a3 a4 a5 a6 a7 a8 : Option Value} {r0 : List (Option Value)} {z : Int} {x v : Int32} (hd : decode b pc = .ok (.iinc 9 z, 3)) (hz : x + Int32.ofInt z = v) (hn : 9 < nL) (hp : okp a8 = true) (h : R l G cy y b nL rt d mc ms Q (pc + 3) (a0 :: a1 :: a2 :: a3 :: a4 :: a5 :: a6 :: a7 :: a8 :: some (.int v) :: r0) st S k n) : R l G cy y b nL rt d mc ms Q pc (a0 :: a1 :: a2 :: a3 :: a4 :: a5 :: a6 :: a7 :: a8 :: some (.int x) :: r0) st S k n := r_inc9 (x0 := none) hd hz hn hp h
theorem r_in10 {a0 a1 a2 a3 a4 a5 a6 a7 a8 a9 : Option Value} {r0 : List (Option Value)} {z : Int} {x v : Int32} (hd : decode b pc = .ok (.iinc 10 z, 3)) (hz : x + Int32.ofInt z = v) (hn : 10 < nL) (hp : okp a9 = true) (h : R l G cy y b nL rt d mc ms Q (pc + 3) (a0 :: a1 :: a2 :: a3 :: a4 :: a5 :: a6 :: a7 :: a8 :: a9 :: some (.int v) :: r0) st S k n) : R l G cy y b nL rt d mc ms Q pc (a0 :: a1 :: a2 :: a3 :: a4 :: a5 :: a6 :: a7 :: a8 :: a9 :: some (.int x) :: r0) st S k n := r_inc10 (x0 := none) hd hz hn hp h
theorem r_in11 {a0 a1 a2 a3 a4 a5 a6 a7 a8 a9 a10 : Option Value} {r0 : List (Option Value)} {z : Int} {x v : Int32} (hd : decode b pc = .ok (.iinc 11 z, 3)) (hz : x + Int32.ofInt z = v) (hn : 11 < nL) (hp : okp a10 = true) (h : R l G cy y b nL rt d mc ms Q (pc + 3) (a0 :: a1 :: a2 :: a3 :: a4 :: a5 :: a6 :: a7 :: a8 :: a9 :: a10 :: some (.int v) :: r0) st S k n) : R l G cy y b nL rt d mc ms Q pc (a0 :: a1 :: a2 :: a3 :: a4 :: a5 :: a6 :: a7 :: a8 :: a9 :: a10 :: some (.int x) :: r0) st S k n := r_inc11 (x0 := none) hd hz hn hp h
theorem r_in12 {a0 a1 a2 a3 a4 a5 a6 a7 a8 a9 a10 a11 : Option Value} {r0 : List (Option Value)} {z : Int} {x v : Int32} (hd : decode b pc = .ok (.iinc 12 z, 3)) (hz : x + Int32.ofInt z = v) (hn : 12 < nL) (hp : okp a11 = true) (h : R l G cy y b nL rt d mc ms Q (pc + 3) (a0 :: a1 :: a2 :: a3 :: a4 :: a5 :: a6 :: a7 :: a8 :: a9 :: a10 :: a11 :: some (.int v) :: r0) st S k n) : R l G cy y b nL rt d mc ms Q pc (a0 :: a1 :: a2 :: a3 :: a4 :: a5 :: a6 :: a7 :: a8 :: a9 :: a10 :: a11 :: some (.int x) :: r0) st S k n := r_inc12 (x0 := none) hd hz hn hp h
theorem r_in13 {a0 a1 a2 a3 a4 a5 a6 a7 a8 a9 a10 a11 a12 : Option Value} {r0 : List (Option Value)} {z : Int} {x v : Int32} (hd : decode b pc = .ok (.iinc 13 z, 3)) (hz : x + Int32.ofInt z = v) (hn : 13 < nL) (hp : okp a12 = true) (h : R l G cy y b nL rt d mc ms Q (pc + 3) (a0 :: a1 :: a2 :: a3 :: a4 :: a5 :: a6 :: a7 :: a8 :: a9 :: a10 :: a11 :: a12 :: some (.int v) :: r0) st S k n) : R l G cy y b nL rt d mc ms Q pc (a0 :: a1 :: a2 :: a3 :: a4 :: a5 :: a6 :: a7 :: a8 :: a9 :: a10 :: a11 :: a12 :: some (.int x) :: r0) st S k n := r_inc13 (x0 := none) hd hz hn hp h
theorem r_in14 {a0 a1 a2 a3 a4 a5 a6 a7 a8 a9 a10 a11 a12 a13 : Option Value} {r0 : List (Option Value)} {z : Int} {x v : Int32} (hd : decode b pc = .ok (.iinc 14 z, 3)) (hz : x + Int32.ofInt z = v) (hn : 14 < nL) (hp : okp a13 = true) (h : R l G cy y b nL rt d mc ms Q (pc + 3) (a0 :: a1 :: a2 :: a3 :: a4 :: a5 :: a6 :: a7 :: a8 :: a9 :: a10 :: a11 :: a12 :: a13 :: some (.int v) :: r0) st S k n) : R l G cy y b nL rt d mc ms Q pc (a0 :: a1 :: a2 :: a3 :: a4 :: a5 :: a6 :: a7 :: a8 :: a9 :: a10 :: a11 :: a12 :: a13 :: some (.int x) :: r0) st S k n := r_inc14 (x0 := none) hd hz hn hp h
theorem r_in15 {a0 a1 a2 a3 a4 a5 a6 a7 a8 a9 a10 a11 a12 a13 a14 : Option Value} {r0 : List (Option Value)} {z : Int} {x v : Int32} (hd : decode b pc = .ok (.iinc 15 z, 3)) (hz : x + Int32.ofInt z = v) (hn : 15 < nL) (hp : okp a14 = true) (h : R l G cy y b nL rt d mc ms Q (pc + 3) (a0 :: a1 :: a2 :: a3 :: a4 :: a5 :: a6 :: a7 :: a8 :: a9 :: a10 :: a11 :: a12 :: a13 :: a14 :: some (.int v) :: r0) st S k n) : R l G cy y b nL rt d mc ms Q pc (a0 :: a1 :: a2 :: a3 :: a4 :: a5 :: a6 :: a7 :: a8 :: a9 :: a10 :: a11 :: a12 :: a13 :: a14 :: some (.int x) :: r0) st S k n := r_inc15 (x0 := none) hd hz hn hp h
end RI
set_option maxHeartbeats 4000000 in
theorem c_X9_count {l : Launch} {G : va_G} {cy : Nat → ClassId} (w : Int32) (S : HS) (h : ShM S) (hb : 0 ≤ (mI S 25).toInt ∧ (mI S 25).toInt ≤ 12) : Cn l G cy yX9_count cX9_count 5 (some .int) 0 [.ref 2000, .int w] S 0 0 (qI (fun r S2 => r = sel w.toInt (-1) [mI S 24, mI S 25, mI S 26, mI S 27, l_sum (mA S 0) 36, mI S 30, mI S 31, mI S 32, mI S 33, mI S 34, l_sum (mA S 6) (nn (mI S 25)), mI S 47] ∧ S2 = S)) := by
  refine Cn.of [some (.ref 2000), some (.int w), none, none, none] (by decide) rfl (Nat.le_of_ble_eq_true rfl) ?_
  refine r_iconst (v := 0) dX9_count_0 (by decide) ?_
  refine r_ist2 dX9_count_1 (Nat.le_of_ble_eq_true rfl) rfl ?_
  refine r_iconst (v := 0) dX9_count_2 (by decide) ?_
  refine r_ist3 dX9_count_3 (Nat.le_of_ble_eq_true rfl) rfl ?_
  refine r_iconst (v := 0) dX9_count_4 (by decide) ?_
  refine r_ist4 dX9_count_5 (Nat.le_of_ble_eq_true rfl) rfl ?_
  refine R.for (α := Unit) (36) (fun i a => [some (.ref 2000), some (.int w), some (.int (l_sum (mA S 0) i)), some (.int 0), some (.int (nI i))]) (fun i a => S) (fun i a => True) ?_ ?_ 0 () (Nat.zero_le _) trivial
  · intro a hI
    have hii : (nI 36).toInt = (36 : Nat) := nI_toInt (by omega)
    refine r_iload dX9_count_7 rfl ?_
    refine r_bipush (v := 36) dX9_count_9 (by decide) ?_
    refine r_icmp_ge 30 dX9_count_11 (by decide) (fun q11 => ?_) (fun q11 => ?_)
    · skip
      refine r_iconst (v := 0) dX9_count_30 (by decide) ?_
      refine r_ist4 dX9_count_31 (Nat.le_of_ble_eq_true rfl) rfl ?_
      refine R.for (α := Unit) (nn (mI S 25)) (fun i a => [some (.ref 2000), some (.int w), some (.int (l_sum (mA S 0) 36)), some (.int (l_sum (mA S 6) i)), some (.int (nI i))]) (fun i a => S) (fun i a => True) ?_ ?_ 0 () (Nat.zero_le _) trivial
      · intro a hI
        have hnb := nn_int hb.1
        have hii : (nI (nn (mI S 25))).toInt = ((nn (mI S 25) : Nat) : Int) := nI_toInt (by omega)
        refine r_iload dX9_count_33 rfl ?_
        refine r_aload_n dX9_count_35 rfl rfl ?_
        refine r_getI dX9_count_36 lf_X9_126 rfl rfl ?_
        refine r_icmp_ge 58 dX9_count_39 (by decide) (fun q39 => ?_) (fun q39 => ?_)
        · skip
          refine r_iload_n dX9_count_58 rfl rfl ?_
          by_cases e59_0 : (w).toInt = 0
          · refine r_tableIn 120 dX9_count_59 (by rw [e59_0]; decide) (by rw [e59_0]; decide) (by rw [e59_0]; rfl) (by decide) ?_
            refine r_aload_n dX9_count_120 rfl rfl ?_
            refine r_getI dX9_count_121 lf_X9_183 rfl rfl ?_
            exact r_iret dX9_count_124 rfl (Nat.zero_le _) (Nat.zero_le _) ⟨_, rfl, ⟨by simp [sel, e59_0], rfl⟩⟩
          by_cases e59_1 : (w).toInt = 1
          · refine r_tableIn 125 dX9_count_59 (by rw [e59_1]; decide) (by rw [e59_1]; decide) (by rw [e59_1]; rfl) (by decide) ?_
            refine r_aload_n dX9_count_125 rfl rfl ?_
            refine r_getI dX9_count_126 lf_X9_126 rfl rfl ?_
            exact r_iret dX9_count_129 rfl (Nat.zero_le _) (Nat.zero_le _) ⟨_, rfl, ⟨by simp [sel, e59_1], rfl⟩⟩
          by_cases e59_2 : (w).toInt = 2
          · refine r_tableIn 130 dX9_count_59 (by rw [e59_2]; decide) (by rw [e59_2]; decide) (by rw [e59_2]; rfl) (by decide) ?_
            refine r_aload_n dX9_count_130 rfl rfl ?_
            refine r_getI dX9_count_131 lf_X9_140 rfl rfl ?_
            exact r_iret dX9_count_134 rfl (Nat.zero_le _) (Nat.zero_le _) ⟨_, rfl, ⟨by simp [sel, e59_2], rfl⟩⟩
          by_cases e59_3 : (w).toInt = 3
          · refine r_tableIn 135 dX9_count_59 (by rw [e59_3]; decide) (by rw [e59_3]; decide) (by rw [e59_3]; rfl) (by decide) ?_
            refine r_aload_n dX9_count_135 rfl rfl ?_
            refine r_getI dX9_count_136 lf_X9_173 rfl rfl ?_
            exact r_iret dX9_count_139 rfl (Nat.zero_le _) (Nat.zero_le _) ⟨_, rfl, ⟨by simp [sel, e59_3], rfl⟩⟩
          by_cases e59_4 : (w).toInt = 4
          · refine r_tableIn 140 dX9_count_59 (by rw [e59_4]; decide) (by rw [e59_4]; decide) (by rw [e59_4]; rfl) (by decide) ?_
            refine r_iload_n dX9_count_140 rfl rfl ?_
            exact r_iret dX9_count_141 rfl (Nat.zero_le _) (Nat.zero_le _) ⟨_, rfl, ⟨by simp [sel, e59_4], rfl⟩⟩
          by_cases e59_5 : (w).toInt = 5
          · refine r_tableIn 142 dX9_count_59 (by rw [e59_5]; decide) (by rw [e59_5]; decide) (by rw [e59_5]; rfl) (by decide) ?_
            refine r_aload_n dX9_count_142 rfl rfl ?_
            refine r_getI dX9_count_143 lf_X9_198 rfl rfl ?_
            exact r_iret dX9_count_146 rfl (Nat.zero_le _) (Nat.zero_le _) ⟨_, rfl, ⟨by simp [sel, e59_5], rfl⟩⟩
          by_cases e59_6 : (w).toInt = 6
          · refine r_tableIn 147 dX9_count_59 (by rw [e59_6]; decide) (by rw [e59_6]; decide) (by rw [e59_6]; rfl) (by decide) ?_
            refine r_aload_n dX9_count_147 rfl rfl ?_
            refine r_getI dX9_count_148 lf_X9_189 rfl rfl ?_
            exact r_iret dX9_count_151 rfl (Nat.zero_le _) (Nat.zero_le _) ⟨_, rfl, ⟨by simp [sel, e59_6], rfl⟩⟩
          by_cases e59_7 : (w).toInt = 7
          · refine r_tableIn 152 dX9_count_59 (by rw [e59_7]; decide) (by rw [e59_7]; decide) (by rw [e59_7]; rfl) (by decide) ?_
            refine r_aload_n dX9_count_152 rfl rfl ?_
            refine r_getI dX9_count_153 lf_X9_186 rfl rfl ?_
            exact r_iret dX9_count_156 rfl (Nat.zero_le _) (Nat.zero_le _) ⟨_, rfl, ⟨by simp [sel, e59_7], rfl⟩⟩
          by_cases e59_8 : (w).toInt = 8
          · refine r_tableIn 157 dX9_count_59 (by rw [e59_8]; decide) (by rw [e59_8]; decide) (by rw [e59_8]; rfl) (by decide) ?_
            refine r_aload_n dX9_count_157 rfl rfl ?_
            refine r_getI dX9_count_158 lf_X9_157 rfl rfl ?_
            exact r_iret dX9_count_161 rfl (Nat.zero_le _) (Nat.zero_le _) ⟨_, rfl, ⟨by simp [sel, e59_8], rfl⟩⟩
          by_cases e59_9 : (w).toInt = 9
          · refine r_tableIn 162 dX9_count_59 (by rw [e59_9]; decide) (by rw [e59_9]; decide) (by rw [e59_9]; rfl) (by decide) ?_
            refine r_aload_n dX9_count_162 rfl rfl ?_
            refine r_getI dX9_count_163 lf_X9_180 rfl rfl ?_
            exact r_iret dX9_count_166 rfl (Nat.zero_le _) (Nat.zero_le _) ⟨_, rfl, ⟨by simp [sel, e59_9], rfl⟩⟩
          by_cases e59_10 : (w).toInt = 10
          · refine r_tableIn 167 dX9_count_59 (by rw [e59_10]; decide) (by rw [e59_10]; decide) (by rw [e59_10]; rfl) (by decide) ?_
            refine r_iload_n dX9_count_167 rfl rfl ?_
            exact r_iret dX9_count_168 rfl (Nat.zero_le _) (Nat.zero_le _) ⟨_, rfl, ⟨by simp [sel, e59_10], rfl⟩⟩
          by_cases e59_11 : (w).toInt = 11
          · refine r_tableIn 169 dX9_count_59 (by rw [e59_11]; decide) (by rw [e59_11]; decide) (by rw [e59_11]; rfl) (by decide) ?_
            refine r_aload_n dX9_count_169 rfl rfl ?_
            refine r_getI dX9_count_170 lf_X9_215 rfl rfl ?_
            exact r_iret dX9_count_173 rfl (Nat.zero_le _) (Nat.zero_le _) ⟨_, rfl, ⟨by simp [sel, e59_11], rfl⟩⟩
          refine r_tableOut 174 dX9_count_59 (by omega) (by decide) ?_
          refine r_iconst (v := (-1)) dX9_count_174 (by decide) ?_
          exact r_iret dX9_count_175 rfl (Nat.zero_le _) (Nat.zero_le _) ⟨_, rfl, ⟨by simp only [sel]; rw [if_neg (by omega), if_neg (by omega), if_neg (by omega), if_neg (by omega), if_neg (by omega), if_neg (by omega), if_neg (by omega), if_neg (by omega), if_neg (by omega), if_neg (by omega), if_neg (by omega), if_neg (by omega)], rfl⟩⟩
        · skip
          exact absurd q39 (by (try simp only [b2i_eq0, b2i_ne0, decide_eq_true_eq] at *); (try simp only [mI, mA, sI_setA, sI_setQ, sI_setR, sA_setI, sA_setR, sA_setQ, fa_lt, fa_le, fa_eq, Int32.reduceToInt] at *); omega)
      · intro i a hi hI ih
        have hnb := nn_int hb.1
        have hii : (nI i).toInt = i := nI_toInt (by omega)
        have hic : (nI i).toNatClampNeg = i := nI_clamp (by omega)
        refine r_iload dX9_count_33 rfl ?_
        refine r_aload_n dX9_count_35 rfl rfl ?_
        refine r_getI dX9_count_36 lf_X9_126 rfl rfl ?_
        refine r_icmp_ge 58 dX9_count_39 (by decide) (fun q39 => ?_) (fun q39 => ?_)
        · skip
          exact absurd q39 (by (try simp only [b2i_eq0, b2i_ne0, decide_eq_true_eq] at *); (try simp only [mI, mA, sI_setA, sI_setQ, sI_setR, sA_setI, sA_setR, sA_setQ, fa_lt, fa_le, fa_eq, Int32.reduceToInt] at *); omega)
        · skip
          refine r_iload_n dX9_count_42 rfl rfl ?_
          refine r_aload_n dX9_count_43 rfl rfl ?_
          refine r_getR dX9_count_44 lf_X9_29 rfl rfl (shM_R h (j := 6) rfl) (shM_L h (j := 6) rfl) ?_
          refine r_iload dX9_count_47 rfl ?_
          refine r_iald dX9_count_49 rfl (show vp_in _ 12 from vp_in_iff.mpr (by (try simp only [b2i_eq0, b2i_ne0, decide_eq_true_eq] at *); (try simp only [mI, mA, sI_setA, sI_setQ, sI_setR, sA_setI, sA_setR, sA_setQ, fa_lt, fa_le, fa_eq, Int32.reduceToInt] at *); omega)) ?_
          refine r_iadd dX9_count_50 ?_
          refine r_ist3 dX9_count_51 (Nat.le_of_ble_eq_true rfl) rfl ?_
          refine r_in4 dX9_count_52 (show _ + Int32.ofInt 1 = _ + 1 from rfl) (Nat.le_of_ble_eq_true rfl) rfl ?_
          refine r_goto 33 dX9_count_55 (by decide) ?_
          rw [hic, nI_1]
          exact ih () trivial
    · skip
      exact absurd q11 (by (try simp only [b2i_eq0, b2i_ne0, decide_eq_true_eq] at *); (try simp only [mI, mA, sI_setA, sI_setQ, sI_setR, sA_setI, sA_setR, sA_setQ, fa_lt, fa_le, fa_eq, Int32.reduceToInt] at *); omega)
  · intro i a hi hI ih
    have hii : (nI i).toInt = i := nI_toInt (by omega)
    have hic : (nI i).toNatClampNeg = i := nI_clamp (by omega)
    refine r_iload dX9_count_7 rfl ?_
    refine r_bipush (v := 36) dX9_count_9 (by decide) ?_
    refine r_icmp_ge 30 dX9_count_11 (by decide) (fun q11 => ?_) (fun q11 => ?_)
    · skip
      exact absurd q11 (by (try simp only [b2i_eq0, b2i_ne0, decide_eq_true_eq] at *); (try simp only [mI, mA, sI_setA, sI_setQ, sI_setR, sA_setI, sA_setR, sA_setQ, fa_lt, fa_le, fa_eq, Int32.reduceToInt] at *); omega)
    · skip
      refine r_iload_n dX9_count_14 rfl rfl ?_
      refine r_aload_n dX9_count_15 rfl rfl ?_
      refine r_getR dX9_count_16 lf_X9_9 rfl rfl (shM_R h (j := 0) rfl) (shM_L h (j := 0) rfl) ?_
      refine r_iload dX9_count_19 rfl ?_
      refine r_iald dX9_count_21 rfl (show vp_in _ 36 from vp_in_iff.mpr (by (try simp only [b2i_eq0, b2i_ne0, decide_eq_true_eq] at *); (try simp only [mI, mA, sI_setA, sI_setQ, sI_setR, sA_setI, sA_setR, sA_setQ, fa_lt, fa_le, fa_eq, Int32.reduceToInt] at *); omega)) ?_
      refine r_iadd dX9_count_22 ?_
      refine r_ist2 dX9_count_23 (Nat.le_of_ble_eq_true rfl) rfl ?_
      refine r_in4 dX9_count_24 (show _ + Int32.ofInt 1 = _ + 1 from rfl) (Nat.le_of_ble_eq_true rfl) rfl ?_
      refine r_goto 7 dX9_count_27 (by decide) ?_
      rw [hic, nI_1]
      exact ih () trivial
