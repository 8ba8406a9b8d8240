/-! ===== feed: twenty bytes in a row ===== -/
def stA (s : (Nat → Int32) × Int32) (x : Int32) : (Nat → Int32) × Int32 := if ¬ x = 0 ∧ s.2.toInt < 200 then (upd s.1 s.2.toNatClampNeg x, s.2 + 1) else s
def stM (s : (Nat → Int32) × Int32) (x : Int32) : (Nat → Int32) × Int32 := if x = 0 then s else (upd s.1 s.2.toNatClampNeg x, s.2 + 1)
def czL : List Int32 → Nat
  | [] => 0
  | x :: l => (if x = 0 then 0 else 1) + czL l
theorem czL_app : ∀ (l m : List Int32), czL (l ++ m) = czL l + czL m
  | [], m => by simp [czL]
  | x :: l, m => by
    show (if x = 0 then 0 else 1) + czL (l ++ m) = (if x = 0 then 0 else 1) + czL l + czL m
    rw [czL_app l m]; omega
theorem czL_le : ∀ l : List Int32, czL l ≤ l.length
  | [] => Nat.le_refl _
  | x :: l => by
    have := czL_le l
    show (if x = 0 then 0 else 1) + czL l ≤ l.length + 1
    split <;> omega
theorem awF_fold (w : Int32) (s : (Nat → Int32) × Int32) : ∀ n, awF w s n = ((List.range n).map (by4 w)).foldl stA s
  | 0 => rfl
  | n + 1 => by
    rw [List.range_succ, List.map_append, List.foldl_append, ← awF_fold w s n]
    rfl
theorem fwM_fold (a b c e f : Int32) (s : (Nat → Int32) × Int32) : ∀ n, fwM a b c e f s n = ((List.range n).map (btM a b c e f)).foldl stM s
  | 0 => rfl
  | n + 1 => by
    rw [List.range_succ, List.map_append, List.foldl_append, ← fwM_fold a b c e f s n]
    rfl
theorem cnt4_cz (w : Int32) : ∀ n, cnt4 w n = nI (czL ((List.range n).map (by4 w)))
  | 0 => rfl
  | n + 1 => by
    rw [List.range_succ, List.map_append, czL_app]
    show (if by4 w n = 0 then cnt4 w n else cnt4 w n + 1) = nI (_ + ((if by4 w n = 0 then 0 else 1) + 0))
    rw [cnt4_cz w n]
    split
    · rfl
    · exact nI_1 _
theorem fcM_cz (a b c e f : Int32) : ∀ n, fcM a b c e f n = nI (czL ((List.range n).map (btM a b c e f)))
  | 0 => rfl
  | n + 1 => by
    rw [List.range_succ, List.map_append, czL_app]
    show (if btM a b c e f n = 0 then fcM a b c e f n else fcM a b c e f n + 1) = nI (_ + ((if btM a b c e f n = 0 then 0 else 1) + 0))
    rw [fcM_cz a b c e f n]
    split
    · rfl
    · exact nI_1 _
theorem ex_nI (x : Int32) : ∃ n, x = nI n := ⟨x.toBitVec.toNat, Int32.toBitVec_inj.mp (by simp [nI])⟩
theorem by4_ne (w : Int32) (i : Nat) : ¬ by4 w i = -1 := by
  unfold by4
  obtain ⟨n, hn⟩ := ex_nI ((w.toUInt32 >>> ((shf i).toUInt32 &&& Int32.toUInt32 31)).toInt32)
  rw [hn, show (255 : Int32) = nI (2 ^ 8 - 1) from rfl, fa_mask]
  exact nI_nm (by have := Nat.mod_lt n (show 0 < 2 ^ 8 by decide); omega)
theorem twenty (a b c e f : Int32) : (List.range 20).map (btM a b c e f) = (List.range 4).map (by4 a) ++ ((List.range 4).map (by4 b) ++ ((List.range 4).map (by4 c) ++ ((List.range 4).map (by4 e) ++ (List.range 4).map (by4 f)))) := rfl
/-- the same bytes behind the same beginning -/
theorem fold_sim : ∀ (l : List Int32) (s t : (Nat → Int32) × Int32), s.2 = t.2 → 0 ≤ t.2.toInt → t.2.toInt + czL l ≤ 200 → (∀ j, j < nn t.2 → s.1 j = t.1 j ∧ ¬ t.1 j = -1) → (∀ x ∈ l, ¬ x = -1) → (l.foldl stA s).2 = (l.foldl stM t).2 ∧ (0 ≤ (l.foldl stM t).2.toInt ∧ (l.foldl stM t).2.toInt ≤ 200) ∧ ∀ j, j < nn (l.foldl stM t).2 → (l.foldl stA s).1 j = (l.foldl stM t).1 j ∧ ¬ (l.foldl stM t).1 j = -1
  | [], s, t, h1, h2, h3, h4, _ => ⟨h1, ⟨h2, by have : czL [] = 0 := rfl; simp only [List.foldl_nil]; omega⟩, h4⟩
  | x :: l, s, t, h1, h2, h3, h4, h5 => by
    rw [List.foldl_cons, List.foldl_cons]
    have ec : czL (x :: l) = (if x = 0 then 0 else 1) + czL l := rfl
    rw [ec] at h3
    by_cases q : x = 0
    · have e1 : stA s x = s := if_neg (fun z => z.1 q)
      have e2 : stM t x = t := if_pos q
      rw [if_pos q] at h3
      rw [e1, e2]
      exact fold_sim l s t h1 h2 (by omega) h4 (fun y hy => h5 y (List.mem_cons_of_mem _ hy))
    · rw [if_neg q] at h3
      have one : (1 : Int32).toInt = 1 := rfl
      have e1 : stA s x = (upd s.1 s.2.toNatClampNeg x, s.2 + 1) := if_pos ⟨q, by rw [h1]; omega⟩
      have e2 : stM t x = (upd t.1 t.2.toNatClampNeg x, t.2 + 1) := if_neg q
      have ei : (t.2 + 1).toInt = t.2.toInt + 1 := by rw [fb_addI (by omega) (by omega)]; rfl
      rw [e1, e2]
      refine fold_sim l _ _ (by show s.2 + 1 = t.2 + 1; rw [h1]) (by show 0 ≤ (t.2 + 1).toInt; omega) (by show (t.2 + 1).toInt + _ ≤ 200; omega) (fun j hj => ?_) (fun y hy => h5 y (List.mem_cons_of_mem _ hy))
      have hj : j < nn (t.2 + 1) := hj
      show upd s.1 s.2.toNatClampNeg x j = upd t.1 t.2.toNatClampNeg x j ∧ ¬ upd t.1 t.2.toNatClampNeg x j = -1
      rw [h1, clamp_nn]
      by_cases ej : j = nn t.2
      · rw [ej, pk_us, pk_us]; exact ⟨rfl, h5 x List.mem_cons_self⟩
      · rw [pk_un ej, pk_un ej]
        exact h4 j (by unfold nn at *; omega)
set_option maxHeartbeats 1000000 in
theorem Sim.fed {S T : HS} {u v : (Nat → Int32) × Int32} (h : Sim S T) (hz : u.2 = v.2) (hv : 0 ≤ v.2.toInt ∧ v.2.toInt ≤ 200) (hr : ∀ j, j < nn v.2 → u.1 j = v.1 j ∧ ¬ v.1 j = -1) : Sim (setT S 8 9 u) (ftM T v) := by
  obtain ⟨h1, h2, ⟨g0, gN, gC, gB, gP, gY, gL⟩, hN, hC, hB, hP, hY, hL, hT, hR⟩ := id h
  obtain ⟨n9, n10, n11, n12, n13, n14, n15, n16, n17, nw, ng, nz⟩ := id hN
  obtain ⟨r25, r26, r27, r24, r28, r29, r47⟩ := id gN
  refine ⟨h1.setA.setI (by decide), ?_, ⟨(g0.setA _ _).setI _ _ _, ⟨by rw [show mI (ftM T v) 25 = mI T 25 from sI_setIn (Or.inl (by decide))]; exact r25, by rw [show mI (ftM T v) 26 = mI T 26 from sI_setIn (Or.inl (by decide))]; exact r26, by rw [show mI (ftM T v) 27 = mI T 27 from sI_setIn (Or.inl (by decide))]; exact r27, by rw [show mI (ftM T v) 24 = mI T 24 from sI_setIn (Or.inl (by decide))]; exact r24, by rw [show mI (ftM T v) 28 = mI T 28 from sI_setIn (Or.inl (by decide))]; exact r28, by rw [show mI (ftM T v) 29 = mI T 29 from sI_setIn (Or.inl (by decide))]; exact r29, by rw [show mI (ftM T v) 47 = v.2 from sI_setIe _ _ _ _]; exact hv⟩, gC.cg (by intros; (try apply And.intro) <;> (try simp only [cI, mI, mA, setT, ftM, sI_setI, sI_setA, sA_setI, sA_setA, sQ_setI, sQ_setA, up2, va_up, ma, fid]) <;> (first | rfl | ((repeat rw [if_neg (by omega)]) <;> rfl))), gB.cg (by intros; (try apply And.intro) <;> (try simp only [cI, mI, mA, setT, ftM, sI_setI, sI_setA, sA_setI, sA_setA, sQ_setI, sQ_setA, up2, va_up, ma, fid]) <;> (first | rfl | ((repeat rw [if_neg (by omega)]) <;> rfl))) (by intros; (try apply And.intro) <;> (try simp only [cI, mI, mA, setT, ftM, sI_setI, sI_setA, sA_setI, sA_setA, sQ_setI, sQ_setA, up2, va_up, ma, fid]) <;> (first | rfl | ((repeat rw [if_neg (by omega)]) <;> rfl))) (by intros; (try apply And.intro) <;> (try simp only [cI, mI, mA, setT, ftM, sI_setI, sI_setA, sA_setI, sA_setA, sQ_setI, sQ_setA, up2, va_up, ma, fid]) <;> (first | rfl | ((repeat rw [if_neg (by omega)]) <;> rfl))), gP.cg (by intros; (try apply And.intro) <;> (try simp only [cI, mI, mA, setT, ftM, sI_setI, sI_setA, sA_setI, sA_setA, sQ_setI, sQ_setA, up2, va_up, ma, fid]) <;> (first | rfl | ((repeat rw [if_neg (by omega)]) <;> rfl))) (by intros; (try apply And.intro) <;> (try simp only [cI, mI, mA, setT, ftM, sI_setI, sI_setA, sA_setI, sA_setA, sQ_setI, sQ_setA, up2, va_up, ma, fid]) <;> (first | rfl | ((repeat rw [if_neg (by omega)]) <;> rfl))), gY.cg (by intros; (try apply And.intro) <;> (try simp only [cI, mI, mA, setT, ftM, sI_setI, sI_setA, sA_setI, sA_setA, sQ_setI, sQ_setA, up2, va_up, ma, fid]) <;> (first | rfl | ((repeat rw [if_neg (by omega)]) <;> rfl))) (by intros; (try apply And.intro) <;> (try simp only [cI, mI, mA, setT, ftM, sI_setI, sI_setA, sA_setI, sA_setA, sQ_setI, sQ_setA, up2, va_up, ma, fid]) <;> (first | rfl | ((repeat rw [if_neg (by omega)]) <;> rfl))), gL.cg (by intros; (try apply And.intro) <;> (try simp only [cI, mI, mA, setT, ftM, sI_setI, sI_setA, sA_setI, sA_setA, sQ_setI, sQ_setA, up2, va_up, ma, fid]) <;> (first | rfl | ((repeat rw [if_neg (by omega)]) <;> rfl))) (by intros; (try apply And.intro) <;> (try simp only [cI, mI, mA, setT, ftM, sI_setI, sI_setA, sA_setI, sA_setA, sQ_setI, sQ_setA, up2, va_up, ma, fid]) <;> (first | rfl | ((repeat rw [if_neg (by omega)]) <;> rfl))) (by intros; (try apply And.intro) <;> (try simp only [cI, mI, mA, setT, ftM, sI_setI, sI_setA, sA_setI, sA_setA, sQ_setI, sQ_setA, up2, va_up, ma, fid]) <;> (first | rfl | ((repeat rw [if_neg (by omega)]) <;> rfl)))⟩, ⟨(sI_setIn (by decide)).trans (n9.trans (sI_setIn (Or.inl (by decide))).symm), (sI_setIn (by decide)).trans (n10.trans (sI_setIn (Or.inl (by decide))).symm), (sI_setIn (by decide)).trans (n11.trans (sI_setIn (Or.inl (by decide))).symm), (sI_setIn (by decide)).trans (n12.trans (sI_setIn (Or.inl (by decide))).symm), (sI_setIn (by decide)).trans (n13.trans (sI_setIn (Or.inl (by decide))).symm), (sI_setIn (by decide)).trans (n14.trans (sI_setIn (Or.inl (by decide))).symm), (sI_setIn (by decide)).trans (n15.trans (sI_setIn (Or.inl (by decide))).symm), (sI_setIn (by decide)).trans (n16.trans (sI_setIn (Or.inl (by decide))).symm), (sI_setIn (by decide)).trans (n17.trans (sI_setIn (Or.inl (by decide))).symm), (sI_setIn (by decide)).trans (nw.trans (sI_setIn (Or.inl (by decide))).symm), (sI_setIn (by decide)).trans (ng.trans (sI_setIn (Or.inl (by decide))).symm), (sI_setIe _ _ _ _).trans (hz.trans (sI_setIe _ _ _ _).symm)⟩, hC.cg (by intros; (try apply And.intro) <;> (try simp only [cI, mI, mA, setT, ftM, sI_setI, sI_setA, sA_setI, sA_setA, sQ_setI, sQ_setA, up2, va_up, ma, fid]) <;> (first | rfl | ((repeat rw [if_neg (by omega)]) <;> rfl))) (by intros; (try apply And.intro) <;> (try simp only [cI, mI, mA, setT, ftM, sI_setI, sI_setA, sA_setI, sA_setA, sQ_setI, sQ_setA, up2, va_up, ma, fid]) <;> (first | rfl | ((repeat rw [if_neg (by omega)]) <;> rfl))), hB.cg (by intros; (try apply And.intro) <;> (try simp only [cI, mI, mA, setT, ftM, sI_setI, sI_setA, sA_setI, sA_setA, sQ_setI, sQ_setA, up2, va_up, ma, fid]) <;> (first | rfl | ((repeat rw [if_neg (by omega)]) <;> rfl))) (by intros; (try apply And.intro) <;> (try simp only [cI, mI, mA, setT, ftM, sI_setI, sI_setA, sA_setI, sA_setA, sQ_setI, sQ_setA, up2, va_up, ma, fid]) <;> (first | rfl | ((repeat rw [if_neg (by omega)]) <;> rfl))) (by intros; (try apply And.intro) <;> (try simp only [cI, mI, mA, setT, ftM, sI_setI, sI_setA, sA_setI, sA_setA, sQ_setI, sQ_setA, up2, va_up, ma, fid]) <;> (first | rfl | ((repeat rw [if_neg (by omega)]) <;> rfl))), hP.cg (by intros; (try apply And.intro) <;> (try simp only [cI, mI, mA, setT, ftM, sI_setI, sI_setA, sA_setI, sA_setA, sQ_setI, sQ_setA, up2, va_up, ma, fid]) <;> (first | rfl | ((repeat rw [if_neg (by omega)]) <;> rfl))) (by intros; (try apply And.intro) <;> (try simp only [cI, mI, mA, setT, ftM, sI_setI, sI_setA, sA_setI, sA_setA, sQ_setI, sQ_setA, up2, va_up, ma, fid]) <;> (first | rfl | ((repeat rw [if_neg (by omega)]) <;> rfl))) (by intros; (try apply And.intro) <;> (try simp only [cI, mI, mA, setT, ftM, sI_setI, sI_setA, sA_setI, sA_setA, sQ_setI, sQ_setA, up2, va_up, ma, fid]) <;> (first | rfl | ((repeat rw [if_neg (by omega)]) <;> rfl))), hY.cg (by intros; (try apply And.intro) <;> (try simp only [cI, mI, mA, setT, ftM, sI_setI, sI_setA, sA_setI, sA_setA, sQ_setI, sQ_setA, up2, va_up, ma, fid]) <;> (first | rfl | ((repeat rw [if_neg (by omega)]) <;> rfl))) (by intros; (try apply And.intro) <;> (try simp only [cI, mI, mA, setT, ftM, sI_setI, sI_setA, sA_setI, sA_setA, sQ_setI, sQ_setA, up2, va_up, ma, fid]) <;> (first | rfl | ((repeat rw [if_neg (by omega)]) <;> rfl))) (by intros; (try apply And.intro) <;> (try simp only [cI, mI, mA, setT, ftM, sI_setI, sI_setA, sA_setI, sA_setA, sQ_setI, sQ_setA, up2, va_up, ma, fid]) <;> (first | rfl | ((repeat rw [if_neg (by omega)]) <;> rfl))), hL.cg (by intros; (try apply And.intro) <;> (try simp only [cI, mI, mA, setT, ftM, sI_setI, sI_setA, sA_setI, sA_setA, sQ_setI, sQ_setA, up2, va_up, ma, fid]) <;> (first | rfl | ((repeat rw [if_neg (by omega)]) <;> rfl))) (by intros; (try apply And.intro) <;> (try simp only [cI, mI, mA, setT, ftM, sI_setI, sI_setA, sA_setI, sA_setA, sQ_setI, sQ_setA, up2, va_up, ma, fid]) <;> (first | rfl | ((repeat rw [if_neg (by omega)]) <;> rfl))) (by intros; (try apply And.intro) <;> (try simp only [cI, mI, mA, setT, ftM, sI_setI, sI_setA, sA_setI, sA_setA, sQ_setI, sQ_setA, up2, va_up, ma, fid]) <;> (first | rfl | ((repeat rw [if_neg (by omega)]) <;> rfl))), ?_, hR.cg (by intros; (try apply And.intro) <;> (try simp only [cI, mI, mA, setT, ftM, sI_setI, sI_setA, sA_setI, sA_setA, sQ_setI, sQ_setA, up2, va_up, ma, fid]) <;> (first | rfl | ((repeat rw [if_neg (by omega)]) <;> rfl))) (by intros; (try apply And.intro) <;> (try simp only [cI, mI, mA, setT, ftM, sI_setI, sI_setA, sA_setI, sA_setA, sQ_setI, sQ_setA, up2, va_up, ma, fid]) <;> (first | rfl | ((repeat rw [if_neg (by omega)]) <;> rfl))) (by intros; (try apply And.intro) <;> (try simp only [cI, mI, mA, setT, ftM, sI_setI, sI_setA, sA_setI, sA_setA, sQ_setI, sQ_setA, up2, va_up, ma, fid]) <;> (first | rfl | ((repeat rw [if_neg (by omega)]) <;> rfl))) (by intros; (try apply And.intro) <;> (try simp only [cI, mI, mA, setT, ftM, sI_setI, sI_setA, sA_setI, sA_setA, sQ_setI, sQ_setA, up2, va_up, ma, fid]) <;> (first | rfl | ((repeat rw [if_neg (by omega)]) <;> rfl)))⟩
  · intro t
    by_cases e : t = 8
    · rw [e, show sI (setT S 8 9 u) (fid 5 1) 8 = u.2 from sI_setIe _ _ _ _, hz]; exact hv
    · rw [show sI (setT S 8 9 u) (fid 5 1) t = sI S (fid 5 1) t from sI_setIn (Or.inr e)]; exact h2 t
  · intro j hj
    rw [show mI (ftM T v) 47 = v.2 from sI_setIe _ _ _ _] at hj
    rw [show sA (setT S 8 9 u) 9 = u.1 from sA_set _ _ _, show mA (ftM T v) 43 = v.1 from sA_set _ _ _]
    exact hr j hj
set_option maxHeartbeats 1000000 in
theorem st_feed {S T S2 T2 : HS} {a b c e f r1 r2 : Int32} (h : Sim S T) (h8 : (r1 = if ((cnt4 a 4 + cnt4 b 4 + cnt4 c 4 + cnt4 e 4 + cnt4 f 4).toInt ≤ (200 - sI S (fid 5 1) 8).toInt) then (awF f (awF e (awF c (awF b (awF a (sA S 9, sI S (fid 5 1) 8) 4) 4) 4) 4) 4).2 else -1) ∧ S2 = if ((cnt4 a 4 + cnt4 b 4 + cnt4 c 4 + cnt4 e 4 + cnt4 f 4).toInt ≤ (200 - sI S (fid 5 1) 8).toInt) then setT S 8 9 (awF f (awF e (awF c (awF b (awF a (sA S 9, sI S (fid 5 1) 8) 4) 4) 4) 4) 4) else S) (h9 : (r2 = if ((mI T 47 + fcM a b c e f 20).toInt ≤ 200) then (fwM a b c e f (mA T 43, mI T 47) 20).2 else -1) ∧ T2 = if ((mI T 47 + fcM a b c e f 20).toInt ≤ 200) then ftM T (fwM a b c e f (mA T 43, mI T 47) 20) else T) : r1 = r2 ∧ Sim S2 T2 := by
  obtain ⟨h1, h2, ⟨g0, gN, gC, gB, gP, gY, gL⟩, hN, hC, hB, hP, hY, hL, hT, hR⟩ := id h
  obtain ⟨n9, n10, n11, n12, n13, n14, n15, n16, n17, nw, ng, nz⟩ := id hN
  obtain ⟨r25, r26, r27, r24, r28, r29, r47⟩ := id gN
  obtain ⟨rfl, rfl⟩ := h8
  obtain ⟨rfl, rfl⟩ := h9
  have hk : czL ((List.range 20).map (btM a b c e f)) ≤ 20 := by
    have := czL_le ((List.range 20).map (btM a b c e f))
    rw [List.length_map, List.length_range] at this
    exact this
  have e1 : cnt4 a 4 + cnt4 b 4 + cnt4 c 4 + cnt4 e 4 + cnt4 f 4 = nI (czL ((List.range 20).map (btM a b c e f))) := by
    rw [twenty, czL_app, czL_app, czL_app, czL_app, cnt4_cz, cnt4_cz, cnt4_cz, cnt4_cz, cnt4_cz, nI_add, nI_add, nI_add, nI_add]
    congr 1; omega
  have e2 : fcM a b c e f 20 = nI (czL ((List.range 20).map (btM a b c e f))) := fcM_cz a b c e f 20
  have e3 : awF f (awF e (awF c (awF b (awF a (sA S 9, sI S (fid 5 1) 8) 4) 4) 4) 4) 4 = ((List.range 20).map (btM a b c e f)).foldl stA (sA S 9, sI S (fid 5 1) 8) := by
    rw [twenty, List.foldl_append, List.foldl_append, List.foldl_append, List.foldl_append, awF_fold, awF_fold, awF_fold, awF_fold, awF_fold]
  have e4 : fwM a b c e f (mA T 43, mI T 47) 20 = ((List.range 20).map (btM a b c e f)).foldl stM (mA T 43, mI T 47) := fwM_fold a b c e f _ 20
  have hne : ∀ x ∈ (List.range 20).map (btM a b c e f), ¬ x = -1 := fun x hx => by
    obtain ⟨i, -, rfl⟩ := List.mem_map.mp hx
    exact by4_ne _ _
  rw [e1, e2, e3, e4, nz]
  generalize (List.range 20).map (btM a b c e f) = l at *
  have k1 : (nI (czL l)).toInt = czL l := nI_toInt (by omega)
  have t2 : (200 : Int32).toInt = 200 := rfl
  have k2 : (200 - mI T 47).toInt = 200 - (mI T 47).toInt := by rw [fb_subI (by omega) (by omega)]; rfl
  have k3 : (mI T 47 + nI (czL l)).toInt = (mI T 47).toInt + czL l := by rw [fb_addI (by omega) (by omega), k1]
  rw [k1, k2, k3]
  by_cases q : (mI T 47).toInt + (czL l : Int) ≤ 200
  · have q2 : (czL l : Int) ≤ 200 - (mI T 47).toInt := by omega
    rw [if_pos q, if_pos q, if_pos q2, if_pos q2]
    obtain ⟨f1, f2, f3⟩ := fold_sim l (sA S 9, mI T 47) (mA T 43, mI T 47) rfl r47.1 q hT hne
    exact ⟨f1, h.fed f1 f2 f3⟩
  · have q2 : ¬ (czL l : Int) ≤ 200 - (mI T 47).toInt := by omega
    rw [if_neg q, if_neg q, if_neg q2, if_neg q2]
    exact ⟨rfl, h⟩
