-- ===== a sheet read, reckoned =====
def smV (c : Int32) : Int32 := if c < nI 65 then c else if nI 90 < c then c else c + nI 32
def isL (v : Int32) : Bool := decide (¬ v < nI 97 ∧ ¬ nI 122 < v)
def isLM (v : Int32) : Bool := decide (¬ v < nI 33 ∧ ¬ nI 126 < v ∧ ¬ v = nI 91 ∧ ¬ v = nI 93)
def Bc (k : Nat) : Int32 := nI k - nI 128
theorem byte_e {c : Int32} (h : fits .byte (.int c) = true) : ∃ k, k < 256 ∧ c = Bc k := by
  have h : (decide (-128 ≤ c) && decide (c ≤ 127)) = true := h
  rw [Bool.and_eq_true, decide_eq_true_eq, decide_eq_true_eq, iLe, iLe] at h
  have e1 : (-128 : Int32).toInt = -128 := by decide
  have e2 : (127 : Int32).toInt = 127 := by decide
  rw [e1, e2] at h
  refine ⟨(c.toInt + 128).toNat, by omega, ?_⟩
  rw [iEq]
  have q : (Bc (c.toInt + 128).toNat).toInt = ((c.toInt + 128).toNat : Int) - 128 := pk_sub_toInt (a := (c.toInt + 128).toNat) (b := 128) (by omega) (by omega)
  rw [q]; omega
theorem sm_b : ∀ k, k < 256 → (smV (Bc k)).toInt8.toInt32 = smV (Bc k) := by decide +kernel
theorem sm_91b : ∀ k, k < 256 → (smV (Bc k) = nI 91 ↔ Bc k = nI 91) := by decide +kernel
theorem sm_93b : ∀ k, k < 256 → (smV (Bc k) = nI 93 ↔ Bc k = nI 93) := by decide +kernel
theorem sm_SBb : ∀ k, k < 256 → (smV (Bc k) < nI 65 ∨ nI 90 < smV (Bc k)) := by decide +kernel
theorem isL_LMb : ∀ k, k < 256 → isL (Bc k) = true → isLM (Bc k) = true := by decide +kernel
def SB (v : Int32) : Prop := v < nI 65 ∨ nI 90 < v
theorem isL_LM {v : Int32} (h : isL v = true) : isLM v = true := by
  have q := of_decide_eq_true h
  obtain ⟨q1, q2⟩ := q
  rw [iLt] at q1 q2
  have e1 : (nI 97).toInt = 97 := by decide
  have e2 : (nI 122).toInt = 122 := by decide
  have e3 : (nI 33).toInt = 33 := by decide
  have e4 : (nI 126).toInt = 126 := by decide
  have e5 : (nI 91).toInt = 91 := by decide
  have e6 : (nI 93).toInt = 93 := by decide
  refine decide_eq_true ⟨?_, ?_, ?_, ?_⟩
  · rw [iLt]; omega
  · rw [iLt]; omega
  · rw [iEq]; omega
  · rw [iEq]; omega
theorem cSmall {N : Nat} {s : St} {c : Int32} {Q : Int32 → St → Prop} : fX10_smallSign N s c Q = Q (smV c) s := by
  have e : c - nI 65 + nI 97 = c + nI 32 := by
    rw [Int32.sub_eq_add_neg, Int32.add_assoc]; congr 1
  simp only [fX10_smallSign, li65, li90, li97, e]
  unfold smV
  by_cases c1 : c < nI 65
  · simp (disch := omega) only [li0, li1, li2, li3, li4, li5, li6, li12, li13, li14, li15, li16, li17, li32, li33, li39, li60, li65, li90, li91, li93, li97, li100, li122, li126, li200, li800, li1000, li1400, li2800, li3432, li9999, li10000000, ↓lm1, ↓lm2, ↓lm3, ↓lm4, ↓lm9, le_T, le_F, lt_T, lt_F, eq_F, eq_T, vp_T, mle_F, mle_T, mlt_F, mlt_T, meq_F, meq_F', mne, aR, mR, sR', nI_clamp, br_nT, br_nF, ex_s, true_implies, false_implies, not_true_eq_false, not_false_eq_true, true_and, and_true, forall_eq, implies_true, and_self, reduceIte, reduceCtorEq, Nat.reduceEqDiff, Nat.reduceAdd, Nat.reduceMul, Nat.reduceSub, ite_true, ite_false, if_true, if_false, eq_self, and_false, false_and, fa_s, fa_n, cfF, cfA, cfJ, cfB, cfR, mfF, mfA, mfJ, mfB, mfR, c_foundE, m_meetsE, nar_byte, byte_i, lg_gt, lg_eq, lg_lt, all_A, sF_F, sF_A, sF_J, sF_B, sF_R, sF_all, sA_F, sA_A, sA_J, sA_B, sA_R, sA_all, sJ_F, sJ_A, sJ_J, sJ_B, sJ_R, sJ_all, sB_F, sB_A, sB_J, sB_B, sB_R, sB_all, sR_F, sR_A, sR_J, sR_B, sR_R, sR_all, c1]
  · by_cases c2 : nI 90 < c
    · simp (disch := omega) only [li0, li1, li2, li3, li4, li5, li6, li12, li13, li14, li15, li16, li17, li32, li33, li39, li60, li65, li90, li91, li93, li97, li100, li122, li126, li200, li800, li1000, li1400, li2800, li3432, li9999, li10000000, ↓lm1, ↓lm2, ↓lm3, ↓lm4, ↓lm9, le_T, le_F, lt_T, lt_F, eq_F, eq_T, vp_T, mle_F, mle_T, mlt_F, mlt_T, meq_F, meq_F', mne, aR, mR, sR', nI_clamp, br_nT, br_nF, ex_s, true_implies, false_implies, not_true_eq_false, not_false_eq_true, true_and, and_true, forall_eq, implies_true, and_self, reduceIte, reduceCtorEq, Nat.reduceEqDiff, Nat.reduceAdd, Nat.reduceMul, Nat.reduceSub, ite_true, ite_false, if_true, if_false, eq_self, and_false, false_and, fa_s, fa_n, cfF, cfA, cfJ, cfB, cfR, mfF, mfA, mfJ, mfB, mfR, c_foundE, m_meetsE, nar_byte, byte_i, lg_gt, lg_eq, lg_lt, all_A, sF_F, sF_A, sF_J, sF_B, sF_R, sF_all, sA_F, sA_A, sA_J, sA_B, sA_R, sA_all, sJ_F, sJ_A, sJ_J, sJ_B, sJ_R, sJ_all, sB_F, sB_A, sB_J, sB_B, sB_R, sB_all, sR_F, sR_A, sR_J, sR_B, sR_R, sR_all, c1, c2]
    · simp (disch := omega) only [li0, li1, li2, li3, li4, li5, li6, li12, li13, li14, li15, li16, li17, li32, li33, li39, li60, li65, li90, li91, li93, li97, li100, li122, li126, li200, li800, li1000, li1400, li2800, li3432, li9999, li10000000, ↓lm1, ↓lm2, ↓lm3, ↓lm4, ↓lm9, le_T, le_F, lt_T, lt_F, eq_F, eq_T, vp_T, mle_F, mle_T, mlt_F, mlt_T, meq_F, meq_F', mne, aR, mR, sR', nI_clamp, br_nT, br_nF, ex_s, true_implies, false_implies, not_true_eq_false, not_false_eq_true, true_and, and_true, forall_eq, implies_true, and_self, reduceIte, reduceCtorEq, Nat.reduceEqDiff, Nat.reduceAdd, Nat.reduceMul, Nat.reduceSub, ite_true, ite_false, if_true, if_false, eq_self, and_false, false_and, fa_s, fa_n, cfF, cfA, cfJ, cfB, cfR, mfF, mfA, mfJ, mfB, mfR, c_foundE, m_meetsE, nar_byte, byte_i, lg_gt, lg_eq, lg_lt, all_A, sF_F, sF_A, sF_J, sF_B, sF_R, sF_all, sA_F, sA_A, sA_J, sA_B, sA_R, sA_all, sJ_F, sJ_A, sJ_J, sJ_B, sJ_R, sJ_all, sB_F, sB_A, sB_J, sB_B, sB_R, sB_all, sR_F, sR_A, sR_J, sR_B, sR_R, sR_all, c1, c2]
theorem mSmall {N : Nat} {s : St} {c : Int32} {Q : Int32 → St → Prop} : fX11_small N s c Q = Q (smV c) s := by
  simp only [fX11_small, li65, li90, li32, li0]
  unfold smV
  by_cases c1 : c < nI 65
  · have m := fun Q => (propext (m_in_n (N := N) (σ := s) (x := c) (a := nI 65) (b := nI 90) (Q := Q) (Or.inl c1)))
    simp only [m]
    simp (disch := omega) only [li0, li1, li2, li3, li4, li5, li6, li12, li13, li14, li15, li16, li17, li32, li33, li39, li60, li65, li90, li91, li93, li97, li100, li122, li126, li200, li800, li1000, li1400, li2800, li3432, li9999, li10000000, ↓lm1, ↓lm2, ↓lm3, ↓lm4, ↓lm9, le_T, le_F, lt_T, lt_F, eq_F, eq_T, vp_T, mle_F, mle_T, mlt_F, mlt_T, meq_F, meq_F', mne, aR, mR, sR', nI_clamp, br_nT, br_nF, ex_s, true_implies, false_implies, not_true_eq_false, not_false_eq_true, true_and, and_true, forall_eq, implies_true, and_self, reduceIte, reduceCtorEq, Nat.reduceEqDiff, Nat.reduceAdd, Nat.reduceMul, Nat.reduceSub, ite_true, ite_false, if_true, if_false, eq_self, and_false, false_and, fa_s, fa_n, cfF, cfA, cfJ, cfB, cfR, mfF, mfA, mfJ, mfB, mfR, c_foundE, m_meetsE, nar_byte, byte_i, lg_gt, lg_eq, lg_lt, all_A, sF_F, sF_A, sF_J, sF_B, sF_R, sF_all, sA_F, sA_A, sA_J, sA_B, sA_R, sA_all, sJ_F, sJ_A, sJ_J, sJ_B, sJ_R, sJ_all, sB_F, sB_A, sB_J, sB_B, sB_R, sB_all, sR_F, sR_A, sR_J, sR_B, sR_R, sR_all, c1]
  · by_cases c2 : nI 90 < c
    · have m := fun Q => (propext (m_in_n (N := N) (σ := s) (x := c) (a := nI 65) (b := nI 90) (Q := Q) (Or.inr c2)))
      simp only [m]
      simp (disch := omega) only [li0, li1, li2, li3, li4, li5, li6, li12, li13, li14, li15, li16, li17, li32, li33, li39, li60, li65, li90, li91, li93, li97, li100, li122, li126, li200, li800, li1000, li1400, li2800, li3432, li9999, li10000000, ↓lm1, ↓lm2, ↓lm3, ↓lm4, ↓lm9, le_T, le_F, lt_T, lt_F, eq_F, eq_T, vp_T, mle_F, mle_T, mlt_F, mlt_T, meq_F, meq_F', mne, aR, mR, sR', nI_clamp, br_nT, br_nF, ex_s, true_implies, false_implies, not_true_eq_false, not_false_eq_true, true_and, and_true, forall_eq, implies_true, and_self, reduceIte, reduceCtorEq, Nat.reduceEqDiff, Nat.reduceAdd, Nat.reduceMul, Nat.reduceSub, ite_true, ite_false, if_true, if_false, eq_self, and_false, false_and, fa_s, fa_n, cfF, cfA, cfJ, cfB, cfR, mfF, mfA, mfJ, mfB, mfR, c_foundE, m_meetsE, nar_byte, byte_i, lg_gt, lg_eq, lg_lt, all_A, sF_F, sF_A, sF_J, sF_B, sF_R, sF_all, sA_F, sA_A, sA_J, sA_B, sA_R, sA_all, sJ_F, sJ_A, sJ_J, sJ_B, sJ_R, sJ_all, sB_F, sB_A, sB_J, sB_B, sB_R, sB_all, sR_F, sR_A, sR_J, sR_B, sR_R, sR_all, c1, c2]
    · have m := fun Q => (propext (m_in_y (N := N) (σ := s) (x := c) (a := nI 65) (b := nI 90) (Q := Q) c1 c2))
      simp only [m]
      simp (disch := omega) only [li0, li1, li2, li3, li4, li5, li6, li12, li13, li14, li15, li16, li17, li32, li33, li39, li60, li65, li90, li91, li93, li97, li100, li122, li126, li200, li800, li1000, li1400, li2800, li3432, li9999, li10000000, ↓lm1, ↓lm2, ↓lm3, ↓lm4, ↓lm9, le_T, le_F, lt_T, lt_F, eq_F, eq_T, vp_T, mle_F, mle_T, mlt_F, mlt_T, meq_F, meq_F', mne, aR, mR, sR', nI_clamp, br_nT, br_nF, ex_s, true_implies, false_implies, not_true_eq_false, not_false_eq_true, true_and, and_true, forall_eq, implies_true, and_self, reduceIte, reduceCtorEq, Nat.reduceEqDiff, Nat.reduceAdd, Nat.reduceMul, Nat.reduceSub, ite_true, ite_false, if_true, if_false, eq_self, and_false, false_and, fa_s, fa_n, cfF, cfA, cfJ, cfB, cfR, mfF, mfA, mfJ, mfB, mfR, c_foundE, m_meetsE, nar_byte, byte_i, lg_gt, lg_eq, lg_lt, all_A, sF_F, sF_A, sF_J, sF_B, sF_R, sF_all, sA_F, sA_A, sA_J, sA_B, sA_R, sA_all, sJ_F, sJ_A, sJ_J, sJ_B, sJ_R, sJ_all, sB_F, sB_A, sB_J, sB_B, sB_R, sB_all, sR_F, sR_A, sR_J, sR_B, sR_R, sR_all, c1, c2]
theorem cIsLM {N : Nat} {s : St} {v : Int32} {Q : Int32 → St → Prop} : fX10_isLetterOrMark N s v Q = Q (if isLM v then nI 1 else nI 0) s := by
  simp only [fX10_isLetterOrMark, li33, li126, li91, li93, li0, li1]
  by_cases c1 : v < nI 33
  · rw [if_neg (fun z => (of_decide_eq_true z).1 c1)]; simp (disch := omega) only [li0, li1, li2, li3, li4, li5, li6, li12, li13, li14, li15, li16, li17, li32, li33, li39, li60, li65, li90, li91, li93, li97, li100, li122, li126, li200, li800, li1000, li1400, li2800, li3432, li9999, li10000000, ↓lm1, ↓lm2, ↓lm3, ↓lm4, ↓lm9, le_T, le_F, lt_T, lt_F, eq_F, eq_T, vp_T, mle_F, mle_T, mlt_F, mlt_T, meq_F, meq_F', mne, aR, mR, sR', nI_clamp, br_nT, br_nF, ex_s, true_implies, false_implies, not_true_eq_false, not_false_eq_true, true_and, and_true, forall_eq, implies_true, and_self, reduceIte, reduceCtorEq, Nat.reduceEqDiff, Nat.reduceAdd, Nat.reduceMul, Nat.reduceSub, ite_true, ite_false, if_true, if_false, eq_self, and_false, false_and, fa_s, fa_n, cfF, cfA, cfJ, cfB, cfR, mfF, mfA, mfJ, mfB, mfR, c_foundE, m_meetsE, nar_byte, byte_i, lg_gt, lg_eq, lg_lt, all_A, sF_F, sF_A, sF_J, sF_B, sF_R, sF_all, sA_F, sA_A, sA_J, sA_B, sA_R, sA_all, sJ_F, sJ_A, sJ_J, sJ_B, sJ_R, sJ_all, sB_F, sB_A, sB_J, sB_B, sB_R, sB_all, sR_F, sR_A, sR_J, sR_B, sR_R, sR_all, c1]
  · by_cases c2 : nI 126 < v
    · rw [if_neg (fun z => (of_decide_eq_true z).2.1 c2)]; simp (disch := omega) only [li0, li1, li2, li3, li4, li5, li6, li12, li13, li14, li15, li16, li17, li32, li33, li39, li60, li65, li90, li91, li93, li97, li100, li122, li126, li200, li800, li1000, li1400, li2800, li3432, li9999, li10000000, ↓lm1, ↓lm2, ↓lm3, ↓lm4, ↓lm9, le_T, le_F, lt_T, lt_F, eq_F, eq_T, vp_T, mle_F, mle_T, mlt_F, mlt_T, meq_F, meq_F', mne, aR, mR, sR', nI_clamp, br_nT, br_nF, ex_s, true_implies, false_implies, not_true_eq_false, not_false_eq_true, true_and, and_true, forall_eq, implies_true, and_self, reduceIte, reduceCtorEq, Nat.reduceEqDiff, Nat.reduceAdd, Nat.reduceMul, Nat.reduceSub, ite_true, ite_false, if_true, if_false, eq_self, and_false, false_and, fa_s, fa_n, cfF, cfA, cfJ, cfB, cfR, mfF, mfA, mfJ, mfB, mfR, c_foundE, m_meetsE, nar_byte, byte_i, lg_gt, lg_eq, lg_lt, all_A, sF_F, sF_A, sF_J, sF_B, sF_R, sF_all, sA_F, sA_A, sA_J, sA_B, sA_R, sA_all, sJ_F, sJ_A, sJ_J, sJ_B, sJ_R, sJ_all, sB_F, sB_A, sB_J, sB_B, sB_R, sB_all, sR_F, sR_A, sR_J, sR_B, sR_R, sR_all, c1, c2]
    · by_cases c3 : v = nI 91
      · rw [if_neg (fun z => (of_decide_eq_true z).2.2.1 c3)]; simp (disch := omega) only [li0, li1, li2, li3, li4, li5, li6, li12, li13, li14, li15, li16, li17, li32, li33, li39, li60, li65, li90, li91, li93, li97, li100, li122, li126, li200, li800, li1000, li1400, li2800, li3432, li9999, li10000000, ↓lm1, ↓lm2, ↓lm3, ↓lm4, ↓lm9, le_T, le_F, lt_T, lt_F, eq_F, eq_T, vp_T, mle_F, mle_T, mlt_F, mlt_T, meq_F, meq_F', mne, aR, mR, sR', nI_clamp, br_nT, br_nF, ex_s, true_implies, false_implies, not_true_eq_false, not_false_eq_true, true_and, and_true, forall_eq, implies_true, and_self, reduceIte, reduceCtorEq, Nat.reduceEqDiff, Nat.reduceAdd, Nat.reduceMul, Nat.reduceSub, ite_true, ite_false, if_true, if_false, eq_self, and_false, false_and, fa_s, fa_n, cfF, cfA, cfJ, cfB, cfR, mfF, mfA, mfJ, mfB, mfR, c_foundE, m_meetsE, nar_byte, byte_i, lg_gt, lg_eq, lg_lt, all_A, sF_F, sF_A, sF_J, sF_B, sF_R, sF_all, sA_F, sA_A, sA_J, sA_B, sA_R, sA_all, sJ_F, sJ_A, sJ_J, sJ_B, sJ_R, sJ_all, sB_F, sB_A, sB_J, sB_B, sB_R, sB_all, sR_F, sR_A, sR_J, sR_B, sR_R, sR_all, c1, c2, c3]
      · by_cases c4 : v = nI 93
        · rw [if_neg (fun z => (of_decide_eq_true z).2.2.2 c4)]; simp (disch := omega) only [li0, li1, li2, li3, li4, li5, li6, li12, li13, li14, li15, li16, li17, li32, li33, li39, li60, li65, li90, li91, li93, li97, li100, li122, li126, li200, li800, li1000, li1400, li2800, li3432, li9999, li10000000, ↓lm1, ↓lm2, ↓lm3, ↓lm4, ↓lm9, le_T, le_F, lt_T, lt_F, eq_F, eq_T, vp_T, mle_F, mle_T, mlt_F, mlt_T, meq_F, meq_F', mne, aR, mR, sR', nI_clamp, br_nT, br_nF, ex_s, true_implies, false_implies, not_true_eq_false, not_false_eq_true, true_and, and_true, forall_eq, implies_true, and_self, reduceIte, reduceCtorEq, Nat.reduceEqDiff, Nat.reduceAdd, Nat.reduceMul, Nat.reduceSub, ite_true, ite_false, if_true, if_false, eq_self, and_false, false_and, fa_s, fa_n, cfF, cfA, cfJ, cfB, cfR, mfF, mfA, mfJ, mfB, mfR, c_foundE, m_meetsE, nar_byte, byte_i, lg_gt, lg_eq, lg_lt, all_A, sF_F, sF_A, sF_J, sF_B, sF_R, sF_all, sA_F, sA_A, sA_J, sA_B, sA_R, sA_all, sJ_F, sJ_A, sJ_J, sJ_B, sJ_R, sJ_all, sB_F, sB_A, sB_J, sB_B, sB_R, sB_all, sR_F, sR_A, sR_J, sR_B, sR_R, sR_all, c1, c2, c4]
        · rw [if_pos (show isLM v = true from decide_eq_true ⟨c1, c2, c3, c4⟩)]; simp (disch := omega) only [li0, li1, li2, li3, li4, li5, li6, li12, li13, li14, li15, li16, li17, li32, li33, li39, li60, li65, li90, li91, li93, li97, li100, li122, li126, li200, li800, li1000, li1400, li2800, li3432, li9999, li10000000, ↓lm1, ↓lm2, ↓lm3, ↓lm4, ↓lm9, le_T, le_F, lt_T, lt_F, eq_F, eq_T, vp_T, mle_F, mle_T, mlt_F, mlt_T, meq_F, meq_F', mne, aR, mR, sR', nI_clamp, br_nT, br_nF, ex_s, true_implies, false_implies, not_true_eq_false, not_false_eq_true, true_and, and_true, forall_eq, implies_true, and_self, reduceIte, reduceCtorEq, Nat.reduceEqDiff, Nat.reduceAdd, Nat.reduceMul, Nat.reduceSub, ite_true, ite_false, if_true, if_false, eq_self, and_false, false_and, fa_s, fa_n, cfF, cfA, cfJ, cfB, cfR, mfF, mfA, mfJ, mfB, mfR, c_foundE, m_meetsE, nar_byte, byte_i, lg_gt, lg_eq, lg_lt, all_A, sF_F, sF_A, sF_J, sF_B, sF_R, sF_all, sA_F, sA_A, sA_J, sA_B, sA_R, sA_all, sJ_F, sJ_A, sJ_J, sJ_B, sJ_R, sJ_all, sB_F, sB_A, sB_J, sB_B, sB_R, sB_all, sR_F, sR_A, sR_J, sR_B, sR_R, sR_all, c1, c2, c3, c4]
theorem cIsL {N : Nat} {s : St} {v : Int32} {Q : Int32 → St → Prop} (h : SB v) : fX10_isLetter N s v Q = Q (if isL v then nI 1 else nI 0) s := by
  simp only [fX10_isLetter, fX10_isLetter_b12, fX10_isLetter_b24, li97, li122, li65, li90, li0, li1]
  by_cases c1 : v < nI 97
  · rw [if_neg (fun z => (of_decide_eq_true z).1 c1)]
    rcases h with h | h
    · simp (disch := omega) only [li0, li1, li2, li3, li4, li5, li6, li12, li13, li14, li15, li16, li17, li32, li33, li39, li60, li65, li90, li91, li93, li97, li100, li122, li126, li200, li800, li1000, li1400, li2800, li3432, li9999, li10000000, ↓lm1, ↓lm2, ↓lm3, ↓lm4, ↓lm9, le_T, le_F, lt_T, lt_F, eq_F, eq_T, vp_T, mle_F, mle_T, mlt_F, mlt_T, meq_F, meq_F', mne, aR, mR, sR', nI_clamp, br_nT, br_nF, ex_s, true_implies, false_implies, not_true_eq_false, not_false_eq_true, true_and, and_true, forall_eq, implies_true, and_self, reduceIte, reduceCtorEq, Nat.reduceEqDiff, Nat.reduceAdd, Nat.reduceMul, Nat.reduceSub, ite_true, ite_false, if_true, if_false, eq_self, and_false, false_and, fa_s, fa_n, cfF, cfA, cfJ, cfB, cfR, mfF, mfA, mfJ, mfB, mfR, c_foundE, m_meetsE, nar_byte, byte_i, lg_gt, lg_eq, lg_lt, all_A, sF_F, sF_A, sF_J, sF_B, sF_R, sF_all, sA_F, sA_A, sA_J, sA_B, sA_R, sA_all, sJ_F, sJ_A, sJ_J, sJ_B, sJ_R, sJ_all, sB_F, sB_A, sB_J, sB_B, sB_R, sB_all, sR_F, sR_A, sR_J, sR_B, sR_R, sR_all, c1, h]
    · by_cases h2 : v < nI 65
      · simp (disch := omega) only [li0, li1, li2, li3, li4, li5, li6, li12, li13, li14, li15, li16, li17, li32, li33, li39, li60, li65, li90, li91, li93, li97, li100, li122, li126, li200, li800, li1000, li1400, li2800, li3432, li9999, li10000000, ↓lm1, ↓lm2, ↓lm3, ↓lm4, ↓lm9, le_T, le_F, lt_T, lt_F, eq_F, eq_T, vp_T, mle_F, mle_T, mlt_F, mlt_T, meq_F, meq_F', mne, aR, mR, sR', nI_clamp, br_nT, br_nF, ex_s, true_implies, false_implies, not_true_eq_false, not_false_eq_true, true_and, and_true, forall_eq, implies_true, and_self, reduceIte, reduceCtorEq, Nat.reduceEqDiff, Nat.reduceAdd, Nat.reduceMul, Nat.reduceSub, ite_true, ite_false, if_true, if_false, eq_self, and_false, false_and, fa_s, fa_n, cfF, cfA, cfJ, cfB, cfR, mfF, mfA, mfJ, mfB, mfR, c_foundE, m_meetsE, nar_byte, byte_i, lg_gt, lg_eq, lg_lt, all_A, sF_F, sF_A, sF_J, sF_B, sF_R, sF_all, sA_F, sA_A, sA_J, sA_B, sA_R, sA_all, sJ_F, sJ_A, sJ_J, sJ_B, sJ_R, sJ_all, sB_F, sB_A, sB_J, sB_B, sB_R, sB_all, sR_F, sR_A, sR_J, sR_B, sR_R, sR_all, c1, h2]
      · simp (disch := omega) only [li0, li1, li2, li3, li4, li5, li6, li12, li13, li14, li15, li16, li17, li32, li33, li39, li60, li65, li90, li91, li93, li97, li100, li122, li126, li200, li800, li1000, li1400, li2800, li3432, li9999, li10000000, ↓lm1, ↓lm2, ↓lm3, ↓lm4, ↓lm9, le_T, le_F, lt_T, lt_F, eq_F, eq_T, vp_T, mle_F, mle_T, mlt_F, mlt_T, meq_F, meq_F', mne, aR, mR, sR', nI_clamp, br_nT, br_nF, ex_s, true_implies, false_implies, not_true_eq_false, not_false_eq_true, true_and, and_true, forall_eq, implies_true, and_self, reduceIte, reduceCtorEq, Nat.reduceEqDiff, Nat.reduceAdd, Nat.reduceMul, Nat.reduceSub, ite_true, ite_false, if_true, if_false, eq_self, and_false, false_and, fa_s, fa_n, cfF, cfA, cfJ, cfB, cfR, mfF, mfA, mfJ, mfB, mfR, c_foundE, m_meetsE, nar_byte, byte_i, lg_gt, lg_eq, lg_lt, all_A, sF_F, sF_A, sF_J, sF_B, sF_R, sF_all, sA_F, sA_A, sA_J, sA_B, sA_R, sA_all, sJ_F, sJ_A, sJ_J, sJ_B, sJ_R, sJ_all, sB_F, sB_A, sB_J, sB_B, sB_R, sB_all, sR_F, sR_A, sR_J, sR_B, sR_R, sR_all, c1, h, h2]
  · by_cases c2 : nI 122 < v
    · have c3 : ¬ v ≤ nI 122 := Int32.not_le.mpr c2
      rw [if_neg (fun z => (of_decide_eq_true z).2 c2)]
      have h2 : ¬ v < nI 65 := by
        rw [iLt] at c1 ⊢
        have e1 : (nI 97).toInt = 97 := by decide
        have e2 : (nI 65).toInt = 65 := by decide
        omega
      have h3 : nI 90 < v := by
        rw [iLt] at c2 ⊢
        have e1 : (nI 122).toInt = 122 := by decide
        have e2 : (nI 90).toInt = 90 := by decide
        omega
      simp (disch := omega) only [li0, li1, li2, li3, li4, li5, li6, li12, li13, li14, li15, li16, li17, li32, li33, li39, li60, li65, li90, li91, li93, li97, li100, li122, li126, li200, li800, li1000, li1400, li2800, li3432, li9999, li10000000, ↓lm1, ↓lm2, ↓lm3, ↓lm4, ↓lm9, le_T, le_F, lt_T, lt_F, eq_F, eq_T, vp_T, mle_F, mle_T, mlt_F, mlt_T, meq_F, meq_F', mne, aR, mR, sR', nI_clamp, br_nT, br_nF, ex_s, true_implies, false_implies, not_true_eq_false, not_false_eq_true, true_and, and_true, forall_eq, implies_true, and_self, reduceIte, reduceCtorEq, Nat.reduceEqDiff, Nat.reduceAdd, Nat.reduceMul, Nat.reduceSub, ite_true, ite_false, if_true, if_false, eq_self, and_false, false_and, fa_s, fa_n, cfF, cfA, cfJ, cfB, cfR, mfF, mfA, mfJ, mfB, mfR, c_foundE, m_meetsE, nar_byte, byte_i, lg_gt, lg_eq, lg_lt, all_A, sF_F, sF_A, sF_J, sF_B, sF_R, sF_all, sA_F, sA_A, sA_J, sA_B, sA_R, sA_all, sJ_F, sJ_A, sJ_J, sJ_B, sJ_R, sJ_all, sB_F, sB_A, sB_J, sB_B, sB_R, sB_all, sR_F, sR_A, sR_J, sR_B, sR_R, sR_all, c1, c3, h2, h3]
    · have c3 : v ≤ nI 122 := Int32.not_lt.mp c2
      rw [if_pos (show isL v = true from decide_eq_true ⟨c1, c2⟩)]
      simp (disch := omega) only [li0, li1, li2, li3, li4, li5, li6, li12, li13, li14, li15, li16, li17, li32, li33, li39, li60, li65, li90, li91, li93, li97, li100, li122, li126, li200, li800, li1000, li1400, li2800, li3432, li9999, li10000000, ↓lm1, ↓lm2, ↓lm3, ↓lm4, ↓lm9, le_T, le_F, lt_T, lt_F, eq_F, eq_T, vp_T, mle_F, mle_T, mlt_F, mlt_T, meq_F, meq_F', mne, aR, mR, sR', nI_clamp, br_nT, br_nF, ex_s, true_implies, false_implies, not_true_eq_false, not_false_eq_true, true_and, and_true, forall_eq, implies_true, and_self, reduceIte, reduceCtorEq, Nat.reduceEqDiff, Nat.reduceAdd, Nat.reduceMul, Nat.reduceSub, ite_true, ite_false, if_true, if_false, eq_self, and_false, false_and, fa_s, fa_n, cfF, cfA, cfJ, cfB, cfR, mfF, mfA, mfJ, mfB, mfR, c_foundE, m_meetsE, nar_byte, byte_i, lg_gt, lg_eq, lg_lt, all_A, sF_F, sF_A, sF_J, sF_B, sF_R, sF_all, sA_F, sA_A, sA_J, sA_B, sA_R, sA_all, sJ_F, sJ_A, sJ_J, sJ_B, sJ_R, sJ_all, sB_F, sB_A, sB_J, sB_B, sB_R, sB_all, sR_F, sR_A, sR_J, sR_B, sR_R, sR_all, c1, c3]
theorem mIsL {N : Nat} {s : St} {v : Int32} {Q : Int32 → St → Prop} : fX11_isLetter N s v Q = Q (if isL v then nI 1 else nI 0) s := by
  simp only [fX11_isLetter, li97, li122]
  by_cases c : isL v = true
  · rw [if_pos c]
    have q := of_decide_eq_true c
    exact propext (m_in_y q.1 q.2)
  · rw [if_neg c]
    refine propext (m_in_n ?_)
    by_cases c1 : v < nI 97
    · exact Or.inl c1
    · by_cases c2 : nI 122 < v
      · exact Or.inr c2
      · exact absurd (show isL v = true from decide_eq_true ⟨c1, c2⟩) c
theorem mIsM {N : Nat} {s : St} {v : Int32} {Q : Int32 → St → Prop} (hl : isL v = false) : fX11_isMark N s v Q = Q (if isLM v then nI 1 else nI 0) s := by
  simp only [fX11_isMark, li33, li126, li91, li93, li0, li1]
  by_cases c0 : v < nI 33 ∨ nI 126 < v
  · have m := fun Q => (propext (m_in_n (N := N) (σ := s) (x := v) (a := nI 33) (b := nI 126) (Q := Q) c0))
    simp only [m]
    rw [if_neg (fun z => c0.elim (of_decide_eq_true z).1 (of_decide_eq_true z).2.1)]
    simp (disch := omega) only [li0, li1, li2, li3, li4, li5, li6, li12, li13, li14, li15, li16, li17, li32, li33, li39, li60, li65, li90, li91, li93, li97, li100, li122, li126, li200, li800, li1000, li1400, li2800, li3432, li9999, li10000000, ↓lm1, ↓lm2, ↓lm3, ↓lm4, ↓lm9, le_T, le_F, lt_T, lt_F, eq_F, eq_T, vp_T, mle_F, mle_T, mlt_F, mlt_T, meq_F, meq_F', mne, aR, mR, sR', nI_clamp, br_nT, br_nF, ex_s, true_implies, false_implies, not_true_eq_false, not_false_eq_true, true_and, and_true, forall_eq, implies_true, and_self, reduceIte, reduceCtorEq, Nat.reduceEqDiff, Nat.reduceAdd, Nat.reduceMul, Nat.reduceSub, ite_true, ite_false, if_true, if_false, eq_self, and_false, false_and, fa_s, fa_n, cfF, cfA, cfJ, cfB, cfR, mfF, mfA, mfJ, mfB, mfR, c_foundE, m_meetsE, nar_byte, byte_i, lg_gt, lg_eq, lg_lt, all_A, sF_F, sF_A, sF_J, sF_B, sF_R, sF_all, sA_F, sA_A, sA_J, sA_B, sA_R, sA_all, sJ_F, sJ_A, sJ_J, sJ_B, sJ_R, sJ_all, sB_F, sB_A, sB_J, sB_B, sB_R, sB_all, sR_F, sR_A, sR_J, sR_B, sR_R, sR_all]
  · have c1 : ¬ v < nI 33 := fun z => c0 (Or.inl z)
    have c2 : ¬ nI 126 < v := fun z => c0 (Or.inr z)
    have m := fun Q => (propext (m_in_y (N := N) (σ := s) (x := v) (a := nI 33) (b := nI 126) (Q := Q) c1 c2))
    simp only [m, mIsL, hl, Bool.false_eq_true, if_false]
    by_cases c3 : v = nI 91
    · rw [if_neg (fun z => (of_decide_eq_true z).2.2.1 c3)]; simp (disch := omega) only [li0, li1, li2, li3, li4, li5, li6, li12, li13, li14, li15, li16, li17, li32, li33, li39, li60, li65, li90, li91, li93, li97, li100, li122, li126, li200, li800, li1000, li1400, li2800, li3432, li9999, li10000000, ↓lm1, ↓lm2, ↓lm3, ↓lm4, ↓lm9, le_T, le_F, lt_T, lt_F, eq_F, eq_T, vp_T, mle_F, mle_T, mlt_F, mlt_T, meq_F, meq_F', mne, aR, mR, sR', nI_clamp, br_nT, br_nF, ex_s, true_implies, false_implies, not_true_eq_false, not_false_eq_true, true_and, and_true, forall_eq, implies_true, and_self, reduceIte, reduceCtorEq, Nat.reduceEqDiff, Nat.reduceAdd, Nat.reduceMul, Nat.reduceSub, ite_true, ite_false, if_true, if_false, eq_self, and_false, false_and, fa_s, fa_n, cfF, cfA, cfJ, cfB, cfR, mfF, mfA, mfJ, mfB, mfR, c_foundE, m_meetsE, nar_byte, byte_i, lg_gt, lg_eq, lg_lt, all_A, sF_F, sF_A, sF_J, sF_B, sF_R, sF_all, sA_F, sA_A, sA_J, sA_B, sA_R, sA_all, sJ_F, sJ_A, sJ_J, sJ_B, sJ_R, sJ_all, sB_F, sB_A, sB_J, sB_B, sB_R, sB_all, sR_F, sR_A, sR_J, sR_B, sR_R, sR_all, c3, Bool.false_eq_true]
    · by_cases c4 : v = nI 93
      · rw [if_neg (fun z => (of_decide_eq_true z).2.2.2 c4)]; simp (disch := omega) only [li0, li1, li2, li3, li4, li5, li6, li12, li13, li14, li15, li16, li17, li32, li33, li39, li60, li65, li90, li91, li93, li97, li100, li122, li126, li200, li800, li1000, li1400, li2800, li3432, li9999, li10000000, ↓lm1, ↓lm2, ↓lm3, ↓lm4, ↓lm9, le_T, le_F, lt_T, lt_F, eq_F, eq_T, vp_T, mle_F, mle_T, mlt_F, mlt_T, meq_F, meq_F', mne, aR, mR, sR', nI_clamp, br_nT, br_nF, ex_s, true_implies, false_implies, not_true_eq_false, not_false_eq_true, true_and, and_true, forall_eq, implies_true, and_self, reduceIte, reduceCtorEq, Nat.reduceEqDiff, Nat.reduceAdd, Nat.reduceMul, Nat.reduceSub, ite_true, ite_false, if_true, if_false, eq_self, and_false, false_and, fa_s, fa_n, cfF, cfA, cfJ, cfB, cfR, mfF, mfA, mfJ, mfB, mfR, c_foundE, m_meetsE, nar_byte, byte_i, lg_gt, lg_eq, lg_lt, all_A, sF_F, sF_A, sF_J, sF_B, sF_R, sF_all, sA_F, sA_A, sA_J, sA_B, sA_R, sA_all, sJ_F, sJ_A, sJ_J, sJ_B, sJ_R, sJ_all, sB_F, sB_A, sB_J, sB_B, sB_R, sB_all, sR_F, sR_A, sR_J, sR_B, sR_R, sR_all, c4, Bool.false_eq_true]
      · rw [if_pos (show isLM v = true from decide_eq_true ⟨c1, c2, c3, c4⟩)]; simp (disch := omega) only [li0, li1, li2, li3, li4, li5, li6, li12, li13, li14, li15, li16, li17, li32, li33, li39, li60, li65, li90, li91, li93, li97, li100, li122, li126, li200, li800, li1000, li1400, li2800, li3432, li9999, li10000000, ↓lm1, ↓lm2, ↓lm3, ↓lm4, ↓lm9, le_T, le_F, lt_T, lt_F, eq_F, eq_T, vp_T, mle_F, mle_T, mlt_F, mlt_T, meq_F, meq_F', mne, aR, mR, sR', nI_clamp, br_nT, br_nF, ex_s, true_implies, false_implies, not_true_eq_false, not_false_eq_true, true_and, and_true, forall_eq, implies_true, and_self, reduceIte, reduceCtorEq, Nat.reduceEqDiff, Nat.reduceAdd, Nat.reduceMul, Nat.reduceSub, ite_true, ite_false, if_true, if_false, eq_self, and_false, false_and, fa_s, fa_n, cfF, cfA, cfJ, cfB, cfR, mfF, mfA, mfJ, mfB, mfR, c_foundE, m_meetsE, nar_byte, byte_i, lg_gt, lg_eq, lg_lt, all_A, sF_F, sF_A, sF_J, sF_B, sF_R, sF_all, sA_F, sA_A, sA_J, sA_B, sA_R, sA_all, sJ_F, sJ_A, sJ_J, sJ_B, sJ_R, sJ_all, sB_F, sB_A, sB_J, sB_B, sB_R, sB_all, sR_F, sR_A, sR_J, sR_B, sR_R, sR_all, c3, c4, Bool.false_eq_true]
/-- is a place in a quote, as it is reached -/
def rq (g : Nat → Int32) : Nat → Bool
  | 0 => false
  | i + 1 => if rq g i = true then decide (¬ g i = nI 93) else decide (g i = nI 91)
def rop (g : Nat → Int32) (i : Nat) : Bool := !rq g i && decide (g i = nI 91)
def rc (g : Nat → Int32) (i : Nat) : Int32 := if rq g i = true ∨ g i = nI 91 then nI 32 else smV (g i)
def lt' (g : Nat → Int32) (i : Nat) : Bool := isL (rc g i)
def lb (g : Nat → Int32) : Nat → Bool
  | 0 => false
  | i + 1 => lt' g i
def rst (g : Nat → Int32) (i : Nat) : Bool := lt' g i && !lb g i
def rnw (g : Nat → Int32) (i : Nat) : Nat := ct (rst g) i
def up' (f : Nat → Nat) (k v : Nat) : Nat → Nat := fun j => if j = k then v else f j
def wA (g : Nat → Int32) : Nat → Nat → Nat
  | 0 => fun _ => 0
  | i + 1 => if rst g i = true then up' (wA g i) (rnw g i) i else wA g i
/-- lengths, a word begun -/
def wB (f : Nat → Nat) (b : Bool) (k : Nat) : Nat → Nat := if b = true then up' f k 0 else f
def wL (g : Nat → Int32) : Nat → Nat → Nat
  | 0 => fun _ => 0
  | i + 1 => if lt' g i = true then up' (wB (wL g i) (rst g i) (rnw g i)) (rnw g (i + 1) - 1) (wB (wL g i) (rst g i) (rnw g i) (rnw g (i + 1) - 1) + 1) else wB (wL g i) (rst g i) (rnw g i)
theorem sm_up0 {f : Nat → Nat} {k v : Nat} : ∀ n, n ≤ k → sm (up' f k v) n = sm f n := by
  intro n
  induction n with
  | zero => exact fun _ => rfl
  | succ n ih => intro h; rw [sm_s, sm_s, ih (by omega)]; unfold up'; rw [if_neg (by omega)]
theorem sm_up1 {f : Nat → Nat} {k : Nat} : ∀ n, k < n → sm (up' f k (f k + 1)) n = sm f n + 1 := by
  intro n
  induction n with
  | zero => intro h; omega
  | succ n ih =>
    intro h
    rw [sm_s, sm_s]
    by_cases c : k = n
    · subst c; rw [sm_up0 k (Nat.le_refl _)]; unfold up'; rw [if_pos rfl]; omega
    · rw [ih (by omega)]; unfold up'; rw [if_neg (by omega)]; omega
theorem rst_F {g : Nat → Int32} {i : Nat} (h : lt' g i = false) : rst g i = false := by unfold rst; rw [h]; rfl
/-- what is true of the words, as far as read -/
def RI (g : Nat → Int32) (i : Nat) : Prop := 2 * rnw g i ≤ i + 1 ∧ (lb g i = false → 2 * rnw g i ≤ i) ∧ (lb g i = true → 1 ≤ rnw g i) ∧ (∀ w, w < rnw g i → 1 ≤ wL g i w ∧ wA g i w + wL g i w ≤ i) ∧ sm (wL g i) (rnw g i) = ct (lt' g) i
theorem RI_all (g : Nat → Int32) : ∀ i, RI g i := by
  intro i
  induction i with
  | zero => exact ⟨(by show 2 * 0 ≤ 0 + 1; decide), fun _ => (by show 2 * 0 ≤ 0; decide), fun h => (by cases h), fun w hw => absurd hw (Nat.not_lt_zero _), rfl⟩
  | succ i ih =>
    obtain ⟨h1, h2, h3, h4, h5⟩ := ih
    have en : rnw g (i + 1) = rnw g i + (if rst g i = true then 1 else 0) := ct_s _ _
    have el : lb g (i + 1) = lt' g i := rfl
    have eL : wL g (i + 1) = if lt' g i = true then up' (wB (wL g i) (rst g i) (rnw g i)) (rnw g (i + 1) - 1) (wB (wL g i) (rst g i) (rnw g i) (rnw g (i + 1) - 1) + 1) else wB (wL g i) (rst g i) (rnw g i) := rfl
    have eA : wA g (i + 1) = if rst g i = true then up' (wA g i) (rnw g i) i else wA g i := rfl
    unfold RI
    rw [el, ct_s, eL, eA]
    by_cases cl : lt' g i = true
    · by_cases cb : lb g i = true
      · have er : rst g i = false := by unfold rst; rw [cb]; simp
        rw [er, if_neg (by decide)] at en
        have hn := h3 cb
        rw [en, cl, er, if_pos rfl, if_neg (by decide), if_pos rfl]
        have eB : wB (wL g i) false (rnw g i) = wL g i := if_neg (by decide)
        rw [eB]
        refine ⟨by omega, fun z => (by cases z), fun _ => by omega, fun w hw => ?_, ?_⟩
        · obtain ⟨q1, q2⟩ := h4 w (by omega)
          unfold up'
          by_cases c : w = rnw g i + 0 - 1
          · rw [if_pos c, ← c]; omega
          · rw [if_neg c]; omega
        · rw [Nat.add_zero, sm_up1 (rnw g i) (by omega), h5]
      · have cb : lb g i = false := by simpa using cb
        have er : rst g i = true := by unfold rst; rw [cl, cb]; rfl
        rw [er, if_pos rfl] at en
        have hn := h2 cb
        rw [en, cl, er, if_pos rfl, if_pos rfl, if_pos rfl]
        have eB : wB (wL g i) true (rnw g i) = up' (wL g i) (rnw g i) 0 := if_pos rfl
        rw [eB, show rnw g i + 1 - 1 = rnw g i by omega]
        refine ⟨by omega, fun z => (by cases z), fun _ => by omega, fun w hw => ?_, ?_⟩
        · by_cases c : w = rnw g i
          · subst c
            unfold up'
            rw [if_pos rfl, if_pos rfl, if_pos rfl]; omega
          · obtain ⟨q1, q2⟩ := h4 w (by omega)
            unfold up'
            rw [if_neg c, if_neg c, if_neg c]; omega
        · rw [sm_up1 _ (by omega), sm_s, sm_up0 _ (Nat.le_refl _), h5]
          unfold up'; rw [if_pos rfl]
    · have cl : lt' g i = false := by simpa using cl
      have er := rst_F cl
      rw [er, if_neg (by decide)] at en
      rw [en, cl, er, if_neg (by decide), if_neg (by decide), if_neg (by decide)]
      have eB : wB (wL g i) false (rnw g i) = wL g i := if_neg (by decide)
      rw [eB]
      refine ⟨by omega, fun _ => by omega, fun z => (by cases z), fun w hw => ?_, ?_⟩
      · obtain ⟨q1, q2⟩ := h4 w (by omega); omega
      · rw [Nat.add_zero, Nat.add_zero]; exact h5
