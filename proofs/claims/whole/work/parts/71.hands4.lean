theorem HI_y {σ s : St} {n m w t : Nat} {x : Int32} {F : Nat → Int32} (ct' : CT σ n m) (kp : KP σ s) (ht : t < n) (h : HI σ s m x w t) (e : hp σ (nI w) x t = true) (hF : ∀ f, f < 12 → F f = sA s 29 14 f + sA s 29 t f) : HI σ (setA (setF (setF (setAll s 29 14 F) 7 14 1 (sF s 7 14 1 + sF s 7 t 1)) 7 14 2 (sF s 7 14 2 + sF s 7 t 2)) 33 0 w (nI 1)) m x w (t + 1) := by
  have cs := CT_c ct' kp.1
  have sm1 := kp.2.sm.f
  have hn := ct'.1
  have hm := ct'.2.1
  obtain ⟨-, -, -, c4, -, c6⟩ := cs
  refine ⟨fun f hf => ?_, ?_, ?_, ?_⟩
  · simp only [sF_F, sF_A, sF_J, sF_B, sF_R, sF_all, sA_F, sA_A, sA_J, sA_B, sA_R, sA_all, sJ_F, sJ_A, sJ_J, sJ_B, sJ_R, sJ_all, sB_F, sB_A, sB_J, sB_B, sB_R, sB_all, sR_F, sR_A, sR_J, sR_B, sR_R, sR_all]
    simp only [reduceCtorEq, Nat.reduceEqDiff, false_and, ite_false, true_and, and_self, ite_true]
    rw [hF f (by omega), h.1 f hf, c6 f t hf ht, sm1.2.2.2.2.2, nI_add, sb_y e]
  · simp only [sF_F, sF_A, sF_J, sF_B, sF_R, sF_all, sA_F, sA_A, sA_J, sA_B, sA_R, sA_all, sJ_F, sJ_A, sJ_J, sJ_B, sJ_R, sJ_all, sB_F, sB_A, sB_J, sB_B, sB_R, sB_all, sR_F, sR_A, sR_J, sR_B, sR_R, sR_all]
    simp only [reduceCtorEq, Nat.reduceEqDiff, and_false, ite_false, true_and, and_self, ite_true]
    rw [h.2.1, (c4 t ht).2.2.2.1.1, sm1.2.2.1, nI_add, sb_y e]
  · simp only [sF_F, sF_A, sF_J, sF_B, sF_R, sF_all, sA_F, sA_A, sA_J, sA_B, sA_R, sA_all, sJ_F, sJ_A, sJ_J, sJ_B, sJ_R, sJ_all, sB_F, sB_A, sB_J, sB_B, sB_R, sB_all, sR_F, sR_A, sR_J, sR_B, sR_R, sR_all]
    simp only [reduceCtorEq, Nat.reduceEqDiff, and_false, ite_false, true_and, and_self, ite_true]
    rw [h.2.2.1, (c4 t ht).2.2.2.1.2, sm1.2.1, nI_add, sb_y e]
  · simp only [sF_F, sF_A, sF_J, sF_B, sF_R, sF_all, sA_F, sA_A, sA_J, sA_B, sA_R, sA_all, sJ_F, sJ_A, sJ_J, sJ_B, sJ_R, sJ_all, sB_F, sB_A, sB_J, sB_B, sB_R, sB_all, sR_F, sR_A, sR_J, sR_B, sR_R, sR_all]
    simp only [and_self, ite_true]
    rw [fl_y e]
theorem kp_y {s : St} {t w : Nat} {F : Nat → Int32} {a b c : Int32} : KP s (setA (setF (setF (setAll s 29 14 F) 7 14 1 a) 7 14 2 b) 33 0 w c) := (((kp_all (by decide) (by decide)).trans (kp_F (by decide) (by decide) (by decide))).trans (kp_F (by decide) (by decide) (by decide))).trans (kp_A (by decide) (by decide))
theorem Hd_y {σ s : St} {n m w w' : Nat} {x : Int32} {F : Nat → Int32} {a b c : Int32} (hw : w' < w) (h : Hd σ s n m x w') : Hd σ (setA (setF (setF (setAll s 29 14 F) 7 14 1 a) 7 14 2 b) 33 0 w c) n m x w' := by
  refine ⟨?_, fun f hf => ?_⟩
  · simp only [sF_F, sF_A, sF_J, sF_B, sF_R, sF_all, sA_F, sA_A, sA_J, sA_B, sA_R, sA_all, sJ_F, sJ_A, sJ_J, sJ_B, sJ_R, sJ_all, sB_F, sB_A, sB_J, sB_B, sB_R, sB_all, sR_F, sR_A, sR_J, sR_B, sR_R, sR_all]
    rw [if_neg (by omega)]
    simp only [reduceCtorEq, Nat.reduceEqDiff, false_and, ite_false]
    exact h.1
  · simp only [sF_F, sF_A, sF_J, sF_B, sF_R, sF_all, sA_F, sA_A, sA_J, sA_B, sA_R, sA_all, sJ_F, sJ_A, sJ_J, sJ_B, sJ_R, sJ_all, sB_F, sB_A, sB_J, sB_B, sB_R, sB_all, sR_F, sR_A, sR_J, sR_B, sR_R, sR_all]
    simp only [reduceCtorEq, Nat.reduceEqDiff, false_and, ite_false]
    exact h.2 f hf
theorem hands_t {N n m w : Nat} {σ s0 : St} {x : Int32} {Q : St → Prop} {K : St → Int32 → Prop} (hN : 1000 ≤ N) (ct' : CT σ n m) (hw : w < 6) (kp : KP σ s0) (hi0 : HI σ s0 m x w 0) (hd0 : ∀ w', w' < w → Hd σ s0 n m x w') (h : ∀ s, KP σ s → HI σ s m x w n → (∀ w', w' < w → Hd σ s n m x w') → K s (nI w)) : fX1_readWithout_l28 N x Q K N s0 (nI w) (nI 0) := by
  have hn := ct'.1
  refine lpU (fun k i (y : St) => fX1_readWithout_l28 N x Q K k y (nI w) (nI i)) (fun i s => KP σ s ∧ HI σ s m x w (min i n) ∧ ∀ w', w' < w → Hd σ s n m x w') 14 N ?_ ?_ 0 s0 (by omega) (by omega) ⟨kp, by rw [show min 0 n = 0 by omega]; exact hi0, hd0⟩
  · rintro k s ⟨k1, k2, k3⟩
    rw [show min 14 n = n by omega] at k2
    have q := h s k1 k2 k3
    simp (disch := omega) only [li0, li1, li2, li3, li4, li5, li6, li12, li13, li14, li15, li16, li17, li32, li33, li39, li60, li65, li90, li91, li93, li97, li100, li122, li126, li200, li800, li1000, li1400, li2800, li3432, li9999, li10000000, ↓lm1, ↓lm2, ↓lm3, ↓lm4, ↓lm9, le_T, le_F, lt_T, lt_F, eq_F, eq_T, vp_T, mle_F, mle_T, mlt_F, mlt_T, meq_F, meq_F', mne, aR, mR, sR', nI_clamp, br_nT, br_nF, ex_s, true_implies, false_implies, not_true_eq_false, not_false_eq_true, true_and, and_true, forall_eq, implies_true, and_self, reduceIte, reduceCtorEq, Nat.reduceEqDiff, Nat.reduceAdd, Nat.reduceMul, Nat.reduceSub, ite_true, ite_false, if_true, if_false, eq_self, and_false, false_and, fa_s, fa_n, cfF, cfA, cfJ, cfB, cfR, mfF, mfA, mfJ, mfB, mfR, c_foundE, m_meetsE, fX11_isSheet, fX11_in, fX10_sheetAt, fX10_sheetAt_b22, fX10_textAt, fX10_textAt_b22, fX11_isText, fX2_has, fX11_isFeature, nar_byte, byte_i, lg_gt, lg_eq, lg_lt, all_A, sF_F, sF_A, sF_J, sF_B, sF_R, sF_all, sA_F, sA_A, sA_J, sA_B, sA_R, sA_all, sJ_F, sJ_A, sJ_J, sJ_B, sJ_R, sJ_all, sB_F, sB_A, sB_J, sB_B, sB_R, sB_all, sR_F, sR_A, sR_J, sR_B, sR_R, sR_all, fX1_readWithout_l28]
    exact q
  · rintro k i s hi ⟨k1, k2, k3⟩ K'
    have cs := CT_c ct' k1.1
    have gr := cs.2.2.1.2.2.2.2.2.1 i
    have skip : (i < n → hp σ (nI w) x i = false) → fX1_readWithout_l28 N x Q K k s (nI w) (nI (i + 1)) := by
      intro e
      refine K' s ⟨k1, ?_, k3⟩
      by_cases c : i < n
      · rw [show min (i + 1) n = i + 1 by omega]; rw [show min i n = i by omega] at k2; exact HI_n k2 (e c)
      · rw [show min (i + 1) n = n by omega]; rw [show min i n = n by omega] at k2; exact k2
    by_cases c : nI i = x
    · have skip := skip (fun _ => decide_eq_false (fun z => z.2.2 c))
      subst c
      simp (disch := omega) only [li0, li1, li2, li3, li4, li5, li6, li12, li13, li14, li15, li16, li17, li32, li33, li39, li60, li65, li90, li91, li93, li97, li100, li122, li126, li200, li800, li1000, li1400, li2800, li3432, li9999, li10000000, ↓lm1, ↓lm2, ↓lm3, ↓lm4, ↓lm9, le_T, le_F, lt_T, lt_F, eq_F, eq_T, vp_T, mle_F, mle_T, mlt_F, mlt_T, meq_F, meq_F', mne, aR, mR, sR', nI_clamp, br_nT, br_nF, ex_s, true_implies, false_implies, not_true_eq_false, not_false_eq_true, true_and, and_true, forall_eq, implies_true, and_self, reduceIte, reduceCtorEq, Nat.reduceEqDiff, Nat.reduceAdd, Nat.reduceMul, Nat.reduceSub, ite_true, ite_false, if_true, if_false, eq_self, and_false, false_and, fa_s, fa_n, cfF, cfA, cfJ, cfB, cfR, mfF, mfA, mfJ, mfB, mfR, c_foundE, m_meetsE, fX11_isSheet, fX11_in, fX10_sheetAt, fX10_sheetAt_b22, fX10_textAt, fX10_textAt_b22, fX11_isText, fX2_has, fX11_isFeature, nar_byte, byte_i, lg_gt, lg_eq, lg_lt, all_A, sF_F, sF_A, sF_J, sF_B, sF_R, sF_all, sA_F, sA_A, sA_J, sA_B, sA_R, sA_all, sJ_F, sJ_A, sJ_J, sJ_B, sJ_R, sJ_all, sB_F, sB_A, sB_J, sB_B, sB_R, sB_all, sR_F, sR_A, sR_J, sR_B, sR_R, sR_all, fX1_readWithout_l28, fX1_readWithout_b85_28]
      exact skip
    · by_cases c2 : i < n
      · rw [if_pos c2] at gr
        have tx := cs.2.2.2.1 i c2
        have e70 : sA s 70 0 i = sA σ 70 0 i := by rw [k1.2.2.1 70 (by decide)]
        have e68 : sA s 68 0 i = sA σ 68 0 i := by rw [k1.2.2.1 68 (by decide)]
        simp (disch := omega) only [li0, li1, li2, li3, li4, li5, li6, li12, li13, li14, li15, li16, li17, li32, li33, li39, li60, li65, li90, li91, li93, li97, li100, li122, li126, li200, li800, li1000, li1400, li2800, li3432, li9999, li10000000, ↓lm1, ↓lm2, ↓lm3, ↓lm4, ↓lm9, le_T, le_F, lt_T, lt_F, eq_F, eq_T, vp_T, mle_F, mle_T, mlt_F, mlt_T, meq_F, meq_F', mne, aR, mR, sR', nI_clamp, br_nT, br_nF, ex_s, true_implies, false_implies, not_true_eq_false, not_false_eq_true, true_and, and_true, forall_eq, implies_true, and_self, reduceIte, reduceCtorEq, Nat.reduceEqDiff, Nat.reduceAdd, Nat.reduceMul, Nat.reduceSub, ite_true, ite_false, if_true, if_false, eq_self, and_false, false_and, fa_s, fa_n, cfF, cfA, cfJ, cfB, cfR, mfF, mfA, mfJ, mfB, mfR, c_foundE, m_meetsE, fX11_isSheet, fX11_in, fX10_sheetAt, fX10_sheetAt_b22, fX10_textAt, fX10_textAt_b22, fX11_isText, fX2_has, fX11_isFeature, nar_byte, byte_i, lg_gt, lg_eq, lg_lt, all_A, sF_F, sF_A, sF_J, sF_B, sF_R, sF_all, sA_F, sA_A, sA_J, sA_B, sA_R, sA_all, sJ_F, sJ_A, sJ_J, sJ_B, sJ_R, sJ_all, sB_F, sB_A, sB_J, sB_B, sB_R, sB_all, sR_F, sR_A, sR_J, sR_B, sR_R, sR_all, fX1_readWithout_l28, fX1_readWithout_b85_28, c, gr]
        refine isBy_sp tx hw ?_
        rw [e70, e68]
        by_cases b : sA σ 70 0 i = nI 0 ∧ sA σ 68 0 i = nI w
        · rw [if_pos b]
          have hy : hp σ (nI w) x i = true := decide_eq_true ⟨b.1, b.2, c⟩
          simp (disch := omega) only [li0, li1, li2, li3, li4, li5, li6, li12, li13, li14, li15, li16, li17, li32, li33, li39, li60, li65, li90, li91, li93, li97, li100, li122, li126, li200, li800, li1000, li1400, li2800, li3432, li9999, li10000000, ↓lm1, ↓lm2, ↓lm3, ↓lm4, ↓lm9, le_T, le_F, lt_T, lt_F, eq_F, eq_T, vp_T, mle_F, mle_T, mlt_F, mlt_T, meq_F, meq_F', mne, aR, mR, sR', nI_clamp, br_nT, br_nF, ex_s, true_implies, false_implies, not_true_eq_false, not_false_eq_true, true_and, and_true, forall_eq, implies_true, and_self, reduceIte, reduceCtorEq, Nat.reduceEqDiff, Nat.reduceAdd, Nat.reduceMul, Nat.reduceSub, ite_true, ite_false, if_true, if_false, eq_self, and_false, false_and, fa_s, fa_n, cfF, cfA, cfJ, cfB, cfR, mfF, mfA, mfJ, mfB, mfR, c_foundE, m_meetsE, fX11_isSheet, fX11_in, fX10_sheetAt, fX10_sheetAt_b22, fX10_textAt, fX10_textAt_b22, fX11_isText, fX2_has, fX11_isFeature, nar_byte, byte_i, lg_gt, lg_eq, lg_lt, all_A, sF_F, sF_A, sF_J, sF_B, sF_R, sF_all, sA_F, sA_A, sA_J, sA_B, sA_R, sA_all, sJ_F, sJ_A, sJ_J, sJ_B, sJ_R, sJ_all, sB_F, sB_A, sB_J, sB_B, sB_R, sB_all, sR_F, sR_A, sR_J, sR_B, sR_R, sR_all, gr, nar_b1]
          refine add_sp hN hi (fun F hF => ?_)
          rw [show min i n = i by omega] at k2
          refine K' _ ⟨k1.trans (kp_y (t := i)), ?_, fun w' hw' => Hd_y hw' (k3 w' hw')⟩
          rw [show min (i + 1) n = i + 1 by omega]
          exact HI_y ct' k1 c2 k2 hy hF
        · rw [if_neg b]
          have skip := skip (fun _ => decide_eq_false (fun z => b ⟨z.1, z.2.1⟩))
          simp (disch := omega) only [li0, li1, li2, li3, li4, li5, li6, li12, li13, li14, li15, li16, li17, li32, li33, li39, li60, li65, li90, li91, li93, li97, li100, li122, li126, li200, li800, li1000, li1400, li2800, li3432, li9999, li10000000, ↓lm1, ↓lm2, ↓lm3, ↓lm4, ↓lm9, le_T, le_F, lt_T, lt_F, eq_F, eq_T, vp_T, mle_F, mle_T, mlt_F, mlt_T, meq_F, meq_F', mne, aR, mR, sR', nI_clamp, br_nT, br_nF, ex_s, true_implies, false_implies, not_true_eq_false, not_false_eq_true, true_and, and_true, forall_eq, implies_true, and_self, reduceIte, reduceCtorEq, Nat.reduceEqDiff, Nat.reduceAdd, Nat.reduceMul, Nat.reduceSub, ite_true, ite_false, if_true, if_false, eq_self, and_false, false_and, fa_s, fa_n, cfF, cfA, cfJ, cfB, cfR, mfF, mfA, mfJ, mfB, mfR, c_foundE, m_meetsE, fX11_isSheet, fX11_in, fX10_sheetAt, fX10_sheetAt_b22, fX10_textAt, fX10_textAt_b22, fX11_isText, fX2_has, fX11_isFeature, nar_byte, byte_i, lg_gt, lg_eq, lg_lt, all_A, sF_F, sF_A, sF_J, sF_B, sF_R, sF_all, sA_F, sA_A, sA_J, sA_B, sA_R, sA_all, sJ_F, sJ_A, sJ_J, sJ_B, sJ_R, sJ_all, sB_F, sB_A, sB_J, sB_B, sB_R, sB_all, sR_F, sR_A, sR_J, sR_B, sR_R, sR_all]
          exact skip
      · rw [if_neg c2] at gr
        have skip := skip (fun z => absurd z c2)
        simp (disch := omega) only [li0, li1, li2, li3, li4, li5, li6, li12, li13, li14, li15, li16, li17, li32, li33, li39, li60, li65, li90, li91, li93, li97, li100, li122, li126, li200, li800, li1000, li1400, li2800, li3432, li9999, li10000000, ↓lm1, ↓lm2, ↓lm3, ↓lm4, ↓lm9, le_T, le_F, lt_T, lt_F, eq_F, eq_T, vp_T, mle_F, mle_T, mlt_F, mlt_T, meq_F, meq_F', mne, aR, mR, sR', nI_clamp, br_nT, br_nF, ex_s, true_implies, false_implies, not_true_eq_false, not_false_eq_true, true_and, and_true, forall_eq, implies_true, and_self, reduceIte, reduceCtorEq, Nat.reduceEqDiff, Nat.reduceAdd, Nat.reduceMul, Nat.reduceSub, ite_true, ite_false, if_true, if_false, eq_self, and_false, false_and, fa_s, fa_n, cfF, cfA, cfJ, cfB, cfR, mfF, mfA, mfJ, mfB, mfR, c_foundE, m_meetsE, fX11_isSheet, fX11_in, fX10_sheetAt, fX10_sheetAt_b22, fX10_textAt, fX10_textAt_b22, fX11_isText, fX2_has, fX11_isFeature, nar_byte, byte_i, lg_gt, lg_eq, lg_lt, all_A, sF_F, sF_A, sF_J, sF_B, sF_R, sF_all, sA_F, sA_A, sA_J, sA_B, sA_R, sA_all, sJ_F, sJ_A, sJ_J, sJ_B, sJ_R, sJ_all, sB_F, sB_A, sB_J, sB_B, sB_R, sB_all, sR_F, sR_A, sR_J, sR_B, sR_R, sR_all, fX1_readWithout_l28, fX1_readWithout_b85_28, c, gr]
        exact skip
