/-- is a text of the hand of a, the text x left out -/
def hp (σ : St) (a x : Int32) (t : Nat) : Bool := decide (sA σ 70 0 t = nI 0 ∧ sA σ 68 0 t = a ∧ nI t ≠ x)
theorem handOf_sp {N n m : Nat} {σ : St} {a x : Int32} {Q : Int32 → St → Prop} (hN : 1000 ≤ N) (rt : RT σ n m) (h : ∀ M : Int32, (∀ s, s < 32 → bt M s = (decide (s < n) && hp σ a x s)) → Q M σ) : fX11_handOf N σ a x Q := by
  obtain ⟨hn, hm, e6, e18, tt, ff⟩ := id rt
  unfold fX11_handOf
  refine lpU (fun k i (y : St × Int32) => fX11_handOf_l5 N a x Q _ k y.1 y.2 (nI i)) (fun i y => y.1 = σ ∧ ∀ s, s < 32 → bt y.2 s = (decide (s < i) && hp σ a x s)) n N ?_ ?_ 0 (σ, nI 0) (by omega) (by omega) ⟨rfl, fun s hs => by rw [bt_0]; simp⟩
  · rintro k ⟨s, y⟩ ⟨es, hy⟩
    have es : s = σ := es
    subst es
    simp (disch := omega) only [li0, li1, li2, li3, li4, li5, li6, li12, li13, li14, li15, li16, li17, li32, li33, li39, li60, li65, li90, li91, li93, li97, li100, li122, li126, li200, li800, li1000, li1400, li2800, li3432, li9999, li10000000, ↓lm1, ↓lm2, ↓lm3, ↓lm4, ↓lm9, le_T, le_F, lt_T, lt_F, eq_F, eq_T, vp_T, mle_F, mle_T, mlt_F, mlt_T, meq_F, meq_F', mne, aR, mR, sR', nI_clamp, br_nT, br_nF, ex_s, true_implies, false_implies, not_true_eq_false, not_false_eq_true, true_and, and_true, forall_eq, implies_true, and_self, reduceIte, reduceCtorEq, Nat.reduceEqDiff, Nat.reduceAdd, Nat.reduceMul, Nat.reduceSub, ite_true, ite_false, if_true, if_false, eq_self, and_false, false_and, fa_s, fa_n, cfF, cfA, cfJ, cfB, cfR, mfF, mfA, mfJ, mfB, mfR, c_foundE, m_meetsE, fX11_isSheet, fX11_in, fX10_sheetAt, fX10_sheetAt_b22, fX10_textAt, fX10_textAt_b22, fX11_isText, fX2_has, fX11_isFeature, nar_byte, byte_i, lg_gt, lg_eq, lg_lt, all_A, sF_F, sF_A, sF_J, sF_B, sF_R, sF_all, sA_F, sA_A, sA_J, sA_B, sA_R, sA_all, sJ_F, sJ_A, sJ_J, sJ_B, sJ_R, sJ_all, sB_F, sB_A, sB_J, sB_B, sB_R, sB_all, sR_F, sR_A, sR_J, sR_B, sR_R, sR_all, fX11_handOf_l5, e6]
    exact h y hy
  · rintro k i ⟨s, y⟩ hi ⟨es, hy⟩ K
    have es : s = σ := es
    subst es
    have hy : ∀ u, u < 32 → bt y u = (decide (u < i) && hp s a x u) := hy
    have no : hp s a x i = false → fX11_handOf_l5 N a x Q (fun (σ7 : St) (u58_3 : Int32) => Q u58_3 σ7) k s (y ||| nI 0) (nI (i + 1)) := by
      intro e
      refine K (s, y ||| nI 0) ⟨rfl, fun u hu => ?_⟩
      show bt (y ||| nI 0) u = _
      rw [bt_or, bt_0, hy u hu]
      by_cases c : u = i
      · subst c; rw [e]; simp
      · by_cases c2 : u < i
        · rw [decide_eq_true c2, decide_eq_true (show u < i + 1 by omega)]; simp
        · rw [decide_eq_false c2, decide_eq_false (show ¬ u < i + 1 by omega)]; simp
    have yes : hp s a x i = true → fX11_handOf_l5 N a x Q (fun (σ7 : St) (u58_3 : Int32) => Q u58_3 σ7) k s (y ||| (nI 1 <<< (nI i &&& 31))) (nI (i + 1)) := by
      intro e
      refine K (s, y ||| (nI 1 <<< (nI i &&& 31))) ⟨rfl, fun u hu => ?_⟩
      show bt (y ||| (nI 1 <<< (nI i &&& 31))) u = _
      rw [bt_or, bt_shl i (by omega) u hu, hy u hu]
      by_cases c : u = i
      · subst c; rw [e]; simp
      · rw [decide_eq_false c]
        by_cases c2 : u < i
        · rw [decide_eq_true c2, decide_eq_true (show u < i + 1 by omega)]; simp
        · rw [decide_eq_false c2, decide_eq_false (show ¬ u < i + 1 by omega)]; simp
    by_cases c1 : sA s 70 0 i = nI 0
    · by_cases c2 : sA s 68 0 i = a
      · by_cases c3 : nI i = x
        · have no := no (decide_eq_false (fun z => z.2.2 c3))
          subst c3
          simp (disch := omega) only [li0, li1, li2, li3, li4, li5, li6, li12, li13, li14, li15, li16, li17, li32, li33, li39, li60, li65, li90, li91, li93, li97, li100, li122, li126, li200, li800, li1000, li1400, li2800, li3432, li9999, li10000000, ↓lm1, ↓lm2, ↓lm3, ↓lm4, ↓lm9, le_T, le_F, lt_T, lt_F, eq_F, eq_T, vp_T, mle_F, mle_T, mlt_F, mlt_T, meq_F, meq_F', mne, aR, mR, sR', nI_clamp, br_nT, br_nF, ex_s, true_implies, false_implies, not_true_eq_false, not_false_eq_true, true_and, and_true, forall_eq, implies_true, and_self, reduceIte, reduceCtorEq, Nat.reduceEqDiff, Nat.reduceAdd, Nat.reduceMul, Nat.reduceSub, ite_true, ite_false, if_true, if_false, eq_self, and_false, false_and, fa_s, fa_n, cfF, cfA, cfJ, cfB, cfR, mfF, mfA, mfJ, mfB, mfR, c_foundE, m_meetsE, fX11_isSheet, fX11_in, fX10_sheetAt, fX10_sheetAt_b22, fX10_textAt, fX10_textAt_b22, fX11_isText, fX2_has, fX11_isFeature, nar_byte, byte_i, lg_gt, lg_eq, lg_lt, all_A, sF_F, sF_A, sF_J, sF_B, sF_R, sF_all, sA_F, sA_A, sA_J, sA_B, sA_R, sA_all, sJ_F, sJ_A, sJ_J, sJ_B, sJ_R, sJ_all, sB_F, sB_A, sB_J, sB_B, sB_R, sB_all, sR_F, sR_A, sR_J, sR_B, sR_R, sR_all, fX11_handOf_l5, fX11_handOf_b49_5, fX11_handOf_b50_5, e6, c1, c2]
          exact no
        · have yes := yes (decide_eq_true ⟨c1, c2, c3⟩)
          simp (disch := omega) only [li0, li1, li2, li3, li4, li5, li6, li12, li13, li14, li15, li16, li17, li32, li33, li39, li60, li65, li90, li91, li93, li97, li100, li122, li126, li200, li800, li1000, li1400, li2800, li3432, li9999, li10000000, ↓lm1, ↓lm2, ↓lm3, ↓lm4, ↓lm9, le_T, le_F, lt_T, lt_F, eq_F, eq_T, vp_T, mle_F, mle_T, mlt_F, mlt_T, meq_F, meq_F', mne, aR, mR, sR', nI_clamp, br_nT, br_nF, ex_s, true_implies, false_implies, not_true_eq_false, not_false_eq_true, true_and, and_true, forall_eq, implies_true, and_self, reduceIte, reduceCtorEq, Nat.reduceEqDiff, Nat.reduceAdd, Nat.reduceMul, Nat.reduceSub, ite_true, ite_false, if_true, if_false, eq_self, and_false, false_and, fa_s, fa_n, cfF, cfA, cfJ, cfB, cfR, mfF, mfA, mfJ, mfB, mfR, c_foundE, m_meetsE, fX11_isSheet, fX11_in, fX10_sheetAt, fX10_sheetAt_b22, fX10_textAt, fX10_textAt_b22, fX11_isText, fX2_has, fX11_isFeature, nar_byte, byte_i, lg_gt, lg_eq, lg_lt, all_A, sF_F, sF_A, sF_J, sF_B, sF_R, sF_all, sA_F, sA_A, sA_J, sA_B, sA_R, sA_all, sJ_F, sJ_A, sJ_J, sJ_B, sJ_R, sJ_all, sB_F, sB_A, sB_J, sB_B, sB_R, sB_all, sR_F, sR_A, sR_J, sR_B, sR_R, sR_all, fX11_handOf_l5, fX11_handOf_b49_5, fX11_handOf_b50_5, e6, c1, c2, c3]
          exact yes
      · have no := no (decide_eq_false (fun z => c2 z.2.1))
        simp (disch := omega) only [li0, li1, li2, li3, li4, li5, li6, li12, li13, li14, li15, li16, li17, li32, li33, li39, li60, li65, li90, li91, li93, li97, li100, li122, li126, li200, li800, li1000, li1400, li2800, li3432, li9999, li10000000, ↓lm1, ↓lm2, ↓lm3, ↓lm4, ↓lm9, le_T, le_F, lt_T, lt_F, eq_F, eq_T, vp_T, mle_F, mle_T, mlt_F, mlt_T, meq_F, meq_F', mne, aR, mR, sR', nI_clamp, br_nT, br_nF, ex_s, true_implies, false_implies, not_true_eq_false, not_false_eq_true, true_and, and_true, forall_eq, implies_true, and_self, reduceIte, reduceCtorEq, Nat.reduceEqDiff, Nat.reduceAdd, Nat.reduceMul, Nat.reduceSub, ite_true, ite_false, if_true, if_false, eq_self, and_false, false_and, fa_s, fa_n, cfF, cfA, cfJ, cfB, cfR, mfF, mfA, mfJ, mfB, mfR, c_foundE, m_meetsE, fX11_isSheet, fX11_in, fX10_sheetAt, fX10_sheetAt_b22, fX10_textAt, fX10_textAt_b22, fX11_isText, fX2_has, fX11_isFeature, nar_byte, byte_i, lg_gt, lg_eq, lg_lt, all_A, sF_F, sF_A, sF_J, sF_B, sF_R, sF_all, sA_F, sA_A, sA_J, sA_B, sA_R, sA_all, sJ_F, sJ_A, sJ_J, sJ_B, sJ_R, sJ_all, sB_F, sB_A, sB_J, sB_B, sB_R, sB_all, sR_F, sR_A, sR_J, sR_B, sR_R, sR_all, fX11_handOf_l5, fX11_handOf_b49_5, fX11_handOf_b50_5, e6, c1, c2]
        exact no
    · have no := no (decide_eq_false (fun z => c1 z.1))
      simp (disch := omega) only [li0, li1, li2, li3, li4, li5, li6, li12, li13, li14, li15, li16, li17, li32, li33, li39, li60, li65, li90, li91, li93, li97, li100, li122, li126, li200, li800, li1000, li1400, li2800, li3432, li9999, li10000000, ↓lm1, ↓lm2, ↓lm3, ↓lm4, ↓lm9, le_T, le_F, lt_T, lt_F, eq_F, eq_T, vp_T, mle_F, mle_T, mlt_F, mlt_T, meq_F, meq_F', mne, aR, mR, sR', nI_clamp, br_nT, br_nF, ex_s, true_implies, false_implies, not_true_eq_false, not_false_eq_true, true_and, and_true, forall_eq, implies_true, and_self, reduceIte, reduceCtorEq, Nat.reduceEqDiff, Nat.reduceAdd, Nat.reduceMul, Nat.reduceSub, ite_true, ite_false, if_true, if_false, eq_self, and_false, false_and, fa_s, fa_n, cfF, cfA, cfJ, cfB, cfR, mfF, mfA, mfJ, mfB, mfR, c_foundE, m_meetsE, fX11_isSheet, fX11_in, fX10_sheetAt, fX10_sheetAt_b22, fX10_textAt, fX10_textAt_b22, fX11_isText, fX2_has, fX11_isFeature, nar_byte, byte_i, lg_gt, lg_eq, lg_lt, all_A, sF_F, sF_A, sF_J, sF_B, sF_R, sF_all, sA_F, sA_A, sA_J, sA_B, sA_R, sA_all, sJ_F, sJ_A, sJ_J, sJ_B, sJ_R, sJ_all, sB_F, sB_A, sB_J, sB_B, sB_R, sB_all, sR_F, sR_A, sR_J, sR_B, sR_R, sR_all, fX11_handOf_l5, fX11_handOf_b49_5, fX11_handOf_b50_5, e6, c1]
      exact no
