/-- the class's rate of a tally -/
theorem crate_sp {N f T c w1 w2 so m : Nat} {σ : St} {Q : Int32 → St → Prop} (hf : f < m) (hm : m ≤ 12) (ft : Ft σ f) (es : sA σ 79 0 f = nI so) (hso : so < 4) (e29 : sA σ 29 T f = nI c) (e1 : sF σ 7 T 1 = nI w1) (e2 : sF σ 7 T 2 = nI w2) (h1 : w1 < 2 ^ 31) (h2 : w2 < 2 ^ 31) (h : Q (rateV c (if nI so = nI 0 then w2 else w1)) σ) : fX2_rateIn N σ T (nI f) Q := by
  obtain ⟨so', hso', es', -, e31, -⟩ := ft
  have ee : so' = so := (nI_eq (by omega) (by omega)).mp (es'.symm.trans es)
  subst ee
  simp only [fX2_rateIn, fX7_countOf, fX2_wholeOf, fX2_wholeOf_b29, fX10_thousandths]
  rcases Nat.eq_zero_or_pos so' with rfl | hs
  · rw [if_pos rfl] at h e31
    unfold rateV at h
    rcases Nat.eq_zero_or_pos w2 with rfl | hw
    · rw [if_pos rfl] at h
      simp (disch := omega) only [li0, li1, li2, li3, li4, li5, li6, li12, li13, li14, li15, li16, li17, li32, li33, li39, li60, li65, li90, li91, li93, li97, li100, li122, li126, li200, li800, li1000, li1400, li2800, li3432, li9999, li10000000, ↓lm1, ↓lm2, ↓lm3, ↓lm4, ↓lm9, le_T, le_F, lt_T, lt_F, eq_F, eq_T, vp_T, mle_F, mle_T, mlt_F, mlt_T, meq_F, meq_F', mne, aR, mR, sR', nI_clamp, br_nT, br_nF, ex_s, true_implies, false_implies, not_true_eq_false, not_false_eq_true, true_and, and_true, forall_eq, implies_true, and_self, reduceIte, reduceCtorEq, Nat.reduceEqDiff, Nat.reduceAdd, Nat.reduceMul, Nat.reduceSub, ite_true, ite_false, if_true, if_false, eq_self, and_false, false_and, fa_s, fa_n, cfF, cfA, cfJ, cfB, cfR, mfF, mfA, mfJ, mfB, mfR, c_foundE, m_meetsE, fX11_isSheet, fX11_in, fX10_sheetAt, fX10_sheetAt_b22, fX10_textAt, fX10_textAt_b22, fX11_isText, fX2_has, fX11_isFeature, nar_byte, byte_i, lg_gt, lg_eq, lg_lt, all_A, sF_F, sF_A, sF_J, sF_B, sF_R, sF_all, sA_F, sA_A, sA_J, sA_B, sA_R, sA_all, sJ_F, sJ_A, sJ_J, sJ_B, sJ_R, sJ_all, sB_F, sB_A, sB_J, sB_B, sB_R, sB_all, sR_F, sR_A, sR_J, sR_B, sR_R, sR_all, e29, e31, e2]
      exact h
    · rw [if_neg (by omega)] at h
      simp (disch := omega) only [li0, li1, li2, li3, li4, li5, li6, li12, li13, li14, li15, li16, li17, li32, li33, li39, li60, li65, li90, li91, li93, li97, li100, li122, li126, li200, li800, li1000, li1400, li2800, li3432, li9999, li10000000, ↓lm1, ↓lm2, ↓lm3, ↓lm4, ↓lm9, le_T, le_F, lt_T, lt_F, eq_F, eq_T, vp_T, mle_F, mle_T, mlt_F, mlt_T, meq_F, meq_F', mne, aR, mR, sR', nI_clamp, br_nT, br_nF, ex_s, true_implies, false_implies, not_true_eq_false, not_false_eq_true, true_and, and_true, forall_eq, implies_true, and_self, reduceIte, reduceCtorEq, Nat.reduceEqDiff, Nat.reduceAdd, Nat.reduceMul, Nat.reduceSub, ite_true, ite_false, if_true, if_false, eq_self, and_false, false_and, fa_s, fa_n, cfF, cfA, cfJ, cfB, cfR, mfF, mfA, mfJ, mfB, mfR, c_foundE, m_meetsE, fX11_isSheet, fX11_in, fX10_sheetAt, fX10_sheetAt_b22, fX10_textAt, fX10_textAt_b22, fX11_isText, fX2_has, fX11_isFeature, nar_byte, byte_i, lg_gt, lg_eq, lg_lt, all_A, sF_F, sF_A, sF_J, sF_B, sF_R, sF_all, sA_F, sA_A, sA_J, sA_B, sA_R, sA_all, sJ_F, sJ_A, sJ_J, sJ_B, sJ_R, sJ_all, sB_F, sB_A, sB_J, sB_B, sB_R, sB_all, sR_F, sR_A, sR_J, sR_B, sR_R, sR_all, e29, e31, e2]
      exact h
  · have ns : ¬ nI so' = nI 0 := fun e => absurd ((nI_eq (by omega) (by decide)).mp e) (by omega)
    rw [if_neg ns] at h
    rw [if_neg (by omega)] at e31
    unfold rateV at h
    rcases Nat.eq_zero_or_pos w1 with rfl | hw
    · rw [if_pos rfl] at h
      simp (disch := omega) only [li0, li1, li2, li3, li4, li5, li6, li12, li13, li14, li15, li16, li17, li32, li33, li39, li60, li65, li90, li91, li93, li97, li100, li122, li126, li200, li800, li1000, li1400, li2800, li3432, li9999, li10000000, ↓lm1, ↓lm2, ↓lm3, ↓lm4, ↓lm9, le_T, le_F, lt_T, lt_F, eq_F, eq_T, vp_T, mle_F, mle_T, mlt_F, mlt_T, meq_F, meq_F', mne, aR, mR, sR', nI_clamp, br_nT, br_nF, ex_s, true_implies, false_implies, not_true_eq_false, not_false_eq_true, true_and, and_true, forall_eq, implies_true, and_self, reduceIte, reduceCtorEq, Nat.reduceEqDiff, Nat.reduceAdd, Nat.reduceMul, Nat.reduceSub, ite_true, ite_false, if_true, if_false, eq_self, and_false, false_and, fa_s, fa_n, cfF, cfA, cfJ, cfB, cfR, mfF, mfA, mfJ, mfB, mfR, c_foundE, m_meetsE, fX11_isSheet, fX11_in, fX10_sheetAt, fX10_sheetAt_b22, fX10_textAt, fX10_textAt_b22, fX11_isText, fX2_has, fX11_isFeature, nar_byte, byte_i, lg_gt, lg_eq, lg_lt, all_A, sF_F, sF_A, sF_J, sF_B, sF_R, sF_all, sA_F, sA_A, sA_J, sA_B, sA_R, sA_all, sJ_F, sJ_A, sJ_J, sJ_B, sJ_R, sJ_all, sB_F, sB_A, sB_J, sB_B, sB_R, sB_all, sR_F, sR_A, sR_J, sR_B, sR_R, sR_all, e29, e31, e1]
      exact h
    · rw [if_neg (by omega)] at h
      simp (disch := omega) only [li0, li1, li2, li3, li4, li5, li6, li12, li13, li14, li15, li16, li17, li32, li33, li39, li60, li65, li90, li91, li93, li97, li100, li122, li126, li200, li800, li1000, li1400, li2800, li3432, li9999, li10000000, ↓lm1, ↓lm2, ↓lm3, ↓lm4, ↓lm9, le_T, le_F, lt_T, lt_F, eq_F, eq_T, vp_T, mle_F, mle_T, mlt_F, mlt_T, meq_F, meq_F', mne, aR, mR, sR', nI_clamp, br_nT, br_nF, ex_s, true_implies, false_implies, not_true_eq_false, not_false_eq_true, true_and, and_true, forall_eq, implies_true, and_self, reduceIte, reduceCtorEq, Nat.reduceEqDiff, Nat.reduceAdd, Nat.reduceMul, Nat.reduceSub, ite_true, ite_false, if_true, if_false, eq_self, and_false, false_and, fa_s, fa_n, cfF, cfA, cfJ, cfB, cfR, mfF, mfA, mfJ, mfB, mfR, c_foundE, m_meetsE, fX11_isSheet, fX11_in, fX10_sheetAt, fX10_sheetAt_b22, fX10_textAt, fX10_textAt_b22, fX11_isText, fX2_has, fX11_isFeature, nar_byte, byte_i, lg_gt, lg_eq, lg_lt, all_A, sF_F, sF_A, sF_J, sF_B, sF_R, sF_all, sA_F, sA_A, sA_J, sA_B, sA_R, sA_all, sJ_F, sJ_A, sJ_J, sJ_B, sJ_R, sJ_all, sB_F, sB_A, sB_J, sB_B, sB_R, sB_all, sR_F, sR_A, sR_J, sR_B, sR_R, sR_all, e29, e31, e1]
      exact h
/-- the rate of a feature in a text -/
def rt1 (σ : St) (f t : Nat) : Int32 := rateV (cnt σ f t) (wh σ f t)
theorem crate_t {N n m f t : Nat} {σ : St} {Q : Int32 → St → Prop} (ht : t < n) (hf : f < m) (hm : m ≤ 12) (g4 : G4 n σ) (g5 : G5 m σ) (g6 : G6 n m σ) (h : Q (rt1 σ f t) σ) : fX2_rateIn N σ t (nI f) Q := by
  have ft := g5 f hf
  obtain ⟨so, hso, es, -⟩ := id ft
  have tx := g4 t ht
  have b1 := tx.1.2.1
  have b2 := tx.1.2.2.1
  refine crate_sp hf hm ft es hso (g6 f t hf ht) tx.2.2.2.1.1 tx.2.2.2.1.2 (by omega) (by omega) ?_
  have e : wh σ f t = if nI so = nI 0 then mkM σ t else nwM σ t := by unfold wh; rw [es]
  rw [← e]; exact h
theorem mrate_t {N n m f t : Nat} {σ : St} {Q : Int32 → St → Prop} (hN : 1000 ≤ N) (rt : RT σ n m) (cf' : CF σ n m) (ht : t < n) (hf : f < m) (h : Q (rt1 σ f t) σ) : fX11_rateIn N σ (nI f) (nI 1 <<< (nI t &&& 31)) Q := by
  refine rateIn_sp hN rt cf' hf ?_
  have hn := rt.1
  have e : ∀ g : Nat → Nat, sb (bt (nI 1 <<< (nI t &&& 31))) g n = g t := by
    intro g
    rw [sb_c (q := fun s => decide (s = t)) (k := g) (fun i hi => bt_shl t (by omega) i (by omega)) (fun _ _ => rfl), sb_1 ht]
  rw [e, e]; exact h
theorem st10 {N : Nat} {σ : St} {L : List (Nat × Nat)} (hN : 1000 ≤ N) (h : Inv σ L) : S10 N Inv σ L := by
  intro a1 a2
  obtain ⟨n, m, hn, hm, gl, g1, g2, g3, g4, g5, g6, g7, g8⟩ := id h
  have e6 := g1.2.1
  have e2 := g1.2.2.1
  have e18 := g1.2.2.2.1
  simp only [fX10_rate, fX11_rate, fX11_askedFor]
  rcases pk3 a2 n (by omega) with hb | ⟨t, ht, rfl⟩
  · simp only [tx_n hn g1 hb]
    rcases pk3 a1 m (by omega) with hb1 | ⟨f, hf, rfl⟩
    · simp only [if_n hm g1 hb1]
      simp (disch := omega) only [li0, li1, li2, li3, li4, li5, li6, li12, li13, li14, li15, li16, li17, li32, li33, li39, li60, li65, li90, li91, li93, li97, li100, li122, li126, li200, li800, li1000, li1400, li2800, li3432, li9999, li10000000, ↓lm1, ↓lm2, ↓lm3, ↓lm4, ↓lm9, le_T, le_F, lt_T, lt_F, eq_F, eq_T, vp_T, mle_F, mle_T, mlt_F, mlt_T, meq_F, meq_F', mne, aR, mR, sR', nI_clamp, br_nT, br_nF, ex_s, true_implies, false_implies, not_true_eq_false, not_false_eq_true, true_and, and_true, forall_eq, implies_true, and_self, reduceIte, reduceCtorEq, Nat.reduceEqDiff, Nat.reduceAdd, Nat.reduceMul, Nat.reduceSub, ite_true, ite_false, if_true, if_false, eq_self, and_false, false_and, fa_s, fa_n, cfF, cfA, cfJ, cfB, cfR, mfF, mfA, mfJ, mfB, mfR, c_foundE, m_meetsE, fX11_isSheet, fX11_in, fX10_sheetAt, fX10_sheetAt_b22, fX10_textAt, fX10_textAt_b22, fX11_isText, fX2_has, fX11_isFeature, nar_byte, byte_i, lg_gt, lg_eq, lg_lt, all_A, sF_F, sF_A, sF_J, sF_B, sF_R, sF_all, sA_F, sA_A, sA_J, sA_B, sA_R, sA_all, sJ_F, sJ_A, sJ_J, sJ_B, sJ_R, sJ_all, sB_F, sB_A, sB_J, sB_B, sB_R, sB_all, sR_F, sR_A, sR_J, sR_B, sR_R, sR_all]
      exact h
    · have hi : ∀ Q : Int32 → St → Prop, fX11_isText N σ a2 Q = Q (nI 0) σ := fun Q => it_n hn g1 hb
      simp (disch := omega) only [li0, li1, li2, li3, li4, li5, li6, li12, li13, li14, li15, li16, li17, li32, li33, li39, li60, li65, li90, li91, li93, li97, li100, li122, li126, li200, li800, li1000, li1400, li2800, li3432, li9999, li10000000, ↓lm1, ↓lm2, ↓lm3, ↓lm4, ↓lm9, le_T, le_F, lt_T, lt_F, eq_F, eq_T, vp_T, mle_F, mle_T, mlt_F, mlt_T, meq_F, meq_F', mne, aR, mR, sR', nI_clamp, br_nT, br_nF, ex_s, true_implies, false_implies, not_true_eq_false, not_false_eq_true, true_and, and_true, forall_eq, implies_true, and_self, reduceIte, reduceCtorEq, Nat.reduceEqDiff, Nat.reduceAdd, Nat.reduceMul, Nat.reduceSub, ite_true, ite_false, if_true, if_false, eq_self, and_false, false_and, fa_s, fa_n, cfF, cfA, cfJ, cfB, cfR, mfF, mfA, mfJ, mfB, mfR, c_foundE, m_meetsE, nar_byte, byte_i, lg_gt, lg_eq, lg_lt, all_A, sF_F, sF_A, sF_J, sF_B, sF_R, sF_all, sA_F, sA_A, sA_J, sA_B, sA_R, sA_all, sJ_F, sJ_A, sJ_J, sJ_B, sJ_R, sJ_all, sB_F, sB_A, sB_J, sB_B, sB_R, sB_all, sR_F, sR_A, sR_J, sR_B, sR_R, sR_all, e18, hi, fX11_isFeature, fX11_in]
      exact h
  · have r : sR σ 21 0 t = some t := by rw [g1.2.2.2.2.2.1 t, if_pos ht]
    rcases pk3 a1 m (by omega) with hb1 | ⟨f, hf, rfl⟩
    · have hh : ∀ Q : Int32 → St → Prop, fX2_has N σ a1 Q = Q (nI 0) σ := fun Q => has_n hm g1 hb1
      have hi : ∀ Q : Int32 → St → Prop, fX11_isFeature N σ a1 Q = Q (nI 0) σ := fun Q => if_n hm g1 hb1
      simp (disch := omega) only [li0, li1, li2, li3, li4, li5, li6, li12, li13, li14, li15, li16, li17, li32, li33, li39, li60, li65, li90, li91, li93, li97, li100, li122, li126, li200, li800, li1000, li1400, li2800, li3432, li9999, li10000000, ↓lm1, ↓lm2, ↓lm3, ↓lm4, ↓lm9, le_T, le_F, lt_T, lt_F, eq_F, eq_T, vp_T, mle_F, mle_T, mlt_F, mlt_T, meq_F, meq_F', mne, aR, mR, sR', nI_clamp, br_nT, br_nF, ex_s, true_implies, false_implies, not_true_eq_false, not_false_eq_true, true_and, and_true, forall_eq, implies_true, and_self, reduceIte, reduceCtorEq, Nat.reduceEqDiff, Nat.reduceAdd, Nat.reduceMul, Nat.reduceSub, ite_true, ite_false, if_true, if_false, eq_self, and_false, false_and, fa_s, fa_n, cfF, cfA, cfJ, cfB, cfR, mfF, mfA, mfJ, mfB, mfR, c_foundE, m_meetsE, nar_byte, byte_i, lg_gt, lg_eq, lg_lt, all_A, sF_F, sF_A, sF_J, sF_B, sF_R, sF_all, sA_F, sA_A, sA_J, sA_B, sA_R, sA_all, sJ_F, sJ_A, sJ_J, sJ_B, sJ_R, sJ_all, sB_F, sB_A, sB_J, sB_B, sB_R, sB_all, sR_F, sR_A, sR_J, sR_B, sR_R, sR_all, hh, hi, fX10_textAt, r]
      exact h
    · have x5 := (g4 t ht).2.2.2.2.1.2.2.2
      rcases (g4 t ht).2.2.2.2.2.1.1 with w | w
      · have w : sA σ 70 0 t = nI 0 := w
        simp (disch := omega) only [li0, li1, li2, li3, li4, li5, li6, li12, li13, li14, li15, li16, li17, li32, li33, li39, li60, li65, li90, li91, li93, li97, li100, li122, li126, li200, li800, li1000, li1400, li2800, li3432, li9999, li10000000, ↓lm1, ↓lm2, ↓lm3, ↓lm4, ↓lm9, le_T, le_F, lt_T, lt_F, eq_F, eq_T, vp_T, mle_F, mle_T, mlt_F, mlt_T, meq_F, meq_F', mne, aR, mR, sR', nI_clamp, br_nT, br_nF, ex_s, true_implies, false_implies, not_true_eq_false, not_false_eq_true, true_and, and_true, forall_eq, implies_true, and_self, reduceIte, reduceCtorEq, Nat.reduceEqDiff, Nat.reduceAdd, Nat.reduceMul, Nat.reduceSub, ite_true, ite_false, if_true, if_false, eq_self, and_false, false_and, fa_s, fa_n, cfF, cfA, cfJ, cfB, cfR, mfF, mfA, mfJ, mfB, mfR, c_foundE, m_meetsE, fX11_isSheet, fX11_in, fX10_sheetAt, fX10_sheetAt_b22, fX10_textAt, fX10_textAt_b22, fX11_isText, fX2_has, fX11_isFeature, nar_byte, byte_i, lg_gt, lg_eq, lg_lt, all_A, sF_F, sF_A, sF_J, sF_B, sF_R, sF_all, sA_F, sA_A, sA_J, sA_B, sA_R, sA_all, sJ_F, sJ_A, sJ_J, sJ_B, sJ_R, sJ_all, sB_F, sB_A, sB_J, sB_B, sB_R, sB_all, sR_F, sR_A, sR_J, sR_B, sR_R, sR_all, r, e6, e2, e18, x5, w]
        refine crate_t ht hf hm g4 g5 g6 ?_
        simp (disch := omega) only [li0, li1, li2, li3, li4, li5, li6, li12, li13, li14, li15, li16, li17, li32, li33, li39, li60, li65, li90, li91, li93, li97, li100, li122, li126, li200, li800, li1000, li1400, li2800, li3432, li9999, li10000000, ↓lm1, ↓lm2, ↓lm3, ↓lm4, ↓lm9, le_T, le_F, lt_T, lt_F, eq_F, eq_T, vp_T, mle_F, mle_T, mlt_F, mlt_T, meq_F, meq_F', mne, aR, mR, sR', nI_clamp, br_nT, br_nF, ex_s, true_implies, false_implies, not_true_eq_false, not_false_eq_true, true_and, and_true, forall_eq, implies_true, and_self, reduceIte, reduceCtorEq, Nat.reduceEqDiff, Nat.reduceAdd, Nat.reduceMul, Nat.reduceSub, ite_true, ite_false, if_true, if_false, eq_self, and_false, false_and, fa_s, fa_n, cfF, cfA, cfJ, cfB, cfR, mfF, mfA, mfJ, mfB, mfR, c_foundE, m_meetsE, fX11_isSheet, fX11_in, fX10_sheetAt, fX10_sheetAt_b22, fX10_textAt, fX10_textAt_b22, fX11_isText, fX2_has, fX11_isFeature, nar_byte, byte_i, lg_gt, lg_eq, lg_lt, all_A, sF_F, sF_A, sF_J, sF_B, sF_R, sF_all, sA_F, sA_A, sA_J, sA_B, sA_R, sA_all, sJ_F, sJ_A, sJ_J, sJ_B, sJ_R, sJ_all, sB_F, sB_A, sB_J, sB_B, sB_R, sB_all, sR_F, sR_A, sR_J, sR_B, sR_R, sR_all, e6, e18, w]
        have rt := RT_of hn hm g1 g4 g5
        refine setCounts_sp hN rt (fun F hF => ?_)
        refine mrate_t hN (RT_c rt SM_83) hF ht hf ?_
        refine ⟨?_, inv_same h (same_all rfl)⟩
        unfold rt1 wh
        rw [(SM_83 (σ := σ) (F := F)).f.2.2.2.2.2, (SM_83 (σ := σ) (F := F)).f.2.1, (SM_83 (σ := σ) (F := F)).f.2.2.1, (SM_83 (σ := σ) (F := F)).2 79 (by decide) (by decide)]
      · have w : sA σ 70 0 t = nI 1 := w
        simp (disch := omega) only [li0, li1, li2, li3, li4, li5, li6, li12, li13, li14, li15, li16, li17, li32, li33, li39, li60, li65, li90, li91, li93, li97, li100, li122, li126, li200, li800, li1000, li1400, li2800, li3432, li9999, li10000000, ↓lm1, ↓lm2, ↓lm3, ↓lm4, ↓lm9, le_T, le_F, lt_T, lt_F, eq_F, eq_T, vp_T, mle_F, mle_T, mlt_F, mlt_T, meq_F, meq_F', mne, aR, mR, sR', nI_clamp, br_nT, br_nF, ex_s, true_implies, false_implies, not_true_eq_false, not_false_eq_true, true_and, and_true, forall_eq, implies_true, and_self, reduceIte, reduceCtorEq, Nat.reduceEqDiff, Nat.reduceAdd, Nat.reduceMul, Nat.reduceSub, ite_true, ite_false, if_true, if_false, eq_self, and_false, false_and, fa_s, fa_n, cfF, cfA, cfJ, cfB, cfR, mfF, mfA, mfJ, mfB, mfR, c_foundE, m_meetsE, fX11_isSheet, fX11_in, fX10_sheetAt, fX10_sheetAt_b22, fX10_textAt, fX10_textAt_b22, fX11_isText, fX2_has, fX11_isFeature, nar_byte, byte_i, lg_gt, lg_eq, lg_lt, all_A, sF_F, sF_A, sF_J, sF_B, sF_R, sF_all, sA_F, sA_A, sA_J, sA_B, sA_R, sA_all, sJ_F, sJ_A, sJ_J, sJ_B, sJ_R, sJ_all, sB_F, sB_A, sB_J, sB_B, sB_R, sB_all, sR_F, sR_A, sR_J, sR_B, sR_R, sR_all, r, e6, e2, e18, x5, w]; exact inv_cm h 1
