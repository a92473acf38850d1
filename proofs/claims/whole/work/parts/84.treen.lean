theorem mfind_in {N n m srt a : Nat} {σ s : St} {mm : Nat → Int32} {x0 : Int32 × Int32 × Int32} {Q : St → Prop} {K0 : St → Int32 → Int32 → Int32 → Int32 → Prop} (hN : 1000 ≤ N) (rt : RT s n m) (er : ∀ x, rtM s n x = rtM σ n x) (cf' : CF s n m) (e24 : sF s 11 0 24 = nI srt) (hs : srt < 2) (e91 : ∀ i, i < n → sA s 91 0 i = mm i) (ha : a < n) (pf : PF mm (fm σ n m srt) n x0) (h : K0 s (inS mm (fm σ n m srt) a x0 n).1 (inS mm (fm σ n m srt) a x0 n).2.1 (inS mm (fm σ n m srt) a x0 n).2.2 (nI a)) : fX11_joinTwo_l26 N Q K0 N s x0.1 x0.2.1 x0.2.2 (nI a) (nI (a + 1)) := by
  obtain ⟨hn, hm, e6, e18, -⟩ := id rt
  refine lpU (fun k i (x : Int32 × Int32 × Int32) => fX11_joinTwo_l26 N Q K0 k s x.1 x.2.1 x.2.2 (nI a) (nI i)) (fun i x => a < i ∧ x = inS mm (fm σ n m srt) a x0 i) n N ?_ ?_ (a + 1) x0 (by omega) (by omega) ⟨by omega, (inS_a _ (Nat.le_refl _)).symm⟩
  · rintro k x ⟨-, rfl⟩
    simp (disch := omega) only [li0, li1, li2, li3, li4, li5, li6, li12, li13, li14, li15, li16, li17, li32, li33, li39, li60, li65, li90, li91, li93, li97, li100, li122, li126, li200, li800, li1000, li1400, li2800, li3432, li9999, li10000000, ↓lm1, ↓lm2, ↓lm3, ↓lm4, ↓lm9, le_T, le_F, lt_T, lt_F, eq_F, eq_T, vp_T, mle_F, mle_T, mlt_F, mlt_T, meq_F, meq_F', mne, aR, mR, sR', nI_clamp, br_nT, br_nF, ex_s, true_implies, false_implies, not_true_eq_false, not_false_eq_true, true_and, and_true, forall_eq, implies_true, and_self, reduceIte, reduceCtorEq, Nat.reduceEqDiff, Nat.reduceAdd, Nat.reduceMul, Nat.reduceSub, ite_true, ite_false, if_true, if_false, eq_self, and_false, false_and, fa_s, fa_n, cfF, cfA, cfJ, cfB, cfR, mfF, mfA, mfJ, mfB, mfR, c_foundE, m_meetsE, fX11_isSheet, fX11_in, fX10_sheetAt, fX10_sheetAt_b22, fX10_textAt, fX10_textAt_b22, fX11_isText, fX2_has, fX11_isFeature, nar_byte, byte_i, lg_gt, lg_eq, lg_lt, all_A, sF_F, sF_A, sF_J, sF_B, sF_R, sF_all, sA_F, sA_A, sA_J, sA_B, sA_R, sA_all, sJ_F, sJ_A, sJ_J, sJ_B, sJ_R, sJ_all, sB_F, sB_A, sB_J, sB_B, sB_R, sB_all, sR_F, sR_A, sR_J, sR_B, sR_R, sR_all, fX11_joinTwo_l26, e6]
    exact h
  · rintro k i x hi ⟨hai, rfl⟩ K
    have K := fun x (q : x = (if a < i ∧ mm a ≠ nI 0 ∧ mm i ≠ nI 0 ∧ ((inS mm (fm σ n m srt) a x0 i).1 = mI 9 ∨ fm σ n m srt (mm a) (mm i) < (inS mm (fm σ n m srt) a x0 i).2.2) then (nI a, nI i, fm σ n m srt (mm a) (mm i)) else inS mm (fm σ n m srt) a x0 i)) => K x ⟨by omega, by rw [inS_s]; exact q⟩
    have ea := e91 a ha
    have ei := e91 i hi
    by_cases ma : mm a = nI 0
    · have K := K _ (by rw [if_neg (fun z => z.2.1 ma)])
      simp (disch := omega) only [li0, li1, li2, li3, li4, li5, li6, li12, li13, li14, li15, li16, li17, li32, li33, li39, li60, li65, li90, li91, li93, li97, li100, li122, li126, li200, li800, li1000, li1400, li2800, li3432, li9999, li10000000, ↓lm1, ↓lm2, ↓lm3, ↓lm4, ↓lm9, le_T, le_F, lt_T, lt_F, eq_F, eq_T, vp_T, mle_F, mle_T, mlt_F, mlt_T, meq_F, meq_F', mne, aR, mR, sR', nI_clamp, br_nT, br_nF, ex_s, true_implies, false_implies, not_true_eq_false, not_false_eq_true, true_and, and_true, forall_eq, implies_true, and_self, reduceIte, reduceCtorEq, Nat.reduceEqDiff, Nat.reduceAdd, Nat.reduceMul, Nat.reduceSub, ite_true, ite_false, if_true, if_false, eq_self, and_false, false_and, fa_s, fa_n, cfF, cfA, cfJ, cfB, cfR, mfF, mfA, mfJ, mfB, mfR, c_foundE, m_meetsE, fX11_isSheet, fX11_in, fX10_sheetAt, fX10_sheetAt_b22, fX10_textAt, fX10_textAt_b22, fX11_isText, fX2_has, fX11_isFeature, nar_byte, byte_i, lg_gt, lg_eq, lg_lt, all_A, sF_F, sF_A, sF_J, sF_B, sF_R, sF_all, sA_F, sA_A, sA_J, sA_B, sA_R, sA_all, sJ_F, sJ_A, sJ_J, sJ_B, sJ_R, sJ_all, sB_F, sB_A, sB_J, sB_B, sB_R, sB_all, sR_F, sR_A, sR_J, sR_B, sR_R, sR_all, fX11_joinTwo_l26, fX11_joinTwo_b98_26, fX11_joinTwo_b89_26, e6, ea, ma]
      exact K
    · by_cases mi : mm i = nI 0
      · have K := K _ (by rw [if_neg (fun z => z.2.2.1 mi)])
        simp (disch := omega) only [li0, li1, li2, li3, li4, li5, li6, li12, li13, li14, li15, li16, li17, li32, li33, li39, li60, li65, li90, li91, li93, li97, li100, li122, li126, li200, li800, li1000, li1400, li2800, li3432, li9999, li10000000, ↓lm1, ↓lm2, ↓lm3, ↓lm4, ↓lm9, le_T, le_F, lt_T, lt_F, eq_F, eq_T, vp_T, mle_F, mle_T, mlt_F, mlt_T, meq_F, meq_F', mne, aR, mR, sR', nI_clamp, br_nT, br_nF, ex_s, true_implies, false_implies, not_true_eq_false, not_false_eq_true, true_and, and_true, forall_eq, implies_true, and_self, reduceIte, reduceCtorEq, Nat.reduceEqDiff, Nat.reduceAdd, Nat.reduceMul, Nat.reduceSub, ite_true, ite_false, if_true, if_false, eq_self, and_false, false_and, fa_s, fa_n, cfF, cfA, cfJ, cfB, cfR, mfF, mfA, mfJ, mfB, mfR, c_foundE, m_meetsE, fX11_isSheet, fX11_in, fX10_sheetAt, fX10_sheetAt_b22, fX10_textAt, fX10_textAt_b22, fX11_isText, fX2_has, fX11_isFeature, nar_byte, byte_i, lg_gt, lg_eq, lg_lt, all_A, sF_F, sF_A, sF_J, sF_B, sF_R, sF_all, sA_F, sA_A, sA_J, sA_B, sA_R, sA_all, sJ_F, sJ_A, sJ_J, sJ_B, sJ_R, sJ_all, sB_F, sB_A, sB_J, sB_B, sB_R, sB_all, sR_F, sR_A, sR_J, sR_B, sR_R, sR_all, fX11_joinTwo_l26, fX11_joinTwo_b98_26, fX11_joinTwo_b89_26, e6, ea, ma, ei, mi]
        exact K
      · simp (disch := omega) only [li0, li1, li2, li3, li4, li5, li6, li12, li13, li14, li15, li16, li17, li32, li33, li39, li60, li65, li90, li91, li93, li97, li100, li122, li126, li200, li800, li1000, li1400, li2800, li3432, li9999, li10000000, ↓lm1, ↓lm2, ↓lm3, ↓lm4, ↓lm9, le_T, le_F, lt_T, lt_F, eq_F, eq_T, vp_T, mle_F, mle_T, mlt_F, mlt_T, meq_F, meq_F', mne, aR, mR, sR', nI_clamp, br_nT, br_nF, ex_s, true_implies, false_implies, not_true_eq_false, not_false_eq_true, true_and, and_true, forall_eq, implies_true, and_self, reduceIte, reduceCtorEq, Nat.reduceEqDiff, Nat.reduceAdd, Nat.reduceMul, Nat.reduceSub, ite_true, ite_false, if_true, if_false, eq_self, and_false, false_and, fa_s, fa_n, cfF, cfA, cfJ, cfB, cfR, mfF, mfA, mfJ, mfB, mfR, c_foundE, m_meetsE, fX11_isSheet, fX11_in, fX10_sheetAt, fX10_sheetAt_b22, fX10_textAt, fX10_textAt_b22, fX11_isText, fX2_has, fX11_isFeature, nar_byte, byte_i, lg_gt, lg_eq, lg_lt, all_A, sF_F, sF_A, sF_J, sF_B, sF_R, sF_all, sA_F, sA_A, sA_J, sA_B, sA_R, sA_all, sJ_F, sJ_A, sJ_J, sJ_B, sJ_R, sJ_all, sB_F, sB_A, sB_J, sB_B, sB_R, sB_all, sR_F, sR_A, sR_J, sR_B, sR_R, sR_all, fX11_joinTwo_l26, fX11_joinTwo_b98_26, fX11_joinTwo_b89_26, e6, ea, ma, ei, mi, fX11_allFeatures, e18]
        refine farOf_sp hN rt cf' e24 hs ?_
        have ef : nI (sb (bt ((nI 1 <<< (nI m &&& 31)) - nI 1)) (fun f => dN srt (rtM s n (mm a) f) (rtM s n (mm i) f)) m) = fm σ n m srt (mm a) (mm i) := by
          unfold fm
          rw [er, er]
          congr 1
          refine sb_c (fun q hq => ?_) (fun _ _ => rfl)
          rw [bt_m1 q (by omega), bt_all m (by omega) q (by omega), decide_eq_true hq]
        rw [ef]
        rcases PF_1 hn (PF_in (a := a) pf i (by omega)) with e | ⟨b, hb, e⟩
        · have K := K _ (by rw [if_pos ⟨hai, ma, mi, Or.inl e⟩])
          have n9 : mI 9 < nI 0 := by decide
          simp (disch := omega) only [li0, li1, li2, li3, li4, li5, li6, li12, li13, li14, li15, li16, li17, li32, li33, li39, li60, li65, li90, li91, li93, li97, li100, li122, li126, li200, li800, li1000, li1400, li2800, li3432, li9999, li10000000, ↓lm1, ↓lm2, ↓lm3, ↓lm4, ↓lm9, le_T, le_F, lt_T, lt_F, eq_F, eq_T, vp_T, mle_F, mle_T, mlt_F, mlt_T, meq_F, meq_F', mne, aR, mR, sR', nI_clamp, br_nT, br_nF, ex_s, true_implies, false_implies, not_true_eq_false, not_false_eq_true, true_and, and_true, forall_eq, implies_true, and_self, reduceIte, reduceCtorEq, Nat.reduceEqDiff, Nat.reduceAdd, Nat.reduceMul, Nat.reduceSub, ite_true, ite_false, if_true, if_false, eq_self, and_false, false_and, fa_s, fa_n, cfF, cfA, cfJ, cfB, cfR, mfF, mfA, mfJ, mfB, mfR, c_foundE, m_meetsE, fX11_isSheet, fX11_in, fX10_sheetAt, fX10_sheetAt_b22, fX10_textAt, fX10_textAt_b22, fX11_isText, fX2_has, fX11_isFeature, nar_byte, byte_i, lg_gt, lg_eq, lg_lt, all_A, sF_F, sF_A, sF_J, sF_B, sF_R, sF_all, sA_F, sA_A, sA_J, sA_B, sA_R, sA_all, sJ_F, sJ_A, sJ_J, sJ_B, sJ_R, sJ_all, sB_F, sB_A, sB_J, sB_B, sB_R, sB_all, sR_F, sR_A, sR_J, sR_B, sR_R, sR_all, e, n9]
          exact K
        · have n9 : ¬ (inS mm (fm σ n m srt) a x0 i).1 = mI 9 := by rw [e]; exact ne9 (by omega)
          by_cases c : fm σ n m srt (mm a) (mm i) < (inS mm (fm σ n m srt) a x0 i).2.2
          · have K := K _ (by rw [if_pos ⟨hai, ma, mi, Or.inr c⟩])
            have c' : ¬ (inS mm (fm σ n m srt) a x0 i).2.2 ≤ fm σ n m srt (mm a) (mm i) := Int32.not_le.mpr c
            simp (disch := omega) only [li0, li1, li2, li3, li4, li5, li6, li12, li13, li14, li15, li16, li17, li32, li33, li39, li60, li65, li90, li91, li93, li97, li100, li122, li126, li200, li800, li1000, li1400, li2800, li3432, li9999, li10000000, ↓lm1, ↓lm2, ↓lm3, ↓lm4, ↓lm9, le_T, le_F, lt_T, lt_F, eq_F, eq_T, vp_T, mle_F, mle_T, mlt_F, mlt_T, meq_F, meq_F', mne, aR, mR, sR', nI_clamp, br_nT, br_nF, ex_s, true_implies, false_implies, not_true_eq_false, not_false_eq_true, true_and, and_true, forall_eq, implies_true, and_self, reduceIte, reduceCtorEq, Nat.reduceEqDiff, Nat.reduceAdd, Nat.reduceMul, Nat.reduceSub, ite_true, ite_false, if_true, if_false, eq_self, and_false, false_and, fa_s, fa_n, cfF, cfA, cfJ, cfB, cfR, mfF, mfA, mfJ, mfB, mfR, c_foundE, m_meetsE, fX11_isSheet, fX11_in, fX10_sheetAt, fX10_sheetAt_b22, fX10_textAt, fX10_textAt_b22, fX11_isText, fX2_has, fX11_isFeature, nar_byte, byte_i, lg_gt, lg_eq, lg_lt, all_A, sF_F, sF_A, sF_J, sF_B, sF_R, sF_all, sA_F, sA_A, sA_J, sA_B, sA_R, sA_all, sJ_F, sJ_A, sJ_J, sJ_B, sJ_R, sJ_all, sB_F, sB_A, sB_J, sB_B, sB_R, sB_all, sR_F, sR_A, sR_J, sR_B, sR_R, sR_all, e, c']
            exact K
          · have K := K _ (by rw [if_neg (fun z => z.2.2.2.elim n9 c)])
            have c' : (inS mm (fm σ n m srt) a x0 i).2.2 ≤ fm σ n m srt (mm a) (mm i) := Int32.not_lt.mp c
            rw [e] at K
            simp (disch := omega) only [li0, li1, li2, li3, li4, li5, li6, li12, li13, li14, li15, li16, li17, li32, li33, li39, li60, li65, li90, li91, li93, li97, li100, li122, li126, li200, li800, li1000, li1400, li2800, li3432, li9999, li10000000, ↓lm1, ↓lm2, ↓lm3, ↓lm4, ↓lm9, le_T, le_F, lt_T, lt_F, eq_F, eq_T, vp_T, mle_F, mle_T, mlt_F, mlt_T, meq_F, meq_F', mne, aR, mR, sR', nI_clamp, br_nT, br_nF, ex_s, true_implies, false_implies, not_true_eq_false, not_false_eq_true, true_and, and_true, forall_eq, implies_true, and_self, reduceIte, reduceCtorEq, Nat.reduceEqDiff, Nat.reduceAdd, Nat.reduceMul, Nat.reduceSub, ite_true, ite_false, if_true, if_false, eq_self, and_false, false_and, fa_s, fa_n, cfF, cfA, cfJ, cfB, cfR, mfF, mfA, mfJ, mfB, mfR, c_foundE, m_meetsE, fX11_isSheet, fX11_in, fX10_sheetAt, fX10_sheetAt_b22, fX10_textAt, fX10_textAt_b22, fX11_isText, fX2_has, fX11_isFeature, nar_byte, byte_i, lg_gt, lg_eq, lg_lt, all_A, sF_F, sF_A, sF_J, sF_B, sF_R, sF_all, sA_F, sA_A, sA_J, sA_B, sA_R, sA_all, sJ_F, sJ_A, sJ_J, sJ_B, sJ_R, sJ_all, sB_F, sB_A, sB_J, sB_B, sB_R, sB_all, sR_F, sR_A, sR_J, sR_B, sR_R, sR_all, e, c']
            exact K
theorem mfind_sp {N n m srt : Nat} {σ s : St} {mm : Nat → Int32} {Q : St → Prop} {K0 : St → Int32 → Int32 → Int32 → Prop} (hN : 1000 ≤ N) (rt : RT s n m) (er : ∀ x, rtM s n x = rtM σ n x) (cf' : CF s n m) (e24 : sF s 11 0 24 = nI srt) (hs : srt < 2) (e91 : ∀ i, i < n → sA s 91 0 i = mm i) (h : K0 s (ouS mm (fm σ n m srt) n n).1 (ouS mm (fm σ n m srt) n n).2.1 (ouS mm (fm σ n m srt) n n).2.2) : fX11_joinTwo_l11 N Q K0 N s (mI 9) (mI 9) (nI 0) (nI 0) := by
  obtain ⟨hn, hm, e6, e18, -⟩ := id rt
  refine lpU (fun k i (x : Int32 × Int32 × Int32) => fX11_joinTwo_l11 N Q K0 k s x.1 x.2.1 x.2.2 (nI i)) (fun i x => x = ouS mm (fm σ n m srt) n i) n N ?_ ?_ 0 (mI 9, mI 9, nI 0) (by omega) (by omega) rfl
  · rintro k x rfl
    simp (disch := omega) only [li0, li1, li2, li3, li4, li5, li6, li12, li13, li14, li15, li16, li17, li32, li33, li39, li60, li65, li90, li91, li93, li97, li100, li122, li126, li200, li800, li1000, li1400, li2800, li3432, li9999, li10000000, ↓lm1, ↓lm2, ↓lm3, ↓lm4, ↓lm9, le_T, le_F, lt_T, lt_F, eq_F, eq_T, vp_T, mle_F, mle_T, mlt_F, mlt_T, meq_F, meq_F', mne, aR, mR, sR', nI_clamp, br_nT, br_nF, ex_s, true_implies, false_implies, not_true_eq_false, not_false_eq_true, true_and, and_true, forall_eq, implies_true, and_self, reduceIte, reduceCtorEq, Nat.reduceEqDiff, Nat.reduceAdd, Nat.reduceMul, Nat.reduceSub, ite_true, ite_false, if_true, if_false, eq_self, and_false, false_and, fa_s, fa_n, cfF, cfA, cfJ, cfB, cfR, mfF, mfA, mfJ, mfB, mfR, c_foundE, m_meetsE, fX11_isSheet, fX11_in, fX10_sheetAt, fX10_sheetAt_b22, fX10_textAt, fX10_textAt_b22, fX11_isText, fX2_has, fX11_isFeature, nar_byte, byte_i, lg_gt, lg_eq, lg_lt, all_A, sF_F, sF_A, sF_J, sF_B, sF_R, sF_all, sA_F, sA_A, sA_J, sA_B, sA_R, sA_all, sJ_F, sJ_A, sJ_J, sJ_B, sJ_R, sJ_all, sB_F, sB_A, sB_J, sB_B, sB_R, sB_all, sR_F, sR_A, sR_J, sR_B, sR_R, sR_all, fX11_joinTwo_l11, e6]
    exact h
  · rintro k i x hi rfl K
    have K := K _ rfl
    simp only [fX11_joinTwo_l11, e6]
    refine ⟨fun c => absurd c (nI_ge hi (by omega)), fun _ => ?_⟩
    rw [show nI i + 1 = nI (i + 1) from nI_add i 1]
    refine mfind_in hN rt er cf' e24 hs e91 hi (PF_ou i) ?_
    rw [show nI i + 1 = nI (i + 1) from nI_add i 1]
    exact K
/-- the reference's tree behind k joins, the class's end being s1 -/
def MK (σ s1 s : St) (n m srt k : Nat) : Prop := RR s1 s ∧ CF s n m ∧ sF s 11 0 29 = nI k ∧ (∀ i, i < n → sA s 91 0 i = ms (fm σ n m srt) n (ms0 σ n) k i) ∧ ∀ q, q < k → sA s 90 0 (3 * q) = (ouS (ms (fm σ n m srt) n (ms0 σ n) q) (fm σ n m srt) n n).1 ∧ sA s 90 0 (3 * q + 1) = (ouS (ms (fm σ n m srt) n (ms0 σ n) q) (fm σ n m srt) n n).2.1 ∧ sA s 90 0 (3 * q + 2) = (ouS (ms (fm σ n m srt) n (ms0 σ n) q) (fm σ n m srt) n n).2.2
theorem CF_c {s s' : St} {n m : Nat} (h : CF s n m) (e : sA s' 83 = sA s 83) (ec : cnt s' = cnt s) : CF s' n m := by
  intro t f ht hf; rw [e, ec]; exact h t f ht hf
theorem rr_x {σ s1 s : St} {n m : Nat} (rt : RT σ n m) (rs : RS σ s1) (rr : RR s1 s) : RT s n m ∧ (∀ x, rtM s n x = rtM σ n x) ∧ cnt s = cnt σ := by
  refine SMx (fun j hj => ?_) (fun K h1 h2 => ?_) rt
  · rw [rr.1 11 0 j (fun z => hj z.2), rs.1]
  · rw [rr.2.1 K (by omega) (by omega) (by omega), rs.2.1 K (by omega)]
theorem mjoin_sp {N n m srt k a b : Nat} {σ s1 s : St} {v : Int32} {Q : St → Prop} (hN : 1000 ≤ N) (rt : RT σ n m) (sr : SR σ srt) (rs : RS σ s1) (hk : k < 13) (mk : MK σ s1 s n m srt k) (hab : a < b) (hb : b < n) (eo : ouS (ms (fm σ n m srt) n (ms0 σ n) k) (fm σ n m srt) n n = (nI a, nI b, v)) (h : ∀ s2, MK σ s1 s2 n m srt (k + 1) → Q s2) : fX11_joinTwo N s Q := by
  have hn := rt.1
  obtain ⟨rr, cf', e29, e91, e90⟩ := mk
  obtain ⟨rt2, er, ec⟩ := rr_x rt rs rr
  have e24 : sF s 11 0 24 = nI srt := by rw [rr.1 11 0 24 (by decide), rs.1]; exact sr.2.2
  unfold fX11_joinTwo
  refine mfind_sp hN rt2 er cf' e24 sr.1 e91 ?_
  rw [eo]
  have ea := e91 a (by omega)
  have eb := e91 b hb
  simp (disch := omega) only [li0, li1, li2, li3, li4, li5, li6, li12, li13, li14, li15, li16, li17, li32, li33, li39, li60, li65, li90, li91, li93, li97, li100, li122, li126, li200, li800, li1000, li1400, li2800, li3432, li9999, li10000000, ↓lm1, ↓lm2, ↓lm3, ↓lm4, ↓lm9, le_T, le_F, lt_T, lt_F, eq_F, eq_T, vp_T, mle_F, mle_T, mlt_F, mlt_T, meq_F, meq_F', mne, aR, mR, sR', nI_clamp, br_nT, br_nF, ex_s, true_implies, false_implies, not_true_eq_false, not_false_eq_true, true_and, and_true, forall_eq, implies_true, and_self, reduceIte, reduceCtorEq, Nat.reduceEqDiff, Nat.reduceAdd, Nat.reduceMul, Nat.reduceSub, ite_true, ite_false, if_true, if_false, eq_self, and_false, false_and, fa_s, fa_n, cfF, cfA, cfJ, cfB, cfR, mfF, mfA, mfJ, mfB, mfR, c_foundE, m_meetsE, fX11_isSheet, fX11_in, fX10_sheetAt, fX10_sheetAt_b22, fX10_textAt, fX10_textAt_b22, fX11_isText, fX2_has, fX11_isFeature, nar_byte, byte_i, lg_gt, lg_eq, lg_lt, all_A, sF_F, sF_A, sF_J, sF_B, sF_R, sF_all, sA_F, sA_A, sA_J, sA_B, sA_R, sA_all, sJ_F, sJ_A, sJ_J, sJ_B, sJ_R, sJ_all, sB_F, sB_A, sB_J, sB_B, sB_R, sB_all, sR_F, sR_A, sR_J, sR_B, sR_R, sR_all, e29, ea, eb]
  refine h _ ?_
  have r9 : ∀ (x y z : Int32) (w : Int32) (u1 u2 : Int32), RR s (setA (setA (setF (setA (setA (setA s 90 0 (3 * k) x) 90 0 (3 * k + 1) y) 90 0 (3 * k + 2) z) 11 0 29 w) 91 0 a u1) 91 0 b u2) := fun x y z w u1 u2 => (rr_A (Or.inl rfl)).trans ((rr_A (Or.inl rfl)).trans ((rr_A (Or.inl rfl)).trans (rr_F.trans ((rr_A (Or.inr rfl)).trans (rr_A (Or.inr rfl))))))
  refine ⟨rr.trans (r9 _ _ _ _ _ _), ?_, ?_, fun i hi => ?_, fun q hq => ?_⟩
  · obtain ⟨rt3, er3, ec3⟩ := rr_x rt rs (rr.trans (r9 (nI a) (nI b) v (nI (k + 1)) (ms (fm σ n m srt) n (ms0 σ n) k a ||| ms (fm σ n m srt) n (ms0 σ n) k b) (nI 0)))
    refine CF_c cf' ?_ (ec3.trans ec.symm)
    rw [sAx (by decide), sAx (by decide), sA_F, sAx (by decide), sAx (by decide), sAx (by decide)]
  · simp [sF_F, sF_A, sF_J, sF_B, sF_R, sF_all, sA_F, sA_A, sA_J, sA_B, sA_R, sA_all, sJ_F, sJ_A, sJ_J, sJ_B, sJ_R, sJ_all, sB_F, sB_A, sB_J, sB_B, sB_R, sB_all, sR_F, sR_A, sR_J, sR_B, sR_R, sR_all]
  · rw [ms_s (by omega) (by omega) eo]
    unfold jn
    by_cases i1 : i = b
    · subst i1
      rw [if_pos rfl]; simp [sF_F, sF_A, sF_J, sF_B, sF_R, sF_all, sA_F, sA_A, sA_J, sA_B, sA_R, sA_all, sJ_F, sJ_A, sJ_J, sJ_B, sJ_R, sJ_all, sB_F, sB_A, sB_J, sB_B, sB_R, sB_all, sR_F, sR_A, sR_J, sR_B, sR_R, sR_all]
    · rw [if_neg i1]
      by_cases i2 : i = a
      · subst i2
        rw [if_pos rfl]
        simp only [sF_F, sF_A, sF_J, sF_B, sF_R, sF_all, sA_F, sA_A, sA_J, sA_B, sA_R, sA_all, sJ_F, sJ_A, sJ_J, sJ_B, sJ_R, sJ_all, sB_F, sB_A, sB_J, sB_B, sB_R, sB_all, sR_F, sR_A, sR_J, sR_B, sR_R, sR_all]
        rw [if_neg (by simp; exact i1), if_pos (by simp)]
      · rw [if_neg i2]
        simp only [sF_F, sF_A, sF_J, sF_B, sF_R, sF_all, sA_F, sA_A, sA_J, sA_B, sA_R, sA_all, sJ_F, sJ_A, sJ_J, sJ_B, sJ_R, sJ_all, sB_F, sB_A, sB_J, sB_B, sB_R, sB_all, sR_F, sR_A, sR_J, sR_B, sR_R, sR_all]
        rw [if_neg (by simp; exact i1), if_neg (by simp; exact i2)]
        simp only [reduceCtorEq, Nat.reduceEqDiff, false_and, ite_false]
        exact e91 i hi
  · simp only [sF_F, sF_A, sF_J, sF_B, sF_R, sF_all, sA_F, sA_A, sA_J, sA_B, sA_R, sA_all, sJ_F, sJ_A, sJ_J, sJ_B, sJ_R, sJ_all, sB_F, sB_A, sB_J, sB_B, sB_R, sB_all, sR_F, sR_A, sR_J, sR_B, sR_R, sR_all]
    simp only [reduceCtorEq, Nat.reduceEqDiff, false_and, ite_false, true_and]
    by_cases e : q = k
    · subst e
      rw [eo]
      refine ⟨?_, ?_, ?_⟩
      · rw [if_neg (by omega), if_neg (by omega), if_pos rfl]
      · rw [if_neg (by omega), if_pos rfl]
      · rw [if_pos rfl]
    · have w := e90 q (by omega)
      rw [if_neg (by omega), if_neg (by omega), if_neg (by omega), if_neg (by omega), if_neg (by omega), if_neg (by omega), if_neg (by omega), if_neg (by omega), if_neg (by omega)]
      exact w
theorem mtree_sp {N n m srt : Nat} {σ s1 : St} {Q : Int32 → St → Prop} (hN : 1000 ≤ N) (rt : RT σ n m) (sr : SR σ srt) (rs : RS σ s1) (h : ∀ s, MK σ s1 s n m srt (liv σ n - 1) → Q (nI (liv σ n - 1)) s) : fX11_tree N s1 Q := by
  have hn := rt.1
  have hl : liv σ n ≤ n := ct_le _ _
  unfold fX11_tree
  refine setCounts_sp hN (RT_c rt rs.sm) (fun F hF => ?_)
  intro s2 e2
  have rr2 : RR s1 s2 := by subst e2; exact rr_83.trans rr_F
  have cf2 : CF s2 n m := by
    have q := (rr_x rt rs rr2).2.2
    have q1 := (rr_x rt rs (rr_83 (s := s1) (F := F))).2.2
    subst e2
    exact CF_c hF (by rw [sA_F]) (q.trans q1.symm)
  have e29 : sF s2 11 0 29 = nI 0 := by subst e2; simp [sF_F, sF_A, sF_J, sF_B, sF_R, sF_all, sA_F, sA_A, sA_J, sA_B, sA_R, sA_all, sJ_F, sJ_A, sJ_J, sJ_B, sJ_R, sJ_all, sB_F, sB_A, sB_J, sB_B, sB_R, sB_all, sR_F, sR_A, sR_J, sR_B, sR_R, sR_all]; rfl
  have e6 : ∀ s, RR s1 s → sF s 11 0 6 = nI n := fun s rr => (rr_x rt rs rr).1.2.2.1
  have e70 : ∀ s, RR s1 s → sA s 70 0 = sA σ 70 0 := fun s rr => by rw [rr.2.1 70 (by decide) (by decide) (by decide), rs.2.1 70 (by decide)]
  refine lpU (fun k i (y : St × Int32) => fX11_tree_l13 N Q _ k y.1 y.2 (nI i)) (fun i y => y.2 = nI (ct (fun t => decide (sA σ 70 0 t = nI 0)) i) ∧ RR s1 y.1 ∧ CF y.1 n m ∧ sF y.1 11 0 29 = nI 0 ∧ ∀ q, q < i → sA y.1 91 0 q = ms0 σ n q) n N ?_ ?_ 0 (s2, nI 0) (by omega) (by omega) ⟨rfl, rr2, cf2, e29, fun q hq => absurd hq (by omega)⟩
  · rintro k ⟨s, v⟩ ⟨ev, rr, cf3, e29, e91⟩
    have ev : v = nI (liv σ n) := ev
    have rr : RR s1 s := rr
    subst ev
    simp only [fX11_tree_l13, e6 s rr]
    refine ⟨fun _ => ?_, fun c => absurd (nI_le (Nat.le_refl n) (by omega)) c⟩
    refine lpU (fun k i (y : St) => fX11_tree_l68 N Q _ k y (nI (liv σ n)) (nI (i + 1))) (fun i y => MK σ s1 y n m srt i) (liv σ n - 1) N ?_ ?_ 0 s (by omega) (by omega) ⟨rr, cf3, e29, fun i hi => e91 i hi, fun q hq => absurd hq (by omega)⟩
    · rintro k s3 mk
      simp only [fX11_tree_l68]
      refine ⟨fun _ => ?_, fun c => absurd (nI_le (by omega) (by omega)) c⟩
      rw [mk.2.2.1]
      exact h s3 mk
    · rintro k i s3 hi mk K
      simp only [fX11_tree_l68]
      refine ⟨fun c => absurd c (nI_ge (by omega) (by omega)), fun _ => ?_⟩
      have kk : i ≤ ct (lv (ms0 σ n)) n - 1 := by rw [lv_0 hn]; show _ ≤ liv σ n - 1; omega
      obtain ⟨l1, wm⟩ := ms_lv (d := fm σ n m srt) hn (WM_0 (σ := σ) hn) _ kk
      rw [lv_0 hn] at l1
      have l1 : ct (lv (ms (fm σ n m srt) n (ms0 σ n) i)) n = liv σ n - i := l1
      obtain ⟨a, b, g1, g2, g3, g4, g5⟩ := ou_y (d := fm σ n m srt) hn (show 2 ≤ ct (lv (ms (fm σ n m srt) n (ms0 σ n) i)) n by omega)
      refine mjoin_sp hN rt sr rs (by omega) mk g1 g2 g5 (fun s4 mk4 => ?_)
      rw [show nI (i + 1) + 1 = nI (i + 1 + 1) from nI_add (i + 1) 1]
      exact K s4 mk4
  · rintro k i ⟨s, v⟩ hi ⟨ev, rr, cf3, e29, e91⟩ K
    have ev : v = _ := ev
    have rr : RR s1 s := rr
    have cf3 : CF s n m := cf3
    have e29 : sF s 11 0 29 = nI 0 := e29
    have e91 : ∀ q, q < i → sA s 91 0 q = ms0 σ n q := e91
    have e70i : sA s 70 0 i = sA σ 70 0 i := by rw [e70 s rr]
    have K := fun (w x : Int32) (e : x = ms0 σ n i) (e' : w = nI (ct (fun t => decide (sA σ 70 0 t = nI 0)) (i + 1))) => K (setA s 91 0 i x, w) ⟨e', rr.trans (rr_A (Or.inr rfl)), CF_c cf3 (sAx (by decide)) ((rr_x rt rs (rr.trans (rr_A (Or.inr rfl)))).2.2.trans (rr_x rt rs rr).2.2.symm), e29, fun q hq => by
      by_cases c : q = i
      · subst c; simp only [sF_F, sF_A, sF_J, sF_B, sF_R, sF_all, sA_F, sA_A, sA_J, sA_B, sA_R, sA_all, sJ_F, sJ_A, sJ_J, sJ_B, sJ_R, sJ_all, sB_F, sB_A, sB_J, sB_B, sB_R, sB_all, sR_F, sR_A, sR_J, sR_B, sR_R, sR_all]; rw [if_pos (by simp)]; exact e
      · simp only [sF_F, sF_A, sF_J, sF_B, sF_R, sF_all, sA_F, sA_A, sA_J, sA_B, sA_R, sA_all, sJ_F, sJ_A, sJ_J, sJ_B, sJ_R, sJ_all, sB_F, sB_A, sB_J, sB_B, sB_R, sB_all, sR_F, sR_A, sR_J, sR_B, sR_R, sR_all]; rw [if_neg (by simp; exact c)]; exact e91 q (by omega)⟩
    rw [ct_s] at K
    subst ev
    have e6' := e6 s rr
    by_cases c : sA σ 70 0 i = nI 0
    · have K := K (nI (ct (fun t => decide (sA σ 70 0 t = nI 0)) i + 1)) (nI 1 <<< (nI i &&& 31)) (if_pos ⟨hi, c⟩).symm (by rw [if_pos (decide_eq_true c)])
      simp (disch := omega) only [li0, li1, li2, li3, li4, li5, li6, li12, li13, li14, li15, li16, li17, li32, li33, li39, li60, li65, li90, li91, li93, li97, li100, li122, li126, li200, li800, li1000, li1400, li2800, li3432, li9999, li10000000, ↓lm1, ↓lm2, ↓lm3, ↓lm4, ↓lm9, le_T, le_F, lt_T, lt_F, eq_F, eq_T, vp_T, mle_F, mle_T, mlt_F, mlt_T, meq_F, meq_F', mne, aR, mR, sR', nI_clamp, br_nT, br_nF, ex_s, true_implies, false_implies, not_true_eq_false, not_false_eq_true, true_and, and_true, forall_eq, implies_true, and_self, reduceIte, reduceCtorEq, Nat.reduceEqDiff, Nat.reduceAdd, Nat.reduceMul, Nat.reduceSub, ite_true, ite_false, if_true, if_false, eq_self, and_false, false_and, fa_s, fa_n, cfF, cfA, cfJ, cfB, cfR, mfF, mfA, mfJ, mfB, mfR, c_foundE, m_meetsE, fX11_isSheet, fX11_in, fX10_sheetAt, fX10_sheetAt_b22, fX10_textAt, fX10_textAt_b22, fX11_isText, fX2_has, fX11_isFeature, nar_byte, byte_i, lg_gt, lg_eq, lg_lt, all_A, sF_F, sF_A, sF_J, sF_B, sF_R, sF_all, sA_F, sA_A, sA_J, sA_B, sA_R, sA_all, sJ_F, sJ_A, sJ_J, sJ_B, sJ_R, sJ_all, sB_F, sB_A, sB_J, sB_B, sB_R, sB_all, sR_F, sR_A, sR_J, sR_B, sR_R, sR_all, fX11_tree_l13, fX11_tree_b42_13, fX11_tree_b58_13, e6', e70i, c]
      exact K
    · have K := K (nI (ct (fun t => decide (sA σ 70 0 t = nI 0)) i)) (nI 0) (if_neg (fun z => c z.2)).symm (by rw [if_neg (fun z => c (of_decide_eq_true z))]; rfl)
      simp (disch := omega) only [li0, li1, li2, li3, li4, li5, li6, li12, li13, li14, li15, li16, li17, li32, li33, li39, li60, li65, li90, li91, li93, li97, li100, li122, li126, li200, li800, li1000, li1400, li2800, li3432, li9999, li10000000, ↓lm1, ↓lm2, ↓lm3, ↓lm4, ↓lm9, le_T, le_F, lt_T, lt_F, eq_F, eq_T, vp_T, mle_F, mle_T, mlt_F, mlt_T, meq_F, meq_F', mne, aR, mR, sR', nI_clamp, br_nT, br_nF, ex_s, true_implies, false_implies, not_true_eq_false, not_false_eq_true, true_and, and_true, forall_eq, implies_true, and_self, reduceIte, reduceCtorEq, Nat.reduceEqDiff, Nat.reduceAdd, Nat.reduceMul, Nat.reduceSub, ite_true, ite_false, if_true, if_false, eq_self, and_false, false_and, fa_s, fa_n, cfF, cfA, cfJ, cfB, cfR, mfF, mfA, mfJ, mfB, mfR, c_foundE, m_meetsE, fX11_isSheet, fX11_in, fX10_sheetAt, fX10_sheetAt_b22, fX10_textAt, fX10_textAt_b22, fX11_isText, fX2_has, fX11_isFeature, nar_byte, byte_i, lg_gt, lg_eq, lg_lt, all_A, sF_F, sF_A, sF_J, sF_B, sF_R, sF_all, sA_F, sA_A, sA_J, sA_B, sA_R, sA_all, sJ_F, sJ_A, sJ_J, sJ_B, sJ_R, sJ_all, sB_F, sB_A, sB_J, sB_B, sB_R, sB_all, sR_F, sR_A, sR_J, sR_B, sR_R, sR_all, fX11_tree_l13, fX11_tree_b42_13, fX11_tree_b58_13, e6', e70i, c]
      exact K
theorem st23 {N : Nat} {σ : St} {L : List (Nat × Nat)} (hN : 1000 ≤ N) (h : Inv σ L) : S23 N Inv σ L := by
  obtain ⟨n, m, hn, hm, gl, g1, g2, g3, g4, g5, g6, g7, g8⟩ := id h
  obtain ⟨srt, sr⟩ := SR_of g3
  have ct' : CT σ n m := ⟨hn, hm, g1, g4, g5, g6⟩
  have hl : liv σ n ≤ n := ct_le _ _
  unfold S23 fX10_tree
  refine cgrow_sp hN ct' sr (fun s1 ck => ?_)
  refine mtree_sp hN ct'.rt sr ck.1.2.2.2.2 (fun s mk => ⟨rfl, ?_⟩)
  obtain ⟨tr, hj, gh, en⟩ := ck
  obtain ⟨rr, cf', e29, e91, e90⟩ := mk
  have kA : ∀ K, (∀ i, trA K i = true) → ¬ (K = 42 ∨ K = 43 ∨ K = 44 ∨ K = 83 ∨ K = 90 ∨ K = 91) → sA s K = sA σ K := fun K t e => by
    rw [rr.2.1 K (by omega) (by omega) (by omega)]
    exact funext fun i => funext fun j => tr.2.1 K i j (t i) (by omega) (by omega) (by omega)
  have kA0 : ∀ K, trA K 0 = true → ¬ (K = 42 ∨ K = 43 ∨ K = 44 ∨ K = 83 ∨ K = 90 ∨ K = 91) → sA s K 0 = sA σ K 0 := fun K t e => by
    rw [rr.2.1 K (by omega) (by omega) (by omega)]
    exact funext fun j => tr.2.1 K 0 j t (by omega) (by omega) (by omega)
  have kAi : ∀ K i, trA K i = true → ¬ (K = 42 ∨ K = 43 ∨ K = 44 ∨ K = 83 ∨ K = 90 ∨ K = 91) → sA s K i = sA σ K i := fun K i t e => by
    rw [rr.2.1 K (by omega) (by omega) (by omega)]
    exact funext fun j => tr.2.1 K i j t (by omega) (by omega) (by omega)
  have kF : ∀ K i j, trF K i = true → K ≠ 9 → ¬ (K = 11 ∧ j = 29) → sF s K i j = sF σ K i j := fun K i j t e1 e2 => by
    rw [rr.1 K i j e2]; exact tr.1 K i j t e1
  have kK : ∀ K, (∀ i, trF K i = true) → K ≠ 9 → K ≠ 11 → sF s K = sF σ K := fun K t e1 e2 => funext fun i => funext fun j => kF K i j (t i) e1 (fun z => e2 z.1)
  have k11 : ∀ j, j ≠ 29 → sF s 11 0 j = sF σ 11 0 j := fun j hj => kF 11 0 j rfl (by decide) (fun z => hj z.2)
  have eJ : sJ s = sJ σ := by rw [rr.2.2.1, tr.2.2.1]
  have eR : sR s = sR σ := by rw [rr.2.2.2.2, tr.2.2.2.1]
  have nA : ∀ K, (∀ i, trA K i = true) → (decide (K = 42 ∨ K = 43 ∨ K = 44 ∨ K = 83 ∨ K = 90 ∨ K = 91) = false) → sA s K = sA σ K := fun K t e => kA K t (of_decide_eq_false e)
  refine ⟨n, m, hn, hm, gl, G1_c g1 (by rw [kK 10 (fun _ => rfl) (by decide) (by decide)]) (k11 6 (by decide)) (by rw [kK 2 (fun _ => rfl) (by decide) (by decide)]) (k11 18 (by decide)) eR (nA _ (fun _ => rfl) rfl), G2_c g2 (fun _ => by rw [kK 5 (fun _ => rfl) (by decide) (by decide)]) (nA _ (fun _ => rfl) rfl) (nA _ (fun _ => rfl) rfl) (nA _ (fun _ => rfl) rfl), ⟨by rw [kK 10 (fun _ => rfl) (by decide) (by decide), k11 0 (by decide)]; exact g3.1, fun f => by rw [nA 22 (fun _ => rfl) rfl, nA 61 (fun _ => rfl) rfl]; exact g3.2.1 f, by rw [kK 2 (fun _ => rfl) (by decide) (by decide), k11 24 (by decide)]; exact g3.2.2.1, by rw [k11 24 (by decide)]; exact g3.2.2.2.1, by rw [eJ]; exact g3.2.2.2.2⟩, fun t ht => ?_, G5_c g5 (kK 0 (fun _ => rfl) (by decide) (by decide)) (nA _ (fun _ => rfl) rfl) (nA _ (fun _ => rfl) rfl) (nA _ (fun _ => rfl) rfl) (nA _ (fun _ => rfl) rfl) (nA _ (fun _ => rfl) rfl) (nA _ (fun _ => rfl) rfl), ?_, G7_c g7 (by rw [kK 3 (fun _ => rfl) (by decide) (by decide)]) (k11 25 (by decide)) (nA _ (fun _ => rfl) rfl) (nA _ (fun _ => rfl) rfl), ?_⟩
  · have t4 : decide (t < 14) = true := decide_eq_true (by omega)
    refine Tx_c (g4 t ht) (funext fun j => kF 4 t j (by unfold trF; rw [t4]; rfl) (by decide) (by omega)) (funext fun j => kF 7 t j (by unfold trF; rw [t4]; rfl) (by decide) (by omega)) (by rw [kK 8 (fun _ => rfl) (by decide) (by decide)]) (kAi 25 t (by unfold trA; rw [t4]; rfl) (by decide)) (kAi 26 t (by unfold trA; rw [t4]; rfl) (by decide)) (kAi 27 t (by unfold trA; rw [t4]; rfl) (by decide)) (fun K h1 h2 => kA0 K ?_ (by omega))
    rcases (show K = 67 ∨ K = 68 ∨ K = 69 ∨ K = 70 ∨ K = 71 ∨ K = 72 ∨ K = 73 ∨ K = 74 ∨ K = 75 ∨ K = 76 ∨ K = 77 by omega) with rfl | rfl | rfl | rfl | rfl | rfl | rfl | rfl | rfl | rfl | rfl <;> rfl
  · exact G6_c g6 (fun t ht => kAi 29 t (by unfold trA; rw [decide_eq_true (show t < 14 by omega)]; rfl) (by decide)) (nA _ (fun _ => rfl) rfl) (nA _ (fun _ => rfl) rfl) (nA _ (fun _ => rfl) rfl) (nA _ (fun _ => rfl) rfl) (nA _ (fun _ => rfl) rfl) (nA _ (fun _ => rfl) rfl) (nA _ (fun _ => rfl) rfl) (nA _ (fun _ => rfl) rfl) (nA _ (fun _ => rfl) rfl)
  · refine ⟨⟨by rw [nA 48 (fun _ => rfl) rfl]; exact g8.1.1, by rw [nA 49 (fun _ => rfl) rfl]; exact g8.1.2⟩, liv σ n - 1, by omega, ?_, e29, fun q hq => ?_⟩
    · rw [rr.1 9 0 6 (by decide)]; exact hj
    · rw [rr.2.1 42 (by decide) (by decide) (by decide), rr.2.1 43 (by decide) (by decide) (by decide), rr.2.1 44 (by decide) (by decide) (by decide)]
      obtain ⟨p1, p2, p3⟩ := en q hq
      obtain ⟨q1, q2, q3⟩ := e90 q hq
      exact ⟨p1.trans q1.symm, p2.trans q2.symm, p3.trans q3.symm⟩
