theorem nI_div {a b : Nat} (ha : a < 2 ^ 31) (hb : b < 2 ^ 31) (h0 : 0 < b) : nI a / nI b = nI (a / b) := pk_div ha h0 hb
/-- a rate as a number -/
def rvN (a b : Nat) : Nat := if b = 0 then 0 else 1000 * a / b
theorem rv_nI {a b : Nat} (ha : a ≤ 100000) (hb : b < 2 ^ 31) : rateV a b = nI (rvN a b) := by
  unfold rateV rvN
  by_cases e : b = 0
  · rw [if_pos e, if_pos e]
  · rw [if_neg e, if_neg e, nI_div (by omega) hb (by omega)]
theorem rvN_le {a b A : Nat} (h : a ≤ A) : rvN a b ≤ 1000 * A := by
  unfold rvN
  split
  · omega
  · exact Nat.le_trans (Nat.div_le_self _ _) (by omega)
/-- how far two rates are from one another, by the sort of farness -/
def dN (s a b : Nat) : Nat := if s = 0 then (a - b) + (b - a) else ((a - b) + (b - a)) * ((a - b) + (b - a))
theorem absC {a b : Nat} (ha : a < 10 ^ 8) (hb : b < 10 ^ 8) : (if nI 0 ≤ nI a - nI b then nI a - nI b else nI 0 - (nI a - nI b)) = nI ((a - b) + (b - a)) := by
  by_cases c : b ≤ a
  · rw [sR' c, if_pos (nI_le (by omega) (by omega))]; congr 1; omega
  · have e : (nI a - nI b).toInt = (a : Int) - b := pk_sub_toInt (a := a) (b := b) (by omega) (by omega)
    have e0 : (nI 0).toInt = 0 := by decide
    rw [if_neg (by rw [iLe, e, e0]; omega)]
    rw [show nI 0 - (nI a - nI b) = nI b - nI a from ?_, sR' (by omega)]
    · congr 1; omega
    · rw [nI_0, Int32.zero_sub, Int32.neg_sub]
theorem farness_sp {N m s : Nat} {σ : St} {A B : Nat} {x : Int32} {r1 r2 : Nat → Nat} {Q : Int32 → St → Prop} (hN : 1000 ≤ N) (hm : m ≤ 12) (e2 : sF σ 2 0 2 = nI m) (e3 : sF σ 2 0 3 = nI s) (hs : s < 2) (h1 : ∀ f, f < m → sA σ 23 A f = nI (r1 f) ∧ r1 f < 10 ^ 8) (h2 : ∀ f, f < m → sA σ 23 B f = nI (r2 f) ∧ r2 f < 10 ^ 8) (h : Q (nI (sb (bt x) (fun f => dN s (r1 f) (r2 f)) m)) σ) : fX2_farness N σ A B x Q := by
  unfold fX2_farness
  refine lpU (fun k i (y : St × Int32) => fX2_farness_l6 N A B x Q _ k y.1 y.2 (nI i)) (fun i y => y = (σ, nI (sb (bt x) (fun f => dN s (r1 f) (r2 f)) i))) m N ?_ ?_ 0 (σ, nI 0) (by omega) (by omega) rfl
  · rintro k y rfl
    simp (disch := omega) only [li0, li1, li2, li3, li4, li5, li6, li12, li13, li14, li15, li16, li17, li32, li33, li39, li60, li65, li90, li91, li93, li97, li100, li122, li126, li200, li800, li1000, li1400, li2800, li3432, li9999, li10000000, ↓lm1, ↓lm2, ↓lm3, ↓lm4, ↓lm9, le_T, le_F, lt_T, lt_F, eq_F, eq_T, vp_T, mle_F, mle_T, mlt_F, mlt_T, meq_F, meq_F', mne, aR, mR, sR', nI_clamp, br_nT, br_nF, ex_s, true_implies, false_implies, not_true_eq_false, not_false_eq_true, true_and, and_true, forall_eq, implies_true, and_self, reduceIte, reduceCtorEq, Nat.reduceEqDiff, Nat.reduceAdd, Nat.reduceMul, Nat.reduceSub, ite_true, ite_false, if_true, if_false, eq_self, and_false, false_and, fa_s, fa_n, cfF, cfA, cfJ, cfB, cfR, mfF, mfA, mfJ, mfB, mfR, c_foundE, m_meetsE, fX11_isSheet, fX11_in, fX10_sheetAt, fX10_sheetAt_b22, fX10_textAt, fX10_textAt_b22, fX11_isText, fX2_has, fX11_isFeature, nar_byte, byte_i, lg_gt, lg_eq, lg_lt, all_A, sF_F, sF_A, sF_J, sF_B, sF_R, sF_all, sA_F, sA_A, sA_J, sA_B, sA_R, sA_all, sJ_F, sJ_A, sJ_J, sJ_B, sJ_R, sJ_all, sB_F, sB_A, sB_J, sB_B, sB_R, sB_all, sR_F, sR_A, sR_J, sR_B, sR_R, sR_all, fX2_farness_l6, e2]
    exact h
  · rintro k i y hi rfl K
    have K := K _ rfl
    obtain ⟨q1, b1⟩ := h1 i hi
    obtain ⟨q2, b2⟩ := h2 i hi
    have bu := bit_u (x := x) (t := i) (by omega)
    rw [li1] at bu
    have ab := absC b1 b2
    rw [sb_s] at K
    simp only [fX2_farness_l6, fX2_farness_b74_6, fX2_farness_b77_6]
    cases b : bt x i
    · rw [b] at K
      simp only [li1, bu, b, Bool.false_eq_true, if_false]
      simp (disch := omega) only [li0, li1, li2, li3, li4, li5, li6, li12, li13, li14, li15, li16, li17, li32, li33, li39, li60, li65, li90, li91, li93, li97, li100, li122, li126, li200, li800, li1000, li1400, li2800, li3432, li9999, li10000000, ↓lm1, ↓lm2, ↓lm3, ↓lm4, ↓lm9, le_T, le_F, lt_T, lt_F, eq_F, eq_T, vp_T, mle_F, mle_T, mlt_F, mlt_T, meq_F, meq_F', mne, aR, mR, sR', nI_clamp, br_nT, br_nF, ex_s, true_implies, false_implies, not_true_eq_false, not_false_eq_true, true_and, and_true, forall_eq, implies_true, and_self, reduceIte, reduceCtorEq, Nat.reduceEqDiff, Nat.reduceAdd, Nat.reduceMul, Nat.reduceSub, ite_true, ite_false, if_true, if_false, eq_self, and_false, false_and, fa_s, fa_n, cfF, cfA, cfJ, cfB, cfR, mfF, mfA, mfJ, mfB, mfR, c_foundE, m_meetsE, fX11_isSheet, fX11_in, fX10_sheetAt, fX10_sheetAt_b22, fX10_textAt, fX10_textAt_b22, fX11_isText, fX2_has, fX11_isFeature, nar_byte, byte_i, lg_gt, lg_eq, lg_lt, all_A, sF_F, sF_A, sF_J, sF_B, sF_R, sF_all, sA_F, sA_A, sA_J, sA_B, sA_R, sA_all, sJ_F, sJ_A, sJ_J, sJ_B, sJ_R, sJ_all, sB_F, sB_A, sB_J, sB_B, sB_R, sB_all, sR_F, sR_A, sR_J, sR_B, sR_R, sR_all, e2]
      exact K
    · rw [b] at K
      simp only [li1, li0, bu, b, if_true]
      rcases (show s = 0 ∨ s = 1 by omega) with rfl | rfl
      · simp only [nI_clamp (show i < 2 ^ 31 by omega), q1, q2, ab]
        simp (disch := omega) only [li0, li1, li2, li3, li4, li5, li6, li12, li13, li14, li15, li16, li17, li32, li33, li39, li60, li65, li90, li91, li93, li97, li100, li122, li126, li200, li800, li1000, li1400, li2800, li3432, li9999, li10000000, ↓lm1, ↓lm2, ↓lm3, ↓lm4, ↓lm9, le_T, le_F, lt_T, lt_F, eq_F, eq_T, vp_T, mle_F, mle_T, mlt_F, mlt_T, meq_F, meq_F', mne, aR, mR, sR', nI_clamp, br_nT, br_nF, ex_s, true_implies, false_implies, not_true_eq_false, not_false_eq_true, true_and, and_true, forall_eq, implies_true, and_self, reduceIte, reduceCtorEq, Nat.reduceEqDiff, Nat.reduceAdd, Nat.reduceMul, Nat.reduceSub, ite_true, ite_false, if_true, if_false, eq_self, and_false, false_and, fa_s, fa_n, cfF, cfA, cfJ, cfB, cfR, mfF, mfA, mfJ, mfB, mfR, c_foundE, m_meetsE, fX11_isSheet, fX11_in, fX10_sheetAt, fX10_sheetAt_b22, fX10_textAt, fX10_textAt_b22, fX11_isText, fX2_has, fX11_isFeature, nar_byte, byte_i, lg_gt, lg_eq, lg_lt, all_A, sF_F, sF_A, sF_J, sF_B, sF_R, sF_all, sA_F, sA_A, sA_J, sA_B, sA_R, sA_all, sJ_F, sJ_A, sJ_J, sJ_B, sJ_R, sJ_all, sB_F, sB_A, sB_J, sB_B, sB_R, sB_all, sR_F, sR_A, sR_J, sR_B, sR_R, sR_all, e2, e3]
        exact K
      · simp only [nI_clamp (show i < 2 ^ 31 by omega), q1, q2, ab]
        simp (disch := omega) only [li0, li1, li2, li3, li4, li5, li6, li12, li13, li14, li15, li16, li17, li32, li33, li39, li60, li65, li90, li91, li93, li97, li100, li122, li126, li200, li800, li1000, li1400, li2800, li3432, li9999, li10000000, ↓lm1, ↓lm2, ↓lm3, ↓lm4, ↓lm9, le_T, le_F, lt_T, lt_F, eq_F, eq_T, vp_T, mle_F, mle_T, mlt_F, mlt_T, meq_F, meq_F', mne, aR, mR, sR', nI_clamp, br_nT, br_nF, ex_s, true_implies, false_implies, not_true_eq_false, not_false_eq_true, true_and, and_true, forall_eq, implies_true, and_self, reduceIte, reduceCtorEq, Nat.reduceEqDiff, Nat.reduceAdd, Nat.reduceMul, Nat.reduceSub, ite_true, ite_false, if_true, if_false, eq_self, and_false, false_and, fa_s, fa_n, cfF, cfA, cfJ, cfB, cfR, mfF, mfA, mfJ, mfB, mfR, c_foundE, m_meetsE, fX11_isSheet, fX11_in, fX10_sheetAt, fX10_sheetAt_b22, fX10_textAt, fX10_textAt_b22, fX11_isText, fX2_has, fX11_isFeature, nar_byte, byte_i, lg_gt, lg_eq, lg_lt, all_A, sF_F, sF_A, sF_J, sF_B, sF_R, sF_all, sA_F, sA_A, sA_J, sA_B, sA_R, sA_all, sJ_F, sJ_A, sJ_J, sJ_B, sJ_R, sJ_all, sB_F, sB_A, sB_J, sB_B, sB_R, sB_all, sR_F, sR_A, sR_J, sR_B, sR_R, sR_all, e2, e3]
        exact K
