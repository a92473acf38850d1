def dn (W j : Nat) : Int32 := if j < W then nI (W - 1 - j) else mI 1
theorem dn_0 {W : Nat} (hW : W < 2 ^ 30) : nI W - nI 1 = dn W 0 := by
  unfold dn
  rcases Nat.eq_zero_or_pos W with rfl | h
  · decide
  · rw [if_pos h, sR' h]; rfl
theorem dn_s {W j : Nat} (h : j < W) : dn W j + mI 1 = dn W (j + 1) := by
  unfold dn
  rw [if_pos h]
  by_cases c : j + 1 < W
  · rw [if_pos c]
    show nI (W - 1 - j) + - nI 1 = _
    rw [← Int32.sub_eq_add_neg, sR' (by omega)]; congr 1
  · rw [if_neg c, show W - 1 - j = 0 by omega]; decide
theorem dn_y {W j : Nat} (h : j < W) : dn W j = nI (W - 1 - j) := if_pos h
theorem dn_e {W : Nat} : dn W W = mI 1 := if_neg (by omega)
/-- the prices as longs -/
def wfL (σ : St) (n m srt t k w : Nat) : Nat → Int64 := fun i => (wfr σ n m srt t k w i).toInt64
theorem tlS_s (A B : Nat → Int64) (c : Int64) (W j : Nat) : tlS A B c W (j + 1) = (A (W - 1 - j) + (if (tlS A B c W j).2 + c < (tlS A B c W j).1 then (tlS A B c W j).2 + c else (tlS A B c W j).1), B (W - 1 - j) + (if (tlS A B c W j).1 + c < (tlS A B c W j).2 then (tlS A B c W j).1 + c else (tlS A B c W j).2)) := rfl
theorem tlS_0 (A B : Nat → Int64) (c : Int64) (W : Nat) : tlS A B c W 0 = (0, 0) := by unfold tlS; exact Eq.refl _
theorem wfL_e (σ : St) (n m srt t k w i : Nat) : wfL σ n m srt t k w i = (wfr σ n m srt t k w i).toInt64 := rfl
theorem tails_sp {N n m t k a b c srt : Nat} {σ s : St} {Q : St → Prop} {W : Nat} (hN : 1000 ≤ N) (hW : W ≤ 100) (pi : PI σ s n m srt t k a b W) (h : ∀ s', AL s s' → sA s' = sA s → sF s' = sF s → (∀ j, j ≤ W → sB s' 36 0 (W - j) = (tlS (wfL σ n m srt t k a) (wfL σ n m srt t k b) (nI c).toInt64 W j).1 ∧ sB s' 37 0 (W - j) = (tlS (wfL σ n m srt t k a) (wfL σ n m srt t k b) (nI c).toInt64 W j).2) → Q s') : fX3_priceTails N s (nI c) Q := by
  obtain ⟨al, hd, e7, pr⟩ := pi
  unfold fX3_priceTails
  simp (disch := omega) only [li0, li1, li2, li3, li4, li5, li6, li12, li13, li14, li15, li16, li17, li32, li33, li39, li60, li65, li90, li91, li93, li97, li100, li122, li126, li200, li800, li1000, li1400, li2800, li3432, li9999, li10000000, ↓lm1, ↓lm2, ↓lm3, ↓lm4, ↓lm9, le_T, le_F, lt_T, lt_F, eq_F, eq_T, vp_T, mle_F, mle_T, mlt_F, mlt_T, meq_F, meq_F', mne, aR, mR, sR', nI_clamp, br_nT, br_nF, ex_s, true_implies, false_implies, not_true_eq_false, not_false_eq_true, true_and, and_true, forall_eq, implies_true, and_self, reduceIte, reduceCtorEq, Nat.reduceEqDiff, Nat.reduceAdd, Nat.reduceMul, Nat.reduceSub, ite_true, ite_false, if_true, if_false, eq_self, and_false, false_and, fa_s, fa_n, cfF, cfA, cfJ, cfB, cfR, mfF, mfA, mfJ, mfB, mfR, c_foundE, m_meetsE, fX11_isSheet, fX11_in, fX10_sheetAt, fX10_sheetAt_b22, fX10_textAt, fX10_textAt_b22, fX11_isText, fX2_has, fX11_isFeature, nar_byte, byte_i, lg_gt, lg_eq, lg_lt, all_A, sF_F, sF_A, sF_J, sF_B, sF_R, sF_all, sA_F, sA_A, sA_J, sA_B, sA_R, sA_all, sJ_F, sJ_A, sJ_J, sJ_B, sJ_R, sJ_all, sB_F, sB_A, sB_J, sB_B, sB_R, sB_all, sR_F, sR_A, sR_J, sR_B, sR_R, sR_all, e7]
  rw [dn_0 (by omega)]
  refine lpU (fun k' j (y : St) => fX3_priceTails_l27 N (nI c) Q _ k' y (dn W j)) (fun j y => AL s y ∧ sA y = sA s ∧ sF y = sF s ∧ ∀ q, q ≤ j → sB y 36 0 (W - q) = (tlS (wfL σ n m srt t k a) (wfL σ n m srt t k b) (nI c).toInt64 W q).1 ∧ sB y 37 0 (W - q) = (tlS (wfL σ n m srt t k a) (wfL σ n m srt t k b) (nI c).toInt64 W q).2) W N ?_ ?_ 0 _ (by omega) (by omega) ⟨al_B.trans al_B, rfl, rfl, fun q hq => ?_⟩
  · rintro k' y ⟨y1, y2, y3, y4⟩
    have q := h y y1 y2 y3 y4
    have m0 : mI 1 < nI 0 := by decide
    rw [dn_e]
    simp (disch := omega) only [li0, li1, li2, li3, li4, li5, li6, li12, li13, li14, li15, li16, li17, li32, li33, li39, li60, li65, li90, li91, li93, li97, li100, li122, li126, li200, li800, li1000, li1400, li2800, li3432, li9999, li10000000, ↓lm1, ↓lm2, ↓lm3, ↓lm4, ↓lm9, le_T, le_F, lt_T, lt_F, eq_F, eq_T, vp_T, mle_F, mle_T, mlt_F, mlt_T, meq_F, meq_F', mne, aR, mR, sR', nI_clamp, br_nT, br_nF, ex_s, true_implies, false_implies, not_true_eq_false, not_false_eq_true, true_and, and_true, forall_eq, implies_true, and_self, reduceIte, reduceCtorEq, Nat.reduceEqDiff, Nat.reduceAdd, Nat.reduceMul, Nat.reduceSub, ite_true, ite_false, if_true, if_false, eq_self, and_false, false_and, fa_s, fa_n, cfF, cfA, cfJ, cfB, cfR, mfF, mfA, mfJ, mfB, mfR, c_foundE, m_meetsE, fX11_isSheet, fX11_in, fX10_sheetAt, fX10_sheetAt_b22, fX10_textAt, fX10_textAt_b22, fX11_isText, fX2_has, fX11_isFeature, nar_byte, byte_i, lg_gt, lg_eq, lg_lt, all_A, sF_F, sF_A, sF_J, sF_B, sF_R, sF_all, sA_F, sA_A, sA_J, sA_B, sA_R, sA_all, sJ_F, sJ_A, sJ_J, sJ_B, sJ_R, sJ_all, sB_F, sB_A, sB_J, sB_B, sB_R, sB_all, sR_F, sR_A, sR_J, sR_B, sR_R, sR_all, fX3_priceTails_l27, m0]
    exact q
  · rintro k' j y hj ⟨y1, y2, y3, y4⟩ K
    rw [dn_y hj]
    obtain ⟨t36, t37⟩ := y4 j (Nat.le_refl _)
    have ew : W - 1 - j + 1 = W - j := by omega
    obtain ⟨p34, p35⟩ := pr (W - 1 - j) (by omega)
    have e34 : sA y 34 0 (W - 1 - j) = wfr σ n m srt t k a (W - 1 - j) := by rw [y2]; exact p34
    have e35 : sA y 35 0 (W - 1 - j) = wfr σ n m srt t k b (W - 1 - j) := by rw [y2]; exact p35
    obtain ⟨T', hT⟩ : ∃ T', T' = tlS (wfL σ n m srt t k a) (wfL σ n m srt t k b) (nI c).toInt64 W (j + 1) := ⟨_, Eq.refl _⟩
    obtain ⟨X, hX⟩ : ∃ X, X = T'.1 := ⟨_, Eq.refl _⟩
    obtain ⟨Y, hY⟩ : ∃ Y, Y = T'.2 := ⟨_, Eq.refl _⟩
    have nb : ∀ q, q ≤ j + 1 → sB (setB (setB y 36 0 (W - 1 - j) X) 37 0 (W - 1 - j) Y) 36 0 (W - q) = (tlS (wfL σ n m srt t k a) (wfL σ n m srt t k b) (nI c).toInt64 W q).1 ∧ sB (setB (setB y 36 0 (W - 1 - j) X) 37 0 (W - 1 - j) Y) 37 0 (W - q) = (tlS (wfL σ n m srt t k a) (wfL σ n m srt t k b) (nI c).toInt64 W q).2 := by
      intro q hq
      rw [sB_B, sB_B, sB_B, sB_B]
      by_cases d : q = j + 1
      · rw [d, show W - (j + 1) = W - 1 - j by omega, if_neg (by omega), if_pos ⟨Eq.refl _, Eq.refl _, Eq.refl _⟩, if_pos ⟨Eq.refl _, Eq.refl _, Eq.refl _⟩, ← hT]
        exact ⟨hX, hY⟩
      · rw [if_neg (by omega), if_neg (by omega), if_neg (by omega), if_neg (by omega)]
        exact y4 q (by omega)
    have K := K (setB (setB y 36 0 (W - 1 - j) X) 37 0 (W - 1 - j) Y) ⟨y1.trans (al_B.trans al_B), (by rw [sA_B, sA_B]; exact y2), (by rw [sF_B, sF_B]; exact y3), nb⟩
    rw [tlS_s, wfL_e, wfL_e] at hT
    rw [hT] at hX hY
    have hX : X = (wfr σ n m srt t k a (W - 1 - j)).toInt64 + (if (tlS (wfL σ n m srt t k a) (wfL σ n m srt t k b) (nI c).toInt64 W j).2 + (nI c).toInt64 < (tlS (wfL σ n m srt t k a) (wfL σ n m srt t k b) (nI c).toInt64 W j).1 then (tlS (wfL σ n m srt t k a) (wfL σ n m srt t k b) (nI c).toInt64 W j).2 + (nI c).toInt64 else (tlS (wfL σ n m srt t k a) (wfL σ n m srt t k b) (nI c).toInt64 W j).1) := hX
    have hY : Y = (wfr σ n m srt t k b (W - 1 - j)).toInt64 + (if (tlS (wfL σ n m srt t k a) (wfL σ n m srt t k b) (nI c).toInt64 W j).1 + (nI c).toInt64 < (tlS (wfL σ n m srt t k a) (wfL σ n m srt t k b) (nI c).toInt64 W j).2 then (tlS (wfL σ n m srt t k a) (wfL σ n m srt t k b) (nI c).toInt64 W j).1 + (nI c).toInt64 else (tlS (wfL σ n m srt t k a) (wfL σ n m srt t k b) (nI c).toInt64 W j).2) := hY
    rw [← dn_s hj, dn_y hj] at K
    simp (disch := omega) only [li0, li1, li2, li3, li4, li5, li6, li12, li13, li14, li15, li16, li17, li32, li33, li39, li60, li65, li90, li91, li93, li97, li100, li122, li126, li200, li800, li1000, li1400, li2800, li3432, li9999, li10000000, ↓lm1, ↓lm2, ↓lm3, ↓lm4, ↓lm9, le_T, le_F, lt_T, lt_F, eq_F, eq_T, vp_T, mle_F, mle_T, mlt_F, mlt_T, meq_F, meq_F', mne, aR, mR, sR', nI_clamp, br_nT, br_nF, ex_s, true_implies, false_implies, not_true_eq_false, not_false_eq_true, true_and, and_true, forall_eq, implies_true, and_self, reduceIte, reduceCtorEq, Nat.reduceEqDiff, Nat.reduceAdd, Nat.reduceMul, Nat.reduceSub, ite_true, ite_false, if_true, if_false, eq_self, and_false, false_and, fa_s, fa_n, cfF, cfA, cfJ, cfB, cfR, mfF, mfA, mfJ, mfB, mfR, c_foundE, m_meetsE, fX11_isSheet, fX11_in, fX10_sheetAt, fX10_sheetAt_b22, fX10_textAt, fX10_textAt_b22, fX11_isText, fX2_has, fX11_isFeature, nar_byte, byte_i, lg_gt, lg_eq, lg_lt, all_A, sF_F, sF_A, sF_J, sF_B, sF_R, sF_all, sA_F, sA_A, sA_J, sA_B, sA_R, sA_all, sJ_F, sJ_A, sJ_J, sJ_B, sJ_R, sJ_all, sB_F, sB_A, sB_J, sB_B, sB_R, sB_all, sR_F, sR_A, sR_J, sR_B, sR_R, sR_all, fX3_priceTails_l27, ew, t36, t37, e34, e35]
    rw [← hX, ← hY]
    exact K
  · have q0 : q = 0 := by omega
    subst q0
    simp only [sF_F, sF_A, sF_J, sF_B, sF_R, sF_all, sA_F, sA_A, sA_J, sA_B, sA_R, sA_all, sJ_F, sJ_A, sJ_J, sJ_B, sJ_R, sJ_all, sB_F, sB_A, sB_J, sB_B, sB_R, sB_all, sR_F, sR_A, sR_J, sR_B, sR_R, sR_all]
    rw [if_neg (by simp), if_pos (by simp), if_pos (by simp), tlS_0]
    exact ⟨Eq.refl _, Eq.refl _⟩
theorem cch44 {N i : Nat} {y : St} {a b c v4 bf : Int32} {P S : Nat → Int64} {Q : Int32 → St → Prop} {Kh : St → Int32 → Int32 → Prop} {Kx : St → Int32 → Prop} (hi : i < 100) (e36 : sB y 36 0 i = P i) (e37 : sB y 37 0 i = S i) (h : fX3_choose_b109_6 N a b c Q Kh Kx y v4 (nI i) bf (ow1 P S a b c i bf) (nI i) 0) : fX3_choose_b44_6 N a b c Q Kh Kx y v4 (nI i) bf := by
  have vp : vp_in (nI i) 101 := vp_in_nI (by omega) (by decide)
  simp only [fX3_choose_b44_6, fX3_choose_b64_6, fX3_choose_b86_6, li0, lgc, nI_clamp (show i < 2 ^ 31 by omega), e36, e37]
  refine ⟨vp, fun h1 => ⟨vp, fun h2 => ⟨fun h3 => ?_, fun h3 => ?_⟩, fun h2 => ⟨fun h3 => ?_, fun h3 => ?_⟩⟩, fun h1 => ⟨vp, fun h2 => ⟨fun h3 => ?_, fun h3 => ?_⟩, fun h2 => ⟨fun h3 => ?_, fun h3 => ?_⟩⟩⟩
  · rw [show ow1 P S a b c i bf = b from by unfold ow1; rw [if_neg h2, if_neg h1, if_pos h3]] at h; exact h
  · rw [show ow1 P S a b c i bf = a from by unfold ow1; rw [if_neg h2, if_neg h1, if_neg h3]] at h; exact h
  · rw [show ow1 P S a b c i bf = b from by unfold ow1; rw [if_pos h2, if_neg h1, if_pos h3]] at h; exact h
  · rw [show ow1 P S a b c i bf = a from by unfold ow1; rw [if_pos h2, if_neg h1, if_neg h3]] at h; exact h
  · rw [show ow1 P S a b c i bf = b from by unfold ow1; rw [if_neg h2, if_pos h1, if_pos h3]] at h; exact h
  · rw [show ow1 P S a b c i bf = a from by unfold ow1; rw [if_neg h2, if_pos h1, if_neg h3]] at h; exact h
  · rw [show ow1 P S a b c i bf = b from by unfold ow1; rw [if_pos h2, if_pos h1, if_pos h3]] at h; exact h
  · rw [show ow1 P S a b c i bf = a from by unfold ow1; rw [if_pos h2, if_pos h1, if_neg h3]] at h; exact h
theorem mch59 {N i : Nat} {y : St} {x1 x2 a b c v4 bf : Int32} {P S : Nat → Int64} {Q : Int32 → St → Prop} {Kh : St → Int32 → Int32 → Prop} {Kx : St → Int32 → Prop} (hi : i < 100) (e36 : sB y 87 0 i = P i) (e37 : sB y 88 0 i = S i) (h : fX11_part_b428_331 N x1 x2 a b c Q Kh Kx y v4 (nI i) bf (ow1 P S a b c i bf) (nI i) 0) : fX11_part_b359_331 N x1 x2 a b c Q Kh Kx y v4 (nI i) bf := by
  have vp : vp_in (nI i) 101 := vp_in_nI (by omega) (by decide)
  simp only [fX11_part_b359_331, fX11_part_b381_331, fX11_part_b404_331, li0, lgc, nI_clamp (show i < 2 ^ 31 by omega), e36, e37]
  refine ⟨vp, fun h1 => ⟨vp, fun h2 => ⟨fun h3 => ?_, fun h3 => ?_⟩, fun h2 => ⟨fun h3 => ?_, fun h3 => ?_⟩⟩, fun h1 => ⟨vp, fun h2 => ⟨fun h3 => ?_, fun h3 => ?_⟩, fun h2 => ⟨fun h3 => ?_, fun h3 => ?_⟩⟩⟩
  · rw [show ow1 P S a b c i bf = b from by unfold ow1; rw [if_neg h2, if_neg h1, if_pos h3]] at h; exact h
  · rw [show ow1 P S a b c i bf = a from by unfold ow1; rw [if_neg h2, if_neg h1, if_neg h3]] at h; exact h
  · rw [show ow1 P S a b c i bf = b from by unfold ow1; rw [if_pos h2, if_neg h1, if_pos h3]] at h; exact h
  · rw [show ow1 P S a b c i bf = a from by unfold ow1; rw [if_pos h2, if_neg h1, if_neg h3]] at h; exact h
  · rw [show ow1 P S a b c i bf = b from by unfold ow1; rw [if_neg h2, if_pos h1, if_pos h3]] at h; exact h
  · rw [show ow1 P S a b c i bf = a from by unfold ow1; rw [if_neg h2, if_pos h1, if_neg h3]] at h; exact h
  · rw [show ow1 P S a b c i bf = b from by unfold ow1; rw [if_pos h2, if_pos h1, if_pos h3]] at h; exact h
  · rw [show ow1 P S a b c i bf = a from by unfold ow1; rw [if_pos h2, if_pos h1, if_neg h3]] at h; exact h
/-- a change at a window -/
def chg (o : Nat → Int32) (w : Nat) : Bool := decide (0 < w ∧ ¬ o w = o (w - 1))
theorem choose_sp {N W : Nat} {s : St} {a b c : Int32} {P S : Nat → Int64} {Q : Int32 → St → Prop} (hN : 1000 ≤ N) (hW : W ≤ 100) (e7 : sF s 3 0 7 = nI W) (e36 : ∀ w, w < W → sB s 36 0 w = P w) (e37 : ∀ w, w < W → sB s 37 0 w = S w) (h : ∀ s', AL s s' → sF s' = sF s → sB s' = sB s → (∀ w, w < W → sA s' 38 0 w = ownr P S a b c w) → Q (nI (ct (chg (ownr P S a b c)) W)) s') : fX3_choose N s a b c Q := by
  unfold fX3_choose
  refine lpU (fun k i (y : St × Int32) => fX3_choose_l6 N a b c Q _ k y.1 y.2 (nI i)) (fun i y => y.2 = nI (ct (chg (ownr P S a b c)) i) ∧ AL s y.1 ∧ sF y.1 = sF s ∧ sB y.1 = sB s ∧ ∀ w, w < i → sA y.1 38 0 w = ownr P S a b c w) W N ?_ ?_ 0 (s, nI 0) (by omega) (by omega) ⟨rfl, AL.rfl', rfl, rfl, fun w hw => absurd hw (by omega)⟩
  · rintro k ⟨y, v⟩ ⟨ev, y1, y2, y3, y4⟩
    have ev : v = _ := ev
    have y2 : sF y = sF s := y2
    subst ev
    have e7y : sF y 3 0 7 = nI W := by rw [y2]; exact e7
    have q := h y y1 y2 y3 y4
    simp (disch := omega) only [li0, li1, li2, li3, li4, li5, li6, li12, li13, li14, li15, li16, li17, li32, li33, li39, li60, li65, li90, li91, li93, li97, li100, li122, li126, li200, li800, li1000, li1400, li2800, li3432, li9999, li10000000, ↓lm1, ↓lm2, ↓lm3, ↓lm4, ↓lm9, le_T, le_F, lt_T, lt_F, eq_F, eq_T, vp_T, mle_F, mle_T, mlt_F, mlt_T, meq_F, meq_F', mne, aR, mR, sR', nI_clamp, br_nT, br_nF, ex_s, true_implies, false_implies, not_true_eq_false, not_false_eq_true, true_and, and_true, forall_eq, implies_true, and_self, reduceIte, reduceCtorEq, Nat.reduceEqDiff, Nat.reduceAdd, Nat.reduceMul, Nat.reduceSub, ite_true, ite_false, if_true, if_false, eq_self, and_false, false_and, fa_s, fa_n, cfF, cfA, cfJ, cfB, cfR, mfF, mfA, mfJ, mfB, mfR, c_foundE, m_meetsE, fX11_isSheet, fX11_in, fX10_sheetAt, fX10_sheetAt_b22, fX10_textAt, fX10_textAt_b22, fX11_isText, fX2_has, fX11_isFeature, nar_byte, byte_i, lg_gt, lg_eq, lg_lt, all_A, sF_F, sF_A, sF_J, sF_B, sF_R, sF_all, sA_F, sA_A, sA_J, sA_B, sA_R, sA_all, sJ_F, sJ_A, sJ_J, sJ_B, sJ_R, sJ_all, sB_F, sB_A, sB_J, sB_B, sB_R, sB_all, sR_F, sR_A, sR_J, sR_B, sR_R, sR_all, fX3_choose_l6, e7y]
    exact q
  · rintro k i ⟨y, v⟩ hi ⟨ev, y1, y2, y3, y4⟩ K
    have ev : v = _ := ev
    have y1 : AL s y := y1
    have y2 : sF y = sF s := y2
    have y3 : sB y = sB s := y3
    have y4 : ∀ w, w < i → sA y 38 0 w = ownr P S a b c w := y4
    subst ev
    have e7y : sF y 3 0 7 = nI W := by rw [y2]; exact e7
    have K := fun v (e : v = nI (ct (chg (ownr P S a b c)) (i + 1))) => K (setA y 38 0 i (ownr P S a b c i), v) ⟨e, y1.trans al_A38, y2, y3, fun w hw => by
      show sA (setA y 38 0 i (ownr P S a b c i)) 38 0 w = _
      simp only [sF_F, sF_A, sF_J, sF_B, sF_R, sF_all, sA_F, sA_A, sA_J, sA_B, sA_R, sA_all, sJ_F, sJ_A, sJ_J, sJ_B, sJ_R, sJ_all, sB_F, sB_A, sB_J, sB_B, sB_R, sB_all, sR_F, sR_A, sR_J, sR_B, sR_R, sR_all]
      by_cases d : w = i
      · subst d; rw [if_pos (by simp)]
      · rw [if_neg (by simp; exact d)]; exact y4 w (by omega)⟩
    rw [ct_s] at K
    have e36' : sB y 36 0 i = P i := by rw [y3]; exact e36 i hi
    have e37' : sB y 37 0 i = S i := by rw [y3]; exact e37 i hi
    rcases Nat.eq_zero_or_pos i with rfl | h0
    · have K := K _ (by rw [if_neg (by unfold chg; simp)])
      simp (disch := omega) only [li0, li1, li2, li3, li4, li5, li6, li12, li13, li14, li15, li16, li17, li32, li33, li39, li60, li65, li90, li91, li93, li97, li100, li122, li126, li200, li800, li1000, li1400, li2800, li3432, li9999, li10000000, ↓lm1, ↓lm2, ↓lm3, ↓lm4, ↓lm9, le_T, le_F, lt_T, lt_F, eq_F, eq_T, vp_T, mle_F, mle_T, mlt_F, mlt_T, meq_F, meq_F', mne, aR, mR, sR', nI_clamp, br_nT, br_nF, ex_s, true_implies, false_implies, not_true_eq_false, not_false_eq_true, true_and, and_true, forall_eq, implies_true, and_self, reduceIte, reduceCtorEq, Nat.reduceEqDiff, Nat.reduceAdd, Nat.reduceMul, Nat.reduceSub, ite_true, ite_false, if_true, if_false, eq_self, and_false, false_and, fa_s, fa_n, cfF, cfA, cfJ, cfB, cfR, mfF, mfA, mfJ, mfB, mfR, c_foundE, m_meetsE, fX11_isSheet, fX11_in, fX10_sheetAt, fX10_sheetAt_b22, fX10_textAt, fX10_textAt_b22, fX11_isText, fX2_has, fX11_isFeature, nar_byte, byte_i, lg_gt, lg_eq, lg_lt, all_A, sF_F, sF_A, sF_J, sF_B, sF_R, sF_all, sA_F, sA_A, sA_J, sA_B, sA_R, sA_all, sJ_F, sJ_A, sJ_J, sJ_B, sJ_R, sJ_all, sB_F, sB_A, sB_J, sB_B, sB_R, sB_all, sR_F, sR_A, sR_J, sR_B, sR_R, sR_all, fX3_choose_l6, e7y]
      refine cch44 (P := P) (S := S) (by decide) e36' e37' ?_
      simp (disch := omega) only [li0, li1, li2, li3, li4, li5, li6, li12, li13, li14, li15, li16, li17, li32, li33, li39, li60, li65, li90, li91, li93, li97, li100, li122, li126, li200, li800, li1000, li1400, li2800, li3432, li9999, li10000000, ↓lm1, ↓lm2, ↓lm3, ↓lm4, ↓lm9, le_T, le_F, lt_T, lt_F, eq_F, eq_T, vp_T, mle_F, mle_T, mlt_F, mlt_T, meq_F, meq_F', mne, aR, mR, sR', nI_clamp, br_nT, br_nF, ex_s, true_implies, false_implies, not_true_eq_false, not_false_eq_true, true_and, and_true, forall_eq, implies_true, and_self, reduceIte, reduceCtorEq, Nat.reduceEqDiff, Nat.reduceAdd, Nat.reduceMul, Nat.reduceSub, ite_true, ite_false, if_true, if_false, eq_self, and_false, false_and, fa_s, fa_n, cfF, cfA, cfJ, cfB, cfR, mfF, mfA, mfJ, mfB, mfR, c_foundE, m_meetsE, fX11_isSheet, fX11_in, fX10_sheetAt, fX10_sheetAt_b22, fX10_textAt, fX10_textAt_b22, fX11_isText, fX2_has, fX11_isFeature, nar_byte, byte_i, lg_gt, lg_eq, lg_lt, all_A, sF_F, sF_A, sF_J, sF_B, sF_R, sF_all, sA_F, sA_A, sA_J, sA_B, sA_R, sA_all, sJ_F, sJ_A, sJ_J, sJ_B, sJ_R, sJ_all, sB_F, sB_A, sB_J, sB_B, sB_R, sB_all, sR_F, sR_A, sR_J, sR_B, sR_R, sR_all, fX3_choose_b109_6, fX3_choose_b130_6]
      exact K
    · have ebf : sA y 38 0 (i - 1) = ownr P S a b c (i - 1) := y4 (i - 1) (by omega)
      have eo : ow1 P S a b c i (ownr P S a b c (i - 1)) = ownr P S a b c i := by
        obtain ⟨j, rfl⟩ : ∃ j, i = j + 1 := ⟨i - 1, by omega⟩
        rfl
      simp (disch := omega) only [li0, li1, li2, li3, li4, li5, li6, li12, li13, li14, li15, li16, li17, li32, li33, li39, li60, li65, li90, li91, li93, li97, li100, li122, li126, li200, li800, li1000, li1400, li2800, li3432, li9999, li10000000, ↓lm1, ↓lm2, ↓lm3, ↓lm4, ↓lm9, le_T, le_F, lt_T, lt_F, eq_F, eq_T, vp_T, mle_F, mle_T, mlt_F, mlt_T, meq_F, meq_F', mne, aR, mR, sR', nI_clamp, br_nT, br_nF, ex_s, true_implies, false_implies, not_true_eq_false, not_false_eq_true, true_and, and_true, forall_eq, implies_true, and_self, reduceIte, reduceCtorEq, Nat.reduceEqDiff, Nat.reduceAdd, Nat.reduceMul, Nat.reduceSub, ite_true, ite_false, if_true, if_false, eq_self, and_false, false_and, fa_s, fa_n, cfF, cfA, cfJ, cfB, cfR, mfF, mfA, mfJ, mfB, mfR, c_foundE, m_meetsE, fX11_isSheet, fX11_in, fX10_sheetAt, fX10_sheetAt_b22, fX10_textAt, fX10_textAt_b22, fX11_isText, fX2_has, fX11_isFeature, nar_byte, byte_i, lg_gt, lg_eq, lg_lt, all_A, sF_F, sF_A, sF_J, sF_B, sF_R, sF_all, sA_F, sA_A, sA_J, sA_B, sA_R, sA_all, sJ_F, sJ_A, sJ_J, sJ_B, sJ_R, sJ_all, sB_F, sB_A, sB_J, sB_B, sB_R, sB_all, sR_F, sR_A, sR_J, sR_B, sR_R, sR_all, fX3_choose_l6, e7y, ebf]
      refine cch44 (P := P) (S := S) (by omega) e36' e37' ?_
      rw [eo]
      by_cases d : ownr P S a b c i = ownr P S a b c (i - 1)
      · have K := K _ (by rw [if_neg (by unfold chg; simp [d])])
        rw [d] at K ⊢
        simp (disch := omega) only [li0, li1, li2, li3, li4, li5, li6, li12, li13, li14, li15, li16, li17, li32, li33, li39, li60, li65, li90, li91, li93, li97, li100, li122, li126, li200, li800, li1000, li1400, li2800, li3432, li9999, li10000000, ↓lm1, ↓lm2, ↓lm3, ↓lm4, ↓lm9, le_T, le_F, lt_T, lt_F, eq_F, eq_T, vp_T, mle_F, mle_T, mlt_F, mlt_T, meq_F, meq_F', mne, aR, mR, sR', nI_clamp, br_nT, br_nF, ex_s, true_implies, false_implies, not_true_eq_false, not_false_eq_true, true_and, and_true, forall_eq, implies_true, and_self, reduceIte, reduceCtorEq, Nat.reduceEqDiff, Nat.reduceAdd, Nat.reduceMul, Nat.reduceSub, ite_true, ite_false, if_true, if_false, eq_self, and_false, false_and, fa_s, fa_n, cfF, cfA, cfJ, cfB, cfR, mfF, mfA, mfJ, mfB, mfR, c_foundE, m_meetsE, fX11_isSheet, fX11_in, fX10_sheetAt, fX10_sheetAt_b22, fX10_textAt, fX10_textAt_b22, fX11_isText, fX2_has, fX11_isFeature, nar_byte, byte_i, lg_gt, lg_eq, lg_lt, all_A, sF_F, sF_A, sF_J, sF_B, sF_R, sF_all, sA_F, sA_A, sA_J, sA_B, sA_R, sA_all, sJ_F, sJ_A, sJ_J, sJ_B, sJ_R, sJ_all, sB_F, sB_A, sB_J, sB_B, sB_R, sB_all, sR_F, sR_A, sR_J, sR_B, sR_R, sR_all, fX3_choose_b109_6, fX3_choose_b130_6]
        exact K
      · have K := K _ (by rw [if_pos (by unfold chg; simp [d]; omega)])
        simp (disch := omega) only [li0, li1, li2, li3, li4, li5, li6, li12, li13, li14, li15, li16, li17, li32, li33, li39, li60, li65, li90, li91, li93, li97, li100, li122, li126, li200, li800, li1000, li1400, li2800, li3432, li9999, li10000000, ↓lm1, ↓lm2, ↓lm3, ↓lm4, ↓lm9, le_T, le_F, lt_T, lt_F, eq_F, eq_T, vp_T, mle_F, mle_T, mlt_F, mlt_T, meq_F, meq_F', mne, aR, mR, sR', nI_clamp, br_nT, br_nF, ex_s, true_implies, false_implies, not_true_eq_false, not_false_eq_true, true_and, and_true, forall_eq, implies_true, and_self, reduceIte, reduceCtorEq, Nat.reduceEqDiff, Nat.reduceAdd, Nat.reduceMul, Nat.reduceSub, ite_true, ite_false, if_true, if_false, eq_self, and_false, false_and, fa_s, fa_n, cfF, cfA, cfJ, cfB, cfR, mfF, mfA, mfJ, mfB, mfR, c_foundE, m_meetsE, fX11_isSheet, fX11_in, fX10_sheetAt, fX10_sheetAt_b22, fX10_textAt, fX10_textAt_b22, fX11_isText, fX2_has, fX11_isFeature, nar_byte, byte_i, lg_gt, lg_eq, lg_lt, all_A, sF_F, sF_A, sF_J, sF_B, sF_R, sF_all, sA_F, sA_A, sA_J, sA_B, sA_R, sA_all, sJ_F, sJ_A, sJ_J, sJ_B, sJ_R, sJ_all, sB_F, sB_A, sB_J, sB_B, sB_R, sB_all, sR_F, sR_A, sR_J, sR_B, sR_R, sR_all, fX3_choose_b109_6, fX3_choose_b130_6, d]
        exact K
theorem mchoose_sp {N W : Nat} {s : St} {x1 x2 a b c : Int32} {P S : Nat → Int64} {Q : Int32 → St → Prop} {K0 : St → Int32 → Prop} (hN : 1000 ≤ N) (hW : W ≤ 100) (e7 : sF s 11 0 25 = nI W) (e36 : ∀ w, w < W → sB s 87 0 w = P w) (e37 : ∀ w, w < W → sB s 88 0 w = S w) (h : ∀ F : Nat → Int32, (∀ w, w < W → F w = ownr P S a b c w) → K0 (setAll s 86 0 F) (nI (ct (chg (ownr P S a b c)) W))) : fX11_part_l331 N x1 x2 a b c Q K0 N s (nI 0) (nI 0) := by
  refine lpU (fun k i (y : St × Int32) => fX11_part_l331 N x1 x2 a b c Q K0 k y.1 y.2 (nI i)) (fun i y => y.2 = nI (ct (chg (ownr P S a b c)) i) ∧ ∃ F : Nat → Int32, y.1 = setAll s 86 0 F ∧ ∀ w, w < i → F w = ownr P S a b c w) W N ?_ ?_ 0 (s, nI 0) (by omega) (by omega) ⟨rfl, sA s 86 0, (all_self s 86 0).symm, fun w hw => absurd hw (by omega)⟩
  · rintro k ⟨y, v⟩ ⟨ev, F, ey, hF⟩
    have ev : v = _ := ev
    have ey : y = _ := ey
    subst ev; subst ey
    have q := h F hF
    simp (disch := omega) only [li0, li1, li2, li3, li4, li5, li6, li12, li13, li14, li15, li16, li17, li32, li33, li39, li60, li65, li90, li91, li93, li97, li100, li122, li126, li200, li800, li1000, li1400, li2800, li3432, li9999, li10000000, ↓lm1, ↓lm2, ↓lm3, ↓lm4, ↓lm9, le_T, le_F, lt_T, lt_F, eq_F, eq_T, vp_T, mle_F, mle_T, mlt_F, mlt_T, meq_F, meq_F', mne, aR, mR, sR', nI_clamp, br_nT, br_nF, ex_s, true_implies, false_implies, not_true_eq_false, not_false_eq_true, true_and, and_true, forall_eq, implies_true, and_self, reduceIte, reduceCtorEq, Nat.reduceEqDiff, Nat.reduceAdd, Nat.reduceMul, Nat.reduceSub, ite_true, ite_false, if_true, if_false, eq_self, and_false, false_and, fa_s, fa_n, cfF, cfA, cfJ, cfB, cfR, mfF, mfA, mfJ, mfB, mfR, c_foundE, m_meetsE, fX11_isSheet, fX11_in, fX10_sheetAt, fX10_sheetAt_b22, fX10_textAt, fX10_textAt_b22, fX11_isText, fX2_has, fX11_isFeature, nar_byte, byte_i, lg_gt, lg_eq, lg_lt, all_A, sF_F, sF_A, sF_J, sF_B, sF_R, sF_all, sA_F, sA_A, sA_J, sA_B, sA_R, sA_all, sJ_F, sJ_A, sJ_J, sJ_B, sJ_R, sJ_all, sB_F, sB_A, sB_J, sB_B, sB_R, sB_all, sR_F, sR_A, sR_J, sR_B, sR_R, sR_all, fX11_part_l331, e7]
    exact q
  · rintro k i ⟨y, v⟩ hi ⟨ev, F, ey, hF⟩ K
    have ev : v = _ := ev
    have ey : y = _ := ey
    subst ev; subst ey
    have K := fun v (e : v = nI (ct (chg (ownr P S a b c)) (i + 1))) => K (setAll s 86 0 (upd F i (ownr P S a b c i)), v) ⟨e, _, rfl, fun w hw => by
      unfold upd
      by_cases d : w = i
      · subst d; rw [if_pos rfl]
      · rw [if_neg d]; exact hF w (by omega)⟩
    rw [ct_s] at K
    have e36' : sB (setAll s 86 0 F) 87 0 i = P i := e36 i hi
    have e37' : sB (setAll s 86 0 F) 88 0 i = S i := e37 i hi
    have e7y : sF (setAll s 86 0 F) 11 0 25 = nI W := e7
    rcases Nat.eq_zero_or_pos i with rfl | h0
    · have K := K _ (by rw [if_neg (by unfold chg; simp)])
      simp (disch := omega) only [li0, li1, li2, li3, li4, li5, li6, li12, li13, li14, li15, li16, li17, li32, li33, li39, li60, li65, li90, li91, li93, li97, li100, li122, li126, li200, li800, li1000, li1400, li2800, li3432, li9999, li10000000, ↓lm1, ↓lm2, ↓lm3, ↓lm4, ↓lm9, le_T, le_F, lt_T, lt_F, eq_F, eq_T, vp_T, mle_F, mle_T, mlt_F, mlt_T, meq_F, meq_F', mne, aR, mR, sR', nI_clamp, br_nT, br_nF, ex_s, true_implies, false_implies, not_true_eq_false, not_false_eq_true, true_and, and_true, forall_eq, implies_true, and_self, reduceIte, reduceCtorEq, Nat.reduceEqDiff, Nat.reduceAdd, Nat.reduceMul, Nat.reduceSub, ite_true, ite_false, if_true, if_false, eq_self, and_false, false_and, fa_s, fa_n, cfF, cfA, cfJ, cfB, cfR, mfF, mfA, mfJ, mfB, mfR, c_foundE, m_meetsE, fX11_isSheet, fX11_in, fX10_sheetAt, fX10_sheetAt_b22, fX10_textAt, fX10_textAt_b22, fX11_isText, fX2_has, fX11_isFeature, nar_byte, byte_i, lg_gt, lg_eq, lg_lt, all_A, sF_F, sF_A, sF_J, sF_B, sF_R, sF_all, sA_F, sA_A, sA_J, sA_B, sA_R, sA_all, sJ_F, sJ_A, sJ_J, sJ_B, sJ_R, sJ_all, sB_F, sB_A, sB_J, sB_B, sB_R, sB_all, sR_F, sR_A, sR_J, sR_B, sR_R, sR_all, fX11_part_l331, e7]
      refine mch59 (P := P) (S := S) (by decide) e36' e37' ?_
      simp (disch := omega) only [li0, li1, li2, li3, li4, li5, li6, li12, li13, li14, li15, li16, li17, li32, li33, li39, li60, li65, li90, li91, li93, li97, li100, li122, li126, li200, li800, li1000, li1400, li2800, li3432, li9999, li10000000, ↓lm1, ↓lm2, ↓lm3, ↓lm4, ↓lm9, le_T, le_F, lt_T, lt_F, eq_F, eq_T, vp_T, mle_F, mle_T, mlt_F, mlt_T, meq_F, meq_F', mne, aR, mR, sR', nI_clamp, br_nT, br_nF, ex_s, true_implies, false_implies, not_true_eq_false, not_false_eq_true, true_and, and_true, forall_eq, implies_true, and_self, reduceIte, reduceCtorEq, Nat.reduceEqDiff, Nat.reduceAdd, Nat.reduceMul, Nat.reduceSub, ite_true, ite_false, if_true, if_false, eq_self, and_false, false_and, fa_s, fa_n, cfF, cfA, cfJ, cfB, cfR, mfF, mfA, mfJ, mfB, mfR, c_foundE, m_meetsE, fX11_isSheet, fX11_in, fX10_sheetAt, fX10_sheetAt_b22, fX10_textAt, fX10_textAt_b22, fX11_isText, fX2_has, fX11_isFeature, nar_byte, byte_i, lg_gt, lg_eq, lg_lt, all_A, sF_F, sF_A, sF_J, sF_B, sF_R, sF_all, sA_F, sA_A, sA_J, sA_B, sA_R, sA_all, sJ_F, sJ_A, sJ_J, sJ_B, sJ_R, sJ_all, sB_F, sB_A, sB_J, sB_B, sB_R, sB_all, sR_F, sR_A, sR_J, sR_B, sR_R, sR_all, fX11_part_b428_331, fX11_part_b452_331, fX11_part_b453_331]
      exact K
    · have ebf : sA (setAll s 86 0 F) 86 0 (i - 1) = ownr P S a b c (i - 1) := by
        rw [sA_all, if_pos ⟨rfl, rfl⟩]; exact hF (i - 1) (by omega)
      have eo : ow1 P S a b c i (ownr P S a b c (i - 1)) = ownr P S a b c i := by
        obtain ⟨j, rfl⟩ : ∃ j, i = j + 1 := ⟨i - 1, by omega⟩
        rfl
      have hFi := hF (i - 1) (by omega)
      simp (disch := omega) only [li0, li1, li2, li3, li4, li5, li6, li12, li13, li14, li15, li16, li17, li32, li33, li39, li60, li65, li90, li91, li93, li97, li100, li122, li126, li200, li800, li1000, li1400, li2800, li3432, li9999, li10000000, ↓lm1, ↓lm2, ↓lm3, ↓lm4, ↓lm9, le_T, le_F, lt_T, lt_F, eq_F, eq_T, vp_T, mle_F, mle_T, mlt_F, mlt_T, meq_F, meq_F', mne, aR, mR, sR', nI_clamp, br_nT, br_nF, ex_s, true_implies, false_implies, not_true_eq_false, not_false_eq_true, true_and, and_true, forall_eq, implies_true, and_self, reduceIte, reduceCtorEq, Nat.reduceEqDiff, Nat.reduceAdd, Nat.reduceMul, Nat.reduceSub, ite_true, ite_false, if_true, if_false, eq_self, and_false, false_and, fa_s, fa_n, cfF, cfA, cfJ, cfB, cfR, mfF, mfA, mfJ, mfB, mfR, c_foundE, m_meetsE, fX11_isSheet, fX11_in, fX10_sheetAt, fX10_sheetAt_b22, fX10_textAt, fX10_textAt_b22, fX11_isText, fX2_has, fX11_isFeature, nar_byte, byte_i, lg_gt, lg_eq, lg_lt, all_A, sF_F, sF_A, sF_J, sF_B, sF_R, sF_all, sA_F, sA_A, sA_J, sA_B, sA_R, sA_all, sJ_F, sJ_A, sJ_J, sJ_B, sJ_R, sJ_all, sB_F, sB_A, sB_J, sB_B, sB_R, sB_all, sR_F, sR_A, sR_J, sR_B, sR_R, sR_all, fX11_part_l331, e7, hFi]
      refine mch59 (P := P) (S := S) (by omega) e36' e37' ?_
      rw [eo]
      have ui : upd F i (ownr P S a b c i) i = ownr P S a b c i := by unfold upd; rw [if_pos rfl]
      by_cases d : ownr P S a b c i = ownr P S a b c (i - 1)
      · have K := K _ (by rw [if_neg (by unfold chg; simp [d])])
        rw [d] at K ui ⊢
        simp (disch := omega) only [li0, li1, li2, li3, li4, li5, li6, li12, li13, li14, li15, li16, li17, li32, li33, li39, li60, li65, li90, li91, li93, li97, li100, li122, li126, li200, li800, li1000, li1400, li2800, li3432, li9999, li10000000, ↓lm1, ↓lm2, ↓lm3, ↓lm4, ↓lm9, le_T, le_F, lt_T, lt_F, eq_F, eq_T, vp_T, mle_F, mle_T, mlt_F, mlt_T, meq_F, meq_F', mne, aR, mR, sR', nI_clamp, br_nT, br_nF, ex_s, true_implies, false_implies, not_true_eq_false, not_false_eq_true, true_and, and_true, forall_eq, implies_true, and_self, reduceIte, reduceCtorEq, Nat.reduceEqDiff, Nat.reduceAdd, Nat.reduceMul, Nat.reduceSub, ite_true, ite_false, if_true, if_false, eq_self, and_false, false_and, fa_s, fa_n, cfF, cfA, cfJ, cfB, cfR, mfF, mfA, mfJ, mfB, mfR, c_foundE, m_meetsE, fX11_isSheet, fX11_in, fX10_sheetAt, fX10_sheetAt_b22, fX10_textAt, fX10_textAt_b22, fX11_isText, fX2_has, fX11_isFeature, nar_byte, byte_i, lg_gt, lg_eq, lg_lt, all_A, sF_F, sF_A, sF_J, sF_B, sF_R, sF_all, sA_F, sA_A, sA_J, sA_B, sA_R, sA_all, sJ_F, sJ_A, sJ_J, sJ_B, sJ_R, sJ_all, sB_F, sB_A, sB_J, sB_B, sB_R, sB_all, sR_F, sR_A, sR_J, sR_B, sR_R, sR_all, fX11_part_b428_331, fX11_part_b452_331, fX11_part_b453_331, ui]
        exact K
      · have K := K _ (by rw [if_pos (by unfold chg; simp [d]; omega)])
        simp (disch := omega) only [li0, li1, li2, li3, li4, li5, li6, li12, li13, li14, li15, li16, li17, li32, li33, li39, li60, li65, li90, li91, li93, li97, li100, li122, li126, li200, li800, li1000, li1400, li2800, li3432, li9999, li10000000, ↓lm1, ↓lm2, ↓lm3, ↓lm4, ↓lm9, le_T, le_F, lt_T, lt_F, eq_F, eq_T, vp_T, mle_F, mle_T, mlt_F, mlt_T, meq_F, meq_F', mne, aR, mR, sR', nI_clamp, br_nT, br_nF, ex_s, true_implies, false_implies, not_true_eq_false, not_false_eq_true, true_and, and_true, forall_eq, implies_true, and_self, reduceIte, reduceCtorEq, Nat.reduceEqDiff, Nat.reduceAdd, Nat.reduceMul, Nat.reduceSub, ite_true, ite_false, if_true, if_false, eq_self, and_false, false_and, fa_s, fa_n, cfF, cfA, cfJ, cfB, cfR, mfF, mfA, mfJ, mfB, mfR, c_foundE, m_meetsE, fX11_isSheet, fX11_in, fX10_sheetAt, fX10_sheetAt_b22, fX10_textAt, fX10_textAt_b22, fX11_isText, fX2_has, fX11_isFeature, nar_byte, byte_i, lg_gt, lg_eq, lg_lt, all_A, sF_F, sF_A, sF_J, sF_B, sF_R, sF_all, sA_F, sA_A, sA_J, sA_B, sA_R, sA_all, sJ_F, sJ_A, sJ_J, sJ_B, sJ_R, sJ_all, sB_F, sB_A, sB_J, sB_B, sB_R, sB_all, sR_F, sR_A, sR_J, sR_B, sR_R, sR_all, fX11_part_b428_331, fX11_part_b452_331, fX11_part_b453_331, ui, d]
        exact K
