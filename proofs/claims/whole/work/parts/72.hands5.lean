theorem sb_wh {σ : St} {p : Nat → Bool} {f so n : Nat} (es : sA σ 79 0 f = nI so) : sb p (wh σ f) n = if nI so = nI 0 then sb p (mkM σ) n else sb p (nwM σ) n := by
  have e : wh σ f = if nI so = nI 0 then mkM σ else nwM σ := by
    funext t; unfold wh; rw [es]; split <;> rfl
  rw [e]; split <;> rfl
theorem sm_bd {σ : St} {n m : Nat} (rt : RT σ n m) (p : Nat → Bool) : sb p (mkM σ) n ≤ 2800 ∧ sb p (nwM σ) n ≤ 2800 ∧ ∀ f, sb p (cnt σ f) n ≤ 2800 ∧ sb p (wh σ f) n ≤ 2800 := by
  have hn := rt.1
  have h1 : sb p (mkM σ) n ≤ 200 * n := sb_le (fun t ht => (rt.2.2.2.2.1 t ht).2.1)
  have h2 : sb p (nwM σ) n ≤ 200 * n := sb_le (fun t ht => by have := (rt.2.2.2.2.1 t ht).1.2.1; omega)
  refine ⟨by omega, by omega, fun f => ⟨?_, ?_⟩⟩
  · have h3 : sb p (cnt σ f) n ≤ 200 * n := sb_le (fun t ht => cnt_le rt ht)
    omega
  · have h3 : sb p (wh σ f) n ≤ 200 * n := sb_le (fun t ht => wh_le rt ht)
    omega
theorem rtH_le {σ : St} {n m f : Nat} {p : Nat → Bool} (rt : RT σ n m) : rtH σ n p f < 10 ^ 8 := by
  have := rvN_le (a := sb p (cnt σ f) n) (b := sb p (wh σ f) n) (A := 2800) ((sm_bd rt p).2.2 f).1
  unfold rtH; omega
theorem rtT_le {σ : St} {n m t f : Nat} (rt : RT σ n m) (ht : t < n) : rtT σ t f < 10 ^ 8 := by
  have := rtM_1 (σ := σ) (f := f) rt.1 ht; have := rtM_le (f := f) (x := nI 1 <<< (nI t &&& 31)) rt; omega
theorem Hd_all {σ s : St} {n m w row : Nat} {x : Int32} {F : Nat → Int32} (h : Hd σ s n m x w) (hr : row ≠ 3 + w) : Hd σ (setAll s 23 row F) n m x w := by
  refine ⟨?_, fun f hf => ?_⟩
  · simp only [sF_F, sF_A, sF_J, sF_B, sF_R, sF_all, sA_F, sA_A, sA_J, sA_B, sA_R, sA_all, sJ_F, sJ_A, sJ_J, sJ_B, sJ_R, sJ_all, sB_F, sB_A, sB_J, sB_B, sB_R, sB_all, sR_F, sR_A, sR_J, sR_B, sR_R, sR_all]; rw [if_neg (fun z => absurd z.1 (by decide))]; exact h.1
  · simp only [sF_F, sF_A, sF_J, sF_B, sF_R, sF_all, sA_F, sA_A, sA_J, sA_B, sA_R, sA_all, sJ_F, sJ_A, sJ_J, sJ_B, sJ_R, sJ_all, sB_F, sB_A, sB_J, sB_B, sB_R, sB_all, sR_F, sR_A, sR_J, sR_B, sR_R, sR_all]; rw [if_neg (fun z => hr z.2.symm)]; exact h.2 f hf
theorem hands_r {N n m w : Nat} {σ s : St} {x : Int32} {Q : St → Prop} (hN : 1000 ≤ N) (ct' : CT σ n m) (hw : w < 6) (kp : KP σ s) (hi : HI σ s m x w n) (hd : ∀ w', w' < w → Hd σ s n m x w') (h : ∀ s, KP σ s → (∀ w', w' < w + 1 → Hd σ s n m x w') → Q s) : fX2_readRates N s 14 (3 + w) Q := by
  have rt := ct'.rt
  have hm := ct'.2.1
  have cs := CT_c ct' kp.1
  have sm1 := kp.2.sm
  refine readRates_sp hN hm cs.2.2.1.2.2.1 (r := rtH σ n (hp σ (nI w) x)) (fun F f hf Q hq => ?_) (fun F hF => ?_)
  · have ft := cs.2.2.2.2.1 f hf
    obtain ⟨so, hso, es, -⟩ := id ft
    have es' : sA σ 79 0 f = nI so := by rw [← sm1.2 79 (by decide) (by decide)]; exact es
    obtain ⟨b1, b2, b3⟩ := sm_bd rt (hp σ (nI w) x)
    refine crate_sp (m := m) (so := so) (c := sb (hp σ (nI w) x) (cnt σ f) n) (w1 := sb (hp σ (nI w) x) (nwM σ) n) (w2 := sb (hp σ (nI w) x) (mkM σ) n) hf hm (by have q : G5 m (setAll s 23 (3 + w) F) := by { have g5 := cs.2.2.2.2.1; exact (G5_c g5 (by simp [sFx, sAx, sLx, sJx, sBx, sF_F, sF_A, sF_J, sF_B, sF_R, sF_all, sA_F, sA_A, sA_J, sA_B, sA_R, sA_all, sJ_F, sJ_A, sJ_J, sJ_B, sJ_R, sJ_all, sB_F, sB_A, sB_J, sB_B, sB_R, sB_all, sR_F, sR_A, sR_J, sR_B, sR_R, sR_all]) (by simp [sFx, sAx, sLx, sJx, sBx, sF_F, sF_A, sF_J, sF_B, sF_R, sF_all, sA_F, sA_A, sA_J, sA_B, sA_R, sA_all, sJ_F, sJ_A, sJ_J, sJ_B, sJ_R, sJ_all, sB_F, sB_A, sB_J, sB_B, sB_R, sB_all, sR_F, sR_A, sR_J, sR_B, sR_R, sR_all]) (by simp [sFx, sAx, sLx, sJx, sBx, sF_F, sF_A, sF_J, sF_B, sF_R, sF_all, sA_F, sA_A, sA_J, sA_B, sA_R, sA_all, sJ_F, sJ_A, sJ_J, sJ_B, sJ_R, sJ_all, sB_F, sB_A, sB_J, sB_B, sB_R, sB_all, sR_F, sR_A, sR_J, sR_B, sR_R, sR_all]) (by simp [sFx, sAx, sLx, sJx, sBx, sF_F, sF_A, sF_J, sF_B, sF_R, sF_all, sA_F, sA_A, sA_J, sA_B, sA_R, sA_all, sJ_F, sJ_A, sJ_J, sJ_B, sJ_R, sJ_all, sB_F, sB_A, sB_J, sB_B, sB_R, sB_all, sR_F, sR_A, sR_J, sR_B, sR_R, sR_all]) (by simp [sFx, sAx, sLx, sJx, sBx, sF_F, sF_A, sF_J, sF_B, sF_R, sF_all, sA_F, sA_A, sA_J, sA_B, sA_R, sA_all, sJ_F, sJ_A, sJ_J, sJ_B, sJ_R, sJ_all, sB_F, sB_A, sB_J, sB_B, sB_R, sB_all, sR_F, sR_A, sR_J, sR_B, sR_R, sR_all]) (by simp [sFx, sAx, sLx, sJx, sBx, sF_F, sF_A, sF_J, sF_B, sF_R, sF_all, sA_F, sA_A, sA_J, sA_B, sA_R, sA_all, sJ_F, sJ_A, sJ_J, sJ_B, sJ_R, sJ_all, sB_F, sB_A, sB_J, sB_B, sB_R, sB_all, sR_F, sR_A, sR_J, sR_B, sR_R, sR_all]) (by simp [sFx, sAx, sLx, sJx, sBx, sF_F, sF_A, sF_J, sF_B, sF_R, sF_all, sA_F, sA_A, sA_J, sA_B, sA_R, sA_all, sJ_F, sJ_A, sJ_J, sJ_B, sJ_R, sJ_all, sB_F, sB_A, sB_J, sB_B, sB_R, sB_all, sR_F, sR_A, sR_J, sR_B, sR_R, sR_all])) }; exact q f hf) (by simp only [sF_F, sF_A, sF_J, sF_B, sF_R, sF_all, sA_F, sA_A, sA_J, sA_B, sA_R, sA_all, sJ_F, sJ_A, sJ_J, sJ_B, sJ_R, sJ_all, sB_F, sB_A, sB_J, sB_B, sB_R, sB_all, sR_F, sR_A, sR_J, sR_B, sR_R, sR_all]; rw [if_neg (fun z => absurd z.1 (by decide))]; exact es) hso ?_ ?_ ?_ (by omega) (by omega) ?_
    · simp only [sF_F, sF_A, sF_J, sF_B, sF_R, sF_all, sA_F, sA_A, sA_J, sA_B, sA_R, sA_all, sJ_F, sJ_A, sJ_J, sJ_B, sJ_R, sJ_all, sB_F, sB_A, sB_J, sB_B, sB_R, sB_all, sR_F, sR_A, sR_J, sR_B, sR_R, sR_all]; rw [if_neg (fun z => absurd z.1 (by decide))]; exact hi.1 f hf
    · exact hi.2.1
    · exact hi.2.2.1
    · rw [← sb_wh es', rv_nI (by have := (b3 f).1; omega) (by have := (b3 f).2; omega)]
      exact hq
  · refine h _ (kp.trans (kp_all (by decide) rfl)) (fun w' hw' => ?_)
    by_cases e : w' = w
    · subst e
      refine ⟨?_, fun f hf => ?_⟩
      · simp only [sF_F, sF_A, sF_J, sF_B, sF_R, sF_all, sA_F, sA_A, sA_J, sA_B, sA_R, sA_all, sJ_F, sJ_A, sJ_J, sJ_B, sJ_R, sJ_all, sB_F, sB_A, sB_J, sB_B, sB_R, sB_all, sR_F, sR_A, sR_J, sR_B, sR_R, sR_all]; rw [if_neg (fun z => absurd z.1 (by decide))]; exact hi.2.2.2
      · simp only [sF_F, sF_A, sF_J, sF_B, sF_R, sF_all, sA_F, sA_A, sA_J, sA_B, sA_R, sA_all, sJ_F, sJ_A, sJ_J, sJ_B, sJ_R, sJ_all, sB_F, sB_A, sB_J, sB_B, sB_R, sB_all, sR_F, sR_A, sR_J, sR_B, sR_R, sR_all]; rw [if_pos (by simp)]; exact hF f hf
    · exact Hd_all (hd w' (by omega)) (by omega)
theorem readWithout_sp {N n m : Nat} {σ s0 : St} {x : Int32} {Q : St → Prop} (hN : 1000 ≤ N) (ct' : CT σ n m) (kp : KP σ s0) (h : ∀ s, KP σ s → (∀ w, w < 6 → Hd σ s n m x w) → Q s) : fX1_readWithout N s0 x Q := by
  unfold fX1_readWithout
  refine lpU (fun k i (y : St) => fX1_readWithout_l3 N x Q _ k y (nI i)) (fun i s => KP σ s ∧ ∀ w', w' < i → Hd σ s n m x w') 6 N ?_ ?_ 0 s0 (by omega) (by omega) ⟨kp, fun w' h => absurd h (by omega)⟩
  · rintro k s ⟨k1, k2⟩
    have q := h s k1 k2
    simp (disch := omega) only [li0, li1, li2, li3, li4, li5, li6, li12, li13, li14, li15, li16, li17, li32, li33, li39, li60, li65, li90, li91, li93, li97, li100, li122, li126, li200, li800, li1000, li1400, li2800, li3432, li9999, li10000000, ↓lm1, ↓lm2, ↓lm3, ↓lm4, ↓lm9, le_T, le_F, lt_T, lt_F, eq_F, eq_T, vp_T, mle_F, mle_T, mlt_F, mlt_T, meq_F, meq_F', mne, aR, mR, sR', nI_clamp, br_nT, br_nF, ex_s, true_implies, false_implies, not_true_eq_false, not_false_eq_true, true_and, and_true, forall_eq, implies_true, and_self, reduceIte, reduceCtorEq, Nat.reduceEqDiff, Nat.reduceAdd, Nat.reduceMul, Nat.reduceSub, ite_true, ite_false, if_true, if_false, eq_self, and_false, false_and, fa_s, fa_n, cfF, cfA, cfJ, cfB, cfR, mfF, mfA, mfJ, mfB, mfR, c_foundE, m_meetsE, fX11_isSheet, fX11_in, fX10_sheetAt, fX10_sheetAt_b22, fX10_textAt, fX10_textAt_b22, fX11_isText, fX2_has, fX11_isFeature, nar_byte, byte_i, lg_gt, lg_eq, lg_lt, all_A, sF_F, sF_A, sF_J, sF_B, sF_R, sF_all, sA_F, sA_A, sA_J, sA_B, sA_R, sA_all, sJ_F, sJ_A, sJ_J, sJ_B, sJ_R, sJ_all, sB_F, sB_A, sB_J, sB_B, sB_R, sB_all, sR_F, sR_A, sR_J, sR_B, sR_R, sR_all, fX1_readWithout_l3]
    exact q
  · rintro k i s hi ⟨k1, k2⟩ K
    simp (disch := omega) only [li0, li1, li2, li3, li4, li5, li6, li12, li13, li14, li15, li16, li17, li32, li33, li39, li60, li65, li90, li91, li93, li97, li100, li122, li126, li200, li800, li1000, li1400, li2800, li3432, li9999, li10000000, ↓lm1, ↓lm2, ↓lm3, ↓lm4, ↓lm9, le_T, le_F, lt_T, lt_F, eq_F, eq_T, vp_T, mle_F, mle_T, mlt_F, mlt_T, meq_F, meq_F', mne, aR, mR, sR', nI_clamp, br_nT, br_nF, ex_s, true_implies, false_implies, not_true_eq_false, not_false_eq_true, true_and, and_true, forall_eq, implies_true, and_self, reduceIte, reduceCtorEq, Nat.reduceEqDiff, Nat.reduceAdd, Nat.reduceMul, Nat.reduceSub, ite_true, ite_false, if_true, if_false, eq_self, and_false, false_and, fa_s, fa_n, cfF, cfA, cfJ, cfB, cfR, mfF, mfA, mfJ, mfB, mfR, c_foundE, m_meetsE, fX11_isSheet, fX11_in, fX10_sheetAt, fX10_sheetAt_b22, fX10_textAt, fX10_textAt_b22, fX11_isText, fX2_has, fX11_isFeature, nar_byte, byte_i, lg_gt, lg_eq, lg_lt, all_A, sF_F, sF_A, sF_J, sF_B, sF_R, sF_all, sA_F, sA_A, sA_J, sA_B, sA_R, sA_all, sJ_F, sJ_A, sJ_J, sJ_B, sJ_R, sJ_all, sB_F, sB_A, sB_J, sB_B, sB_R, sB_all, sR_F, sR_A, sR_J, sR_B, sR_R, sR_all, fX1_readWithout_l3]
    refine clear_sp hN (fun F hF => ?_)
    simp (disch := omega) only [li0, li1, li2, li3, li4, li5, li6, li12, li13, li14, li15, li16, li17, li32, li33, li39, li60, li65, li90, li91, li93, li97, li100, li122, li126, li200, li800, li1000, li1400, li2800, li3432, li9999, li10000000, ↓lm1, ↓lm2, ↓lm3, ↓lm4, ↓lm9, le_T, le_F, lt_T, lt_F, eq_F, eq_T, vp_T, mle_F, mle_T, mlt_F, mlt_T, meq_F, meq_F', mne, aR, mR, sR', nI_clamp, br_nT, br_nF, ex_s, true_implies, false_implies, not_true_eq_false, not_false_eq_true, true_and, and_true, forall_eq, implies_true, and_self, reduceIte, reduceCtorEq, Nat.reduceEqDiff, Nat.reduceAdd, Nat.reduceMul, Nat.reduceSub, ite_true, ite_false, if_true, if_false, eq_self, and_false, false_and, fa_s, fa_n, cfF, cfA, cfJ, cfB, cfR, mfF, mfA, mfJ, mfB, mfR, c_foundE, m_meetsE, fX11_isSheet, fX11_in, fX10_sheetAt, fX10_sheetAt_b22, fX10_textAt, fX10_textAt_b22, fX11_isText, fX2_has, fX11_isFeature, nar_byte, byte_i, lg_gt, lg_eq, lg_lt, all_A, sF_F, sF_A, sF_J, sF_B, sF_R, sF_all, sA_F, sA_A, sA_J, sA_B, sA_R, sA_all, sJ_F, sJ_A, sJ_J, sJ_B, sJ_R, sJ_all, sB_F, sB_A, sB_J, sB_B, sB_R, sB_all, sR_F, sR_A, sR_J, sR_B, sR_R, sR_all, nar_b0]
    have kk : KP s (setA (setF (setF (setAll s 29 14 F) 7 14 1 (nI 0)) 7 14 2 (nI 0)) 33 0 i (nI 0)) := kp_y (t := i)
    refine hands_t hN ct' hi (x := x) (k1.trans kk) ⟨fun f hf => ?_, ?_, ?_, ?_⟩ (fun w' hw' => Hd_y hw' (k2 w' hw')) (fun s2 kp2 hi2 hd2 => ?_)
    · have hm := ct'.2.1
      simp only [sF_F, sF_A, sF_J, sF_B, sF_R, sF_all, sA_F, sA_A, sA_J, sA_B, sA_R, sA_all, sJ_F, sJ_A, sJ_J, sJ_B, sJ_R, sJ_all, sB_F, sB_A, sB_J, sB_B, sB_R, sB_all, sR_F, sR_A, sR_J, sR_B, sR_R, sR_all]
      simp only [reduceCtorEq, Nat.reduceEqDiff, false_and, ite_false, true_and, and_self, ite_true]
      rw [hF f (by omega)]; rfl
    · simp only [sF_F, sF_A, sF_J, sF_B, sF_R, sF_all, sA_F, sA_A, sA_J, sA_B, sA_R, sA_all, sJ_F, sJ_A, sJ_J, sJ_B, sJ_R, sJ_all, sB_F, sB_A, sB_J, sB_B, sB_R, sB_all, sR_F, sR_A, sR_J, sR_B, sR_R, sR_all]
      simp only [reduceCtorEq, Nat.reduceEqDiff, and_false, ite_false, true_and, and_self, ite_true]; rfl
    · simp only [sF_F, sF_A, sF_J, sF_B, sF_R, sF_all, sA_F, sA_A, sA_J, sA_B, sA_R, sA_all, sJ_F, sJ_A, sJ_J, sJ_B, sJ_R, sJ_all, sB_F, sB_A, sB_J, sB_B, sB_R, sB_all, sR_F, sR_A, sR_J, sR_B, sR_R, sR_all]
      simp only [reduceCtorEq, Nat.reduceEqDiff, and_false, ite_false, true_and, and_self, ite_true]; rfl
    · simp only [sF_F, sF_A, sF_J, sF_B, sF_R, sF_all, sA_F, sA_A, sA_J, sA_B, sA_R, sA_all, sJ_F, sJ_A, sJ_J, sJ_B, sJ_R, sJ_all, sB_F, sB_A, sB_J, sB_B, sB_R, sB_all, sR_F, sR_A, sR_J, sR_B, sR_R, sR_all]
      simp only [and_self, ite_true]; rfl
    · have cs := CT_c ct' kp2.1
      have gr := cs.2.2.1.2.2.2.2.2.2.2.1 i
      rw [if_pos hi] at gr
      simp (disch := omega) only [li0, li1, li2, li3, li4, li5, li6, li12, li13, li14, li15, li16, li17, li32, li33, li39, li60, li65, li90, li91, li93, li97, li100, li122, li126, li200, li800, li1000, li1400, li2800, li3432, li9999, li10000000, ↓lm1, ↓lm2, ↓lm3, ↓lm4, ↓lm9, le_T, le_F, lt_T, lt_F, eq_F, eq_T, vp_T, mle_F, mle_T, mlt_F, mlt_T, meq_F, meq_F', mne, aR, mR, sR', nI_clamp, br_nT, br_nF, ex_s, true_implies, false_implies, not_true_eq_false, not_false_eq_true, true_and, and_true, forall_eq, implies_true, and_self, reduceIte, reduceCtorEq, Nat.reduceEqDiff, Nat.reduceAdd, Nat.reduceMul, Nat.reduceSub, ite_true, ite_false, if_true, if_false, eq_self, and_false, false_and, fa_s, fa_n, cfF, cfA, cfJ, cfB, cfR, mfF, mfA, mfJ, mfB, mfR, c_foundE, m_meetsE, fX11_isSheet, fX11_in, fX10_sheetAt, fX10_sheetAt_b22, fX10_textAt, fX10_textAt_b22, fX11_isText, fX2_has, fX11_isFeature, nar_byte, byte_i, lg_gt, lg_eq, lg_lt, all_A, sF_F, sF_A, sF_J, sF_B, sF_R, sF_all, sA_F, sA_A, sA_J, sA_B, sA_R, sA_all, sJ_F, sJ_A, sJ_J, sJ_B, sJ_R, sJ_all, sB_F, sB_A, sB_J, sB_B, sB_R, sB_all, sR_F, sR_A, sR_J, sR_B, sR_R, sR_all, gr]
      exact hands_r hN ct' hi kp2 hi2 hd2 (fun s3 k3 k4 => K s3 ⟨k3, k4⟩)
/-- has the writer w a hand -/
def hv (σ : St) (n : Nat) (x : Int32) (w : Nat) : Bool := decide (ct (hp σ (nI w) x) n ≠ 0)
theorem chas_sp {N n m w : Nat} {σ s : St} {x : Int32} {Q : Int32 → St → Prop} (hw : w < 6) (hd : Hd σ s n m x w) : fX1_has N s (nI w) Q = Q (if hv σ n x w then nI 1 else nI 0) s := by
  have e := hd.1
  unfold fl at e
  unfold hv
  simp only [fX1_has]
  by_cases c : ct (hp σ (nI w) x) n = 0
  · rw [if_pos c] at e
    rw [if_neg (by simp [c])]
    simp (disch := omega) only [li0, li1, li2, li3, li4, li5, li6, li12, li13, li14, li15, li16, li17, li32, li33, li39, li60, li65, li90, li91, li93, li97, li100, li122, li126, li200, li800, li1000, li1400, li2800, li3432, li9999, li10000000, ↓lm1, ↓lm2, ↓lm3, ↓lm4, ↓lm9, le_T, le_F, lt_T, lt_F, eq_F, eq_T, vp_T, mle_F, mle_T, mlt_F, mlt_T, meq_F, meq_F', mne, aR, mR, sR', nI_clamp, br_nT, br_nF, ex_s, true_implies, false_implies, not_true_eq_false, not_false_eq_true, true_and, and_true, forall_eq, implies_true, and_self, reduceIte, reduceCtorEq, Nat.reduceEqDiff, Nat.reduceAdd, Nat.reduceMul, Nat.reduceSub, ite_true, ite_false, if_true, if_false, eq_self, and_false, false_and, fa_s, fa_n, cfF, cfA, cfJ, cfB, cfR, mfF, mfA, mfJ, mfB, mfR, c_foundE, m_meetsE, fX11_isSheet, fX11_in, fX10_sheetAt, fX10_sheetAt_b22, fX10_textAt, fX10_textAt_b22, fX11_isText, fX2_has, fX11_isFeature, nar_byte, byte_i, lg_gt, lg_eq, lg_lt, all_A, sF_F, sF_A, sF_J, sF_B, sF_R, sF_all, sA_F, sA_A, sA_J, sA_B, sA_R, sA_all, sJ_F, sJ_A, sJ_J, sJ_B, sJ_R, sJ_all, sB_F, sB_A, sB_J, sB_B, sB_R, sB_all, sR_F, sR_A, sR_J, sR_B, sR_R, sR_all, e]
  · rw [if_neg c] at e
    rw [if_pos (by simp [c])]
    simp (disch := omega) only [li0, li1, li2, li3, li4, li5, li6, li12, li13, li14, li15, li16, li17, li32, li33, li39, li60, li65, li90, li91, li93, li97, li100, li122, li126, li200, li800, li1000, li1400, li2800, li3432, li9999, li10000000, ↓lm1, ↓lm2, ↓lm3, ↓lm4, ↓lm9, le_T, le_F, lt_T, lt_F, eq_F, eq_T, vp_T, mle_F, mle_T, mlt_F, mlt_T, meq_F, meq_F', mne, aR, mR, sR', nI_clamp, br_nT, br_nF, ex_s, true_implies, false_implies, not_true_eq_false, not_false_eq_true, true_and, and_true, forall_eq, implies_true, and_self, reduceIte, reduceCtorEq, Nat.reduceEqDiff, Nat.reduceAdd, Nat.reduceMul, Nat.reduceSub, ite_true, ite_false, if_true, if_false, eq_self, and_false, false_and, fa_s, fa_n, cfF, cfA, cfJ, cfB, cfR, mfF, mfA, mfJ, mfB, mfR, c_foundE, m_meetsE, fX11_isSheet, fX11_in, fX10_sheetAt, fX10_sheetAt_b22, fX10_textAt, fX10_textAt_b22, fX11_isText, fX2_has, fX11_isFeature, nar_byte, byte_i, lg_gt, lg_eq, lg_lt, all_A, sF_F, sF_A, sF_J, sF_B, sF_R, sF_all, sA_F, sA_A, sA_J, sA_B, sA_R, sA_all, sJ_F, sJ_A, sJ_J, sJ_B, sJ_R, sJ_all, sB_F, sB_A, sB_J, sB_B, sB_R, sB_all, sR_F, sR_A, sR_J, sR_B, sR_R, sR_all, e]
/-- farness of the text t from a hand, by the features z -/
def fa (σ : St) (n m srt : Nat) (x : Int32) (t : Nat) (z : Int32) (w : Nat) : Int32 := nI (sb (bt z) (fun f => dN srt (rtT σ t f) (rtH σ n (hp σ (nI w) x) f)) m)
/-- the hands and the text's rates are read -/
def HR (σ s : St) (n m : Nat) (x : Int32) (t : Nat) : Prop := KP σ s ∧ (∀ w, w < 6 → Hd σ s n m x w) ∧ ∀ f, f < m → sA s 23 0 f = nI (rtT σ t f)
def SR (σ : St) (srt : Nat) : Prop := srt < 2 ∧ sF σ 2 0 3 = nI srt ∧ sF σ 11 0 24 = nI srt
theorem SR_of {σ : St} (g3 : G3 σ) : ∃ srt, SR σ srt := by
  have q := g3.2.2.1
  rcases g3.2.2.2.1 with e | e
  · exact ⟨0, by decide, q.trans e, e⟩
  · exact ⟨1, by decide, q.trans e, e⟩
theorem farnessOf_sp {N n m w t srt : Nat} {σ s : St} {x z : Int32} {Q : Int32 → St → Prop} (hN : 1000 ≤ N) (ct' : CT σ n m) (sr : SR σ srt) (ht : t < n) (hw : w < 6) (hr : HR σ s n m x t) (hh : hv σ n x w = true) (h : Q (fa σ n m srt x t z w) s) : fX1_farnessOf N s (nI w) 0 z Q := by
  obtain ⟨kp, hd, h0⟩ := hr
  have cs := CT_c ct' kp.1
  have gr := cs.2.2.1.2.2.2.2.2.2.2.1 w
  rw [if_pos hw] at gr
  have m2 : sF s 2 = sF σ 2 := funext fun i => funext fun j => kp.1.1 2 i j rfl
  simp only [fX1_farnessOf, chas_sp hw (hd w hw), hh, if_true]
  simp (disch := omega) only [li0, li1, li2, li3, li4, li5, li6, li12, li13, li14, li15, li16, li17, li32, li33, li39, li60, li65, li90, li91, li93, li97, li100, li122, li126, li200, li800, li1000, li1400, li2800, li3432, li9999, li10000000, ↓lm1, ↓lm2, ↓lm3, ↓lm4, ↓lm9, le_T, le_F, lt_T, lt_F, eq_F, eq_T, vp_T, mle_F, mle_T, mlt_F, mlt_T, meq_F, meq_F', mne, aR, mR, sR', nI_clamp, br_nT, br_nF, ex_s, true_implies, false_implies, not_true_eq_false, not_false_eq_true, true_and, and_true, forall_eq, implies_true, and_self, reduceIte, reduceCtorEq, Nat.reduceEqDiff, Nat.reduceAdd, Nat.reduceMul, Nat.reduceSub, ite_true, ite_false, if_true, if_false, eq_self, and_false, false_and, fa_s, fa_n, cfF, cfA, cfJ, cfB, cfR, mfF, mfA, mfJ, mfB, mfR, c_foundE, m_meetsE, fX11_isSheet, fX11_in, fX10_sheetAt, fX10_sheetAt_b22, fX10_textAt, fX10_textAt_b22, fX11_isText, fX2_has, fX11_isFeature, nar_byte, byte_i, lg_gt, lg_eq, lg_lt, all_A, sF_F, sF_A, sF_J, sF_B, sF_R, sF_all, sA_F, sA_A, sA_J, sA_B, sA_R, sA_all, sJ_F, sJ_A, sJ_J, sJ_B, sJ_R, sJ_all, sB_F, sB_A, sB_J, sB_B, sB_R, sB_all, sR_F, sR_A, sR_J, sR_B, sR_R, sR_all, gr]
  refine farness_sp hN ct'.2.1 cs.2.2.1.2.2.1 (by rw [m2]; exact sr.2.1) sr.1 (r1 := rtT σ t) (r2 := rtH σ n (hp σ (nI w) x)) (fun f hf => ⟨h0 f hf, rtT_le ct'.rt ht⟩) (fun f hf => ⟨(hd w hw).2 f hf, rtH_le ct'.rt⟩) ?_
  exact h
theorem readHandsFor_sp {N n m t : Nat} {σ s0 : St} {Q : St → Prop} (hN : 1000 ≤ N) (ct' : CT σ n m) (kp : KP σ s0) (ht : t < n) (h : ∀ s, HR σ s n m (nI t) t → Q s) : fX10_readHandsFor N s0 (nI t) t Q := by
  unfold fX10_readHandsFor
  refine readWithout_sp hN ct' kp (fun s k1 k2 => ?_)
  have cs := CT_c ct' k1.1
  refine readText_sp hN ct'.1 ct'.2.1 ht cs.2.2.1.2.2.1 cs.rt cs.2.2.2.1 cs.2.2.2.2.1 cs.2.2.2.2.2 (fun F hF => ?_)
  refine h _ ⟨k1.trans (kp_all (by decide) rfl), fun w hw => Hd_all (k2 w hw) (by omega), fun f hf => ?_⟩
  simp only [sF_F, sF_A, sF_J, sF_B, sF_R, sF_all, sA_F, sA_A, sA_J, sA_B, sA_R, sA_all, sJ_F, sJ_A, sJ_J, sJ_B, sJ_R, sJ_all, sB_F, sB_A, sB_J, sB_B, sB_R, sB_all, sR_F, sR_A, sR_J, sR_B, sR_R, sR_all]; rw [if_pos (by simp), hF f hf, SM_rtT k1.2.sm]
/-- the nearest of the writers below i, and how far it is -/
def nb (h : Nat → Bool) (d : Nat → Int32) : Nat → Int32 × Int32
  | 0 => (mI 9, nI 0)
  | w + 1 => if h w = true ∧ ((nb h d w).1 = mI 9 ∨ d w < (nb h d w).2) then (nI w, d w) else nb h d w
theorem nb_1 (h : Nat → Bool) (d : Nat → Int32) : ∀ i, (nb h d i).1 = mI 9 ∨ ∃ b, b < i ∧ (nb h d i).1 = nI b := by
  intro i
  induction i with
  | zero => exact Or.inl rfl
  | succ w ih =>
    unfold nb
    split
    · exact Or.inr ⟨w, by omega, rfl⟩
    · rcases ih with e | ⟨b, hb, e⟩
      · exact Or.inl e
      · exact Or.inr ⟨b, by omega, e⟩
theorem nearestTo_sp {N n m t srt : Nat} {σ s : St} {x z : Int32} {Q : Int32 → St → Prop} (hN : 1000 ≤ N) (ct' : CT σ n m) (sr : SR σ srt) (ht : t < n) (hr : HR σ s n m x t) (h : Q (nb (hv σ n x) (fa σ n m srt x t z) 6).1 s) : fX1_nearestTo N s 0 z Q := by
  unfold fX1_nearestTo
  refine lpU (fun k i (y : St × Int32 × Int32) => fX1_nearestTo_l10 N 0 z Q _ k y.1 y.2.1 y.2.2 (nI i)) (fun i y => y = (s, nb (hv σ n x) (fa σ n m srt x t z) i)) 6 N ?_ ?_ 0 (s, mI 9, nI 0) (by omega) (by omega) rfl
  · rintro k y rfl
    simp (disch := omega) only [li0, li1, li2, li3, li4, li5, li6, li12, li13, li14, li15, li16, li17, li32, li33, li39, li60, li65, li90, li91, li93, li97, li100, li122, li126, li200, li800, li1000, li1400, li2800, li3432, li9999, li10000000, ↓lm1, ↓lm2, ↓lm3, ↓lm4, ↓lm9, le_T, le_F, lt_T, lt_F, eq_F, eq_T, vp_T, mle_F, mle_T, mlt_F, mlt_T, meq_F, meq_F', mne, aR, mR, sR', nI_clamp, br_nT, br_nF, ex_s, true_implies, false_implies, not_true_eq_false, not_false_eq_true, true_and, and_true, forall_eq, implies_true, and_self, reduceIte, reduceCtorEq, Nat.reduceEqDiff, Nat.reduceAdd, Nat.reduceMul, Nat.reduceSub, ite_true, ite_false, if_true, if_false, eq_self, and_false, false_and, fa_s, fa_n, cfF, cfA, cfJ, cfB, cfR, mfF, mfA, mfJ, mfB, mfR, c_foundE, m_meetsE, fX11_isSheet, fX11_in, fX10_sheetAt, fX10_sheetAt_b22, fX10_textAt, fX10_textAt_b22, fX11_isText, fX2_has, fX11_isFeature, nar_byte, byte_i, lg_gt, lg_eq, lg_lt, all_A, sF_F, sF_A, sF_J, sF_B, sF_R, sF_all, sA_F, sA_A, sA_J, sA_B, sA_R, sA_all, sJ_F, sJ_A, sJ_J, sJ_B, sJ_R, sJ_all, sB_F, sB_A, sB_J, sB_B, sB_R, sB_all, sR_F, sR_A, sR_J, sR_B, sR_R, sR_all, fX1_nearestTo_l10]
    exact h
  · rintro k i y hi rfl K
    have K := K _ rfl
    have ch := fun Q => chas_sp (N := N) (Q := Q) hi (hr.2.1 i hi)
    have cf := fun (Q : Int32 → St → Prop) hh h => farnessOf_sp (z := z) (Q := Q) hN ct' sr ht hi hr hh h
    simp only [fX1_nearestTo_l10, ch, fX1_nearestTo_b65_10, fX1_nearestTo_b57_10]
    unfold nb at K
    by_cases c : hv σ n x i = true
    · rw [c]
      simp (disch := omega) only [li0, li1, li2, li3, li4, li5, li6, li12, li13, li14, li15, li16, li17, li32, li33, li39, li60, li65, li90, li91, li93, li97, li100, li122, li126, li200, li800, li1000, li1400, li2800, li3432, li9999, li10000000, ↓lm1, ↓lm2, ↓lm3, ↓lm4, ↓lm9, le_T, le_F, lt_T, lt_F, eq_F, eq_T, vp_T, mle_F, mle_T, mlt_F, mlt_T, meq_F, meq_F', mne, aR, mR, sR', nI_clamp, br_nT, br_nF, ex_s, true_implies, false_implies, not_true_eq_false, not_false_eq_true, true_and, and_true, forall_eq, implies_true, and_self, reduceIte, reduceCtorEq, Nat.reduceEqDiff, Nat.reduceAdd, Nat.reduceMul, Nat.reduceSub, ite_true, ite_false, if_true, if_false, eq_self, and_false, false_and, fa_s, fa_n, cfF, cfA, cfJ, cfB, cfR, mfF, mfA, mfJ, mfB, mfR, c_foundE, m_meetsE, fX11_isSheet, fX11_in, fX10_sheetAt, fX10_sheetAt_b22, fX10_textAt, fX10_textAt_b22, fX11_isText, fX2_has, fX11_isFeature, nar_byte, byte_i, lg_gt, lg_eq, lg_lt, all_A, sF_F, sF_A, sF_J, sF_B, sF_R, sF_all, sA_F, sA_A, sA_J, sA_B, sA_R, sA_all, sJ_F, sJ_A, sJ_J, sJ_B, sJ_R, sJ_all, sB_F, sB_A, sB_J, sB_B, sB_R, sB_all, sR_F, sR_A, sR_J, sR_B, sR_R, sR_all]
      refine cf _ c ?_
      by_cases c2 : (nb (hv σ n x) (fa σ n m srt x t z) i).1 = mI 9
      · rw [if_pos ⟨c, Or.inl c2⟩] at K
        simp (disch := omega) only [li0, li1, li2, li3, li4, li5, li6, li12, li13, li14, li15, li16, li17, li32, li33, li39, li60, li65, li90, li91, li93, li97, li100, li122, li126, li200, li800, li1000, li1400, li2800, li3432, li9999, li10000000, ↓lm1, ↓lm2, ↓lm3, ↓lm4, ↓lm9, le_T, le_F, lt_T, lt_F, eq_F, eq_T, vp_T, mle_F, mle_T, mlt_F, mlt_T, meq_F, meq_F', mne, aR, mR, sR', nI_clamp, br_nT, br_nF, ex_s, true_implies, false_implies, not_true_eq_false, not_false_eq_true, true_and, and_true, forall_eq, implies_true, and_self, reduceIte, reduceCtorEq, Nat.reduceEqDiff, Nat.reduceAdd, Nat.reduceMul, Nat.reduceSub, ite_true, ite_false, if_true, if_false, eq_self, and_false, false_and, fa_s, fa_n, cfF, cfA, cfJ, cfB, cfR, mfF, mfA, mfJ, mfB, mfR, c_foundE, m_meetsE, fX11_isSheet, fX11_in, fX10_sheetAt, fX10_sheetAt_b22, fX10_textAt, fX10_textAt_b22, fX11_isText, fX2_has, fX11_isFeature, nar_byte, byte_i, lg_gt, lg_eq, lg_lt, all_A, sF_F, sF_A, sF_J, sF_B, sF_R, sF_all, sA_F, sA_A, sA_J, sA_B, sA_R, sA_all, sJ_F, sJ_A, sJ_J, sJ_B, sJ_R, sJ_all, sB_F, sB_A, sB_J, sB_B, sB_R, sB_all, sR_F, sR_A, sR_J, sR_B, sR_R, sR_all, c2]
        exact K
      · by_cases c3 : fa σ n m srt x t z i < (nb (hv σ n x) (fa σ n m srt x t z) i).2
        · rw [if_pos ⟨c, Or.inr c3⟩] at K
          simp (disch := omega) only [li0, li1, li2, li3, li4, li5, li6, li12, li13, li14, li15, li16, li17, li32, li33, li39, li60, li65, li90, li91, li93, li97, li100, li122, li126, li200, li800, li1000, li1400, li2800, li3432, li9999, li10000000, ↓lm1, ↓lm2, ↓lm3, ↓lm4, ↓lm9, le_T, le_F, lt_T, lt_F, eq_F, eq_T, vp_T, mle_F, mle_T, mlt_F, mlt_T, meq_F, meq_F', mne, aR, mR, sR', nI_clamp, br_nT, br_nF, ex_s, true_implies, false_implies, not_true_eq_false, not_false_eq_true, true_and, and_true, forall_eq, implies_true, and_self, reduceIte, reduceCtorEq, Nat.reduceEqDiff, Nat.reduceAdd, Nat.reduceMul, Nat.reduceSub, ite_true, ite_false, if_true, if_false, eq_self, and_false, false_and, fa_s, fa_n, cfF, cfA, cfJ, cfB, cfR, mfF, mfA, mfJ, mfB, mfR, c_foundE, m_meetsE, fX11_isSheet, fX11_in, fX10_sheetAt, fX10_sheetAt_b22, fX10_textAt, fX10_textAt_b22, fX11_isText, fX2_has, fX11_isFeature, nar_byte, byte_i, lg_gt, lg_eq, lg_lt, all_A, sF_F, sF_A, sF_J, sF_B, sF_R, sF_all, sA_F, sA_A, sA_J, sA_B, sA_R, sA_all, sJ_F, sJ_A, sJ_J, sJ_B, sJ_R, sJ_all, sB_F, sB_A, sB_J, sB_B, sB_R, sB_all, sR_F, sR_A, sR_J, sR_B, sR_R, sR_all, c2, c3]
          exact K
        · rw [if_neg (fun z => z.2.elim c2 c3)] at K
          simp (disch := omega) only [li0, li1, li2, li3, li4, li5, li6, li12, li13, li14, li15, li16, li17, li32, li33, li39, li60, li65, li90, li91, li93, li97, li100, li122, li126, li200, li800, li1000, li1400, li2800, li3432, li9999, li10000000, ↓lm1, ↓lm2, ↓lm3, ↓lm4, ↓lm9, le_T, le_F, lt_T, lt_F, eq_F, eq_T, vp_T, mle_F, mle_T, mlt_F, mlt_T, meq_F, meq_F', mne, aR, mR, sR', nI_clamp, br_nT, br_nF, ex_s, true_implies, false_implies, not_true_eq_false, not_false_eq_true, true_and, and_true, forall_eq, implies_true, and_self, reduceIte, reduceCtorEq, Nat.reduceEqDiff, Nat.reduceAdd, Nat.reduceMul, Nat.reduceSub, ite_true, ite_false, if_true, if_false, eq_self, and_false, false_and, fa_s, fa_n, cfF, cfA, cfJ, cfB, cfR, mfF, mfA, mfJ, mfB, mfR, c_foundE, m_meetsE, fX11_isSheet, fX11_in, fX10_sheetAt, fX10_sheetAt_b22, fX10_textAt, fX10_textAt_b22, fX11_isText, fX2_has, fX11_isFeature, nar_byte, byte_i, lg_gt, lg_eq, lg_lt, all_A, sF_F, sF_A, sF_J, sF_B, sF_R, sF_all, sA_F, sA_A, sA_J, sA_B, sA_R, sA_all, sJ_F, sJ_A, sJ_J, sJ_B, sJ_R, sJ_all, sB_F, sB_A, sB_J, sB_B, sB_R, sB_all, sR_F, sR_A, sR_J, sR_B, sR_R, sR_all, c2, c3]
          exact K
    · rw [if_neg (fun z => c z.1)] at K
      rw [if_neg c]
      simp (disch := omega) only [li0, li1, li2, li3, li4, li5, li6, li12, li13, li14, li15, li16, li17, li32, li33, li39, li60, li65, li90, li91, li93, li97, li100, li122, li126, li200, li800, li1000, li1400, li2800, li3432, li9999, li10000000, ↓lm1, ↓lm2, ↓lm3, ↓lm4, ↓lm9, le_T, le_F, lt_T, lt_F, eq_F, eq_T, vp_T, mle_F, mle_T, mlt_F, mlt_T, meq_F, meq_F', mne, aR, mR, sR', nI_clamp, br_nT, br_nF, ex_s, true_implies, false_implies, not_true_eq_false, not_false_eq_true, true_and, and_true, forall_eq, implies_true, and_self, reduceIte, reduceCtorEq, Nat.reduceEqDiff, Nat.reduceAdd, Nat.reduceMul, Nat.reduceSub, ite_true, ite_false, if_true, if_false, eq_self, and_false, false_and, fa_s, fa_n, cfF, cfA, cfJ, cfB, cfR, mfF, mfA, mfJ, mfB, mfR, c_foundE, m_meetsE, fX11_isSheet, fX11_in, fX10_sheetAt, fX10_sheetAt_b22, fX10_textAt, fX10_textAt_b22, fX11_isText, fX2_has, fX11_isFeature, nar_byte, byte_i, lg_gt, lg_eq, lg_lt, all_A, sF_F, sF_A, sF_J, sF_B, sF_R, sF_all, sA_F, sA_A, sA_J, sA_B, sA_R, sA_all, sJ_F, sJ_A, sJ_J, sJ_B, sJ_R, sJ_all, sB_F, sB_A, sB_J, sB_B, sB_R, sB_all, sR_F, sR_A, sR_J, sR_B, sR_R, sR_all]
      exact K
