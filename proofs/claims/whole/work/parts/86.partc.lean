theorem lk_c {σ s : St} (sm : SM σ s) : lk s = lk σ := by
  funext f t w
  unfold lk
  rw [sm.f.2.2.2.1, sm.f.2.2.2.2.1, sm.2 72 (by decide) (by decide), sm.2 77 (by decide) (by decide), sm.2 79 (by decide) (by decide), sm.2 80 (by decide) (by decide), sm.2 81 (by decide) (by decide), sm.2 82 (by decide) (by decide)]
/-- all but a window's tally and rates is kept -/
def WK (s s' : St) : Prop := AL s s' ∧ HK s s' ∧ sF s' 3 = sF s 3 ∧ sA s' 34 = sA s 34 ∧ sA s' 35 = sA s 35 ∧ sB s' = sB s
theorem WK.trans {a b c : St} (h1 : WK a b) (h2 : WK b c) : WK a c := ⟨h1.1.trans h2.1, h1.2.1.trans h2.2.1, h2.2.2.1.trans h1.2.2.1, h2.2.2.2.1.trans h1.2.2.2.1, h2.2.2.2.2.1.trans h1.2.2.2.2.1, h2.2.2.2.2.2.trans h1.2.2.2.2.2⟩
theorem wk_29 {s : St} {F : Nat → Int32} : WK s (setAll s 29 15 F) := ⟨al_kp (kp_all (by decide) (by decide)), hk_all (by decide) (by decide), rfl, sLx (by decide), sLx (by decide), rfl⟩
theorem wk_23 {s : St} {F : Nat → Int32} : WK s (setAll s 23 2 F) := ⟨al_kp (kp_all (by decide) (by decide)), hk_all (by decide) (by decide), rfl, sLx (by decide), sLx (by decide), rfl⟩
theorem wk_7 {s : St} {j : Nat} {x : Int32} : WK s (setF s 7 15 j x) := ⟨al_kp (kp_F (by decide) (by decide) (by decide)), hk_F, sFx (by decide), rfl, rfl, rfl⟩
/-- what a window has of a feature -/
def wct (σ : St) (t p e f : Nat) : Nat := if sA σ 79 0 f = nI 0 then 0 else ct (fun q => lk σ f t (p + q)) (e - p)
theorem wct_le {σ : St} {t p e f : Nat} : wct σ t p e f ≤ e - p := by
  unfold wct; split
  · omega
  · exact ct_le _ _
theorem tallyWords_sp {N n m t p e : Nat} {σ s : St} {Q : St → Prop} (hN : 1000 ≤ N) (ct' : CT σ n m) (al : AL σ s) (ht : t < n) (hpe : p ≤ e) (he : e ≤ nwM σ t) (h : ∀ s', WK s s' → (∀ f, f < m → sA s' 29 15 f = nI (wct σ t p e f)) → sF s' 7 15 1 = nI (e - p) → sF s' 7 15 2 = nI 0 → Q s') : fX2_tallyWords N s t (nI p) (nI e) 15 Q := by
  have hm := ct'.2.1
  have hn := ct'.1
  have bn := (ct'.2.2.2.1 t ht).1.2.1
  unfold fX2_tallyWords
  refine clear_sp hN (fun F0 hF0 => ?_)
  intro s2 e2
  have es : nI e - nI p = nI (e - p) := sR' hpe
  rw [es] at e2
  have wk2 : WK s s2 := by subst e2; exact ((wk_29.trans wk_7).trans wk_7).trans wk_7
  have f1 : sF s2 7 15 1 = nI (e - p) := by subst e2; simp [sF_F, sF_A, sF_J, sF_B, sF_R, sF_all, sA_F, sA_A, sA_J, sA_B, sA_R, sA_all, sJ_F, sJ_A, sJ_J, sJ_B, sJ_R, sJ_all, sB_F, sB_A, sB_J, sB_B, sB_R, sB_all, sR_F, sR_A, sR_J, sR_B, sR_R, sR_all]
  have f2 : sF s2 7 15 2 = nI 0 := by subst e2; simp [sF_F, sF_A, sF_J, sF_B, sF_R, sF_all, sA_F, sA_A, sA_J, sA_B, sA_R, sA_all, sJ_F, sJ_A, sJ_J, sJ_B, sJ_R, sJ_all, sB_F, sB_A, sB_J, sB_B, sB_R, sB_all, sR_F, sR_A, sR_J, sR_B, sR_R, sR_all]
  clear e2
  have al2 := al.trans wk2.1
  refine lpU (fun k i (y : St) => fX2_tallyWords_l16 N t (nI p) (nI e) 15 Q _ k y (nI i)) (fun i y => ∃ F : Nat → Int32, y = setAll s2 29 15 F ∧ ∀ f, f < i → F f = nI (wct σ t p e f)) m N ?_ ?_ 0 s2 (by omega) (by omega) ⟨sA s2 29 15, (all_self s2 29 15).symm, fun f hf => absurd hf (by omega)⟩
  · rintro k y ⟨F, rfl, hF⟩
    have e2 := (CT_a ct' al2).2.2.1.2.2.1
    have q := h _ (wk2.trans (wk_29 (F := F))) (fun f hf => by rw [sA_all, if_pos ⟨rfl, rfl⟩]; exact hF f hf) f1 f2
    simp (disch := omega) only [li0, li1, li2, li3, li4, li5, li6, li12, li13, li14, li15, li16, li17, li32, li33, li39, li60, li65, li90, li91, li93, li97, li100, li122, li126, li200, li800, li1000, li1400, li2800, li3432, li9999, li10000000, ↓lm1, ↓lm2, ↓lm3, ↓lm4, ↓lm9, le_T, le_F, lt_T, lt_F, eq_F, eq_T, vp_T, mle_F, mle_T, mlt_F, mlt_T, meq_F, meq_F', mne, aR, mR, sR', nI_clamp, br_nT, br_nF, ex_s, true_implies, false_implies, not_true_eq_false, not_false_eq_true, true_and, and_true, forall_eq, implies_true, and_self, reduceIte, reduceCtorEq, Nat.reduceEqDiff, Nat.reduceAdd, Nat.reduceMul, Nat.reduceSub, ite_true, ite_false, if_true, if_false, eq_self, and_false, false_and, fa_s, fa_n, cfF, cfA, cfJ, cfB, cfR, mfF, mfA, mfJ, mfB, mfR, c_foundE, m_meetsE, fX11_isSheet, fX11_in, fX10_sheetAt, fX10_sheetAt_b22, fX10_textAt, fX10_textAt_b22, fX11_isText, fX2_has, fX11_isFeature, nar_byte, byte_i, lg_gt, lg_eq, lg_lt, all_A, sF_F, sF_A, sF_J, sF_B, sF_R, sF_all, sA_F, sA_A, sA_J, sA_B, sA_R, sA_all, sJ_F, sJ_A, sJ_J, sJ_B, sJ_R, sJ_all, sB_F, sB_A, sB_J, sB_B, sB_R, sB_all, sR_F, sR_A, sR_J, sR_B, sR_R, sR_all, fX2_tallyWords_l16, e2]
    exact q
  · rintro k i y hi ⟨F, rfl, hF⟩ K
    have al3 := al2.trans (wk_29 (F := F)).1
    have cs := CT_a ct' al3
    have e2 := (CT_a ct' al2).2.2.1.2.2.1
    have r30 := (CT_a ct' al2).2.2.1.2.2.2.2.2.2.1 i
    rw [if_pos hi] at r30
    have pr := PR_of (cs.2.2.2.1 t ht)
    have ft := cs.2.2.2.2.1 i hi
    have enw : nwM (setAll s2 29 15 F) t = nwM σ t := by rw [al3.sm.f.2.2.1]
    have e79 : sA (setAll s2 29 15 F) 79 0 i = sA σ 79 0 i := by rw [al3.sm.2 79 (by decide) (by decide)]
    have fin : ∀ v, v = wct σ t p e i → fX2_tallyWords_l16 N t (nI p) (nI e) 15 Q (fun (σ11 : St) => Q σ11) k (setAll s2 29 15 (upd F i (nI v))) (nI (i + 1)) := by
      intro v ev
      refine K _ ⟨_, rfl, fun f hf => ?_⟩
      unfold upd
      by_cases c : f = i
      · subst c; rw [if_pos rfl, ev]
      · rw [if_neg c]; exact hF f (by omega)
    simp (disch := omega) only [li0, li1, li2, li3, li4, li5, li6, li12, li13, li14, li15, li16, li17, li32, li33, li39, li60, li65, li90, li91, li93, li97, li100, li122, li126, li200, li800, li1000, li1400, li2800, li3432, li9999, li10000000, ↓lm1, ↓lm2, ↓lm3, ↓lm4, ↓lm9, le_T, le_F, lt_T, lt_F, eq_F, eq_T, vp_T, mle_F, mle_T, mlt_F, mlt_T, meq_F, meq_F', mne, aR, mR, sR', nI_clamp, br_nT, br_nF, ex_s, true_implies, false_implies, not_true_eq_false, not_false_eq_true, true_and, and_true, forall_eq, implies_true, and_self, reduceIte, reduceCtorEq, Nat.reduceEqDiff, Nat.reduceAdd, Nat.reduceMul, Nat.reduceSub, ite_true, ite_false, if_true, if_false, eq_self, and_false, false_and, fa_s, fa_n, cfF, cfA, cfJ, cfB, cfR, mfF, mfA, mfJ, mfB, mfR, c_foundE, m_meetsE, fX11_isSheet, fX11_in, fX10_sheetAt, fX10_sheetAt_b22, fX10_textAt, fX10_textAt_b22, fX11_isText, fX2_has, fX11_isFeature, nar_byte, byte_i, lg_gt, lg_eq, lg_lt, all_A, sF_F, sF_A, sF_J, sF_B, sF_R, sF_all, sA_F, sA_A, sA_J, sA_B, sA_R, sA_all, sJ_F, sJ_A, sJ_J, sJ_B, sJ_R, sJ_all, sB_F, sB_A, sB_J, sB_B, sB_R, sB_all, sR_F, sR_A, sR_J, sR_B, sR_R, sR_all, fX2_tallyWords_l16, fX2_tallyWords_b53_16, e2, fX2_featureAt, r30, fX7_setCount]
    by_cases c : sA σ 79 0 i = nI 0
    · refine ccIn0_sp hN ft (e79.trans c) pr hpe (by rw [enw]; exact he) ?_
      have q := fin 0 (by unfold wct; rw [if_pos c])
      simp (disch := omega) only [li0, li1, li2, li3, li4, li5, li6, li12, li13, li14, li15, li16, li17, li32, li33, li39, li60, li65, li90, li91, li93, li97, li100, li122, li126, li200, li800, li1000, li1400, li2800, li3432, li9999, li10000000, ↓lm1, ↓lm2, ↓lm3, ↓lm4, ↓lm9, le_T, le_F, lt_T, lt_F, eq_F, eq_T, vp_T, mle_F, mle_T, mlt_F, mlt_T, meq_F, meq_F', mne, aR, mR, sR', nI_clamp, br_nT, br_nF, ex_s, true_implies, false_implies, not_true_eq_false, not_false_eq_true, true_and, and_true, forall_eq, implies_true, and_self, reduceIte, reduceCtorEq, Nat.reduceEqDiff, Nat.reduceAdd, Nat.reduceMul, Nat.reduceSub, ite_true, ite_false, if_true, if_false, eq_self, and_false, false_and, fa_s, fa_n, cfF, cfA, cfJ, cfB, cfR, mfF, mfA, mfJ, mfB, mfR, c_foundE, m_meetsE, fX11_isSheet, fX11_in, fX10_sheetAt, fX10_sheetAt_b22, fX10_textAt, fX10_textAt_b22, fX11_isText, fX2_has, fX11_isFeature, nar_byte, byte_i, lg_gt, lg_eq, lg_lt, all_A, sF_F, sF_A, sF_J, sF_B, sF_R, sF_all, sA_F, sA_A, sA_J, sA_B, sA_R, sA_all, sJ_F, sJ_A, sJ_J, sJ_B, sJ_R, sJ_all, sB_F, sB_A, sB_J, sB_B, sB_R, sB_all, sR_F, sR_A, sR_J, sR_B, sR_R, sR_all]
      exact q
    · refine ccIn_sp hN ft (by rw [e79]; exact c) pr hpe (by rw [enw]; exact he) ?_
      rw [lk_c al3.sm]
      have q := fin _ (by unfold wct; rw [if_neg c])
      simp (disch := omega) only [li0, li1, li2, li3, li4, li5, li6, li12, li13, li14, li15, li16, li17, li32, li33, li39, li60, li65, li90, li91, li93, li97, li100, li122, li126, li200, li800, li1000, li1400, li2800, li3432, li9999, li10000000, ↓lm1, ↓lm2, ↓lm3, ↓lm4, ↓lm9, le_T, le_F, lt_T, lt_F, eq_F, eq_T, vp_T, mle_F, mle_T, mlt_F, mlt_T, meq_F, meq_F', mne, aR, mR, sR', nI_clamp, br_nT, br_nF, ex_s, true_implies, false_implies, not_true_eq_false, not_false_eq_true, true_and, and_true, forall_eq, implies_true, and_self, reduceIte, reduceCtorEq, Nat.reduceEqDiff, Nat.reduceAdd, Nat.reduceMul, Nat.reduceSub, ite_true, ite_false, if_true, if_false, eq_self, and_false, false_and, fa_s, fa_n, cfF, cfA, cfJ, cfB, cfR, mfF, mfA, mfJ, mfB, mfR, c_foundE, m_meetsE, fX11_isSheet, fX11_in, fX10_sheetAt, fX10_sheetAt_b22, fX10_textAt, fX10_textAt_b22, fX11_isText, fX2_has, fX11_isFeature, nar_byte, byte_i, lg_gt, lg_eq, lg_lt, all_A, sF_F, sF_A, sF_J, sF_B, sF_R, sF_all, sA_F, sA_A, sA_J, sA_B, sA_R, sA_all, sJ_F, sJ_A, sJ_J, sJ_B, sJ_R, sJ_all, sB_F, sB_A, sB_J, sB_B, sB_R, sB_all, sR_F, sR_A, sR_J, sR_B, sR_R, sR_all]
      exact q
theorem pr1_e {σ : St} {t k i f : Nat} : pr1 σ t k i f = rvN (wct σ t (k * i) (wen σ t k i) f) (if sA σ 79 0 f = nI 0 then 0 else wen σ t k i - k * i) := by
  unfold pr1 wct
  by_cases c : sA σ 79 0 f = nI 0
  · rw [if_pos c, if_pos c, if_pos c]; rfl
  · rw [if_neg c, if_neg c, if_neg c]
theorem pr1_le {σ : St} {t k i f : Nat} (hb : nwM σ t ≤ 100) : pr1 σ t k i f < 10 ^ 8 := by
  rw [pr1_e]
  have h1 : wct σ t (k * i) (wen σ t k i) f ≤ 100 := Nat.le_trans wct_le (by unfold wen; omega)
  have := rvN_le (b := if sA σ 79 0 f = nI 0 then 0 else wen σ t k i - k * i) h1
  omega
/-- a window's rates are read -/
theorem wrates_sp {N n m t k i : Nat} {σ s : St} {Q : St → Prop} (hN : 1000 ≤ N) (ct' : CT σ n m) (al : AL σ s) (ht : t < n) (h29 : ∀ f, f < m → sA s 29 15 f = nI (wct σ t (k * i) (wen σ t k i) f)) (h1 : sF s 7 15 1 = nI (wen σ t k i - k * i)) (h2 : sF s 7 15 2 = nI 0) (h : ∀ F : Nat → Int32, (∀ f, f < m → F f = nI (pr1 σ t k i f)) → Q (setAll s 23 2 F)) : fX2_readRates N s 15 2 Q := by
  have hm := ct'.2.1
  have cs := CT_a ct' al
  have bn := (ct'.2.2.2.1 t ht).1.2.1
  refine readRates_sp hN hm cs.2.2.1.2.2.1 (r := pr1 σ t k i) (fun F f hf Q hq => ?_) h
  have ft := cs.2.2.2.2.1 f hf
  obtain ⟨so, hso, es, -⟩ := id ft
  have es' : sA σ 79 0 f = nI so := by rw [← al.sm.2 79 (by decide) (by decide)]; exact es
  have w1 : wct σ t (k * i) (wen σ t k i) f ≤ 100 := Nat.le_trans wct_le (by unfold wen; omega)
  have w2 : wen σ t k i ≤ 100 := by unfold wen; omega
  refine crate_sp (m := m) (so := so) (c := wct σ t (k * i) (wen σ t k i) f) (w1 := wen σ t k i - k * i) (w2 := 0) hf hm (by have q : G5 m (setAll s 23 2 F) := by { have g5 := cs.2.2.2.2.1; exact (G5_c g5 (by simp [sFx, sAx, sLx, sJx, sBx, sF_F, sF_A, sF_J, sF_B, sF_R, sF_all, sA_F, sA_A, sA_J, sA_B, sA_R, sA_all, sJ_F, sJ_A, sJ_J, sJ_B, sJ_R, sJ_all, sB_F, sB_A, sB_J, sB_B, sB_R, sB_all, sR_F, sR_A, sR_J, sR_B, sR_R, sR_all]) (by simp [sFx, sAx, sLx, sJx, sBx, sF_F, sF_A, sF_J, sF_B, sF_R, sF_all, sA_F, sA_A, sA_J, sA_B, sA_R, sA_all, sJ_F, sJ_A, sJ_J, sJ_B, sJ_R, sJ_all, sB_F, sB_A, sB_J, sB_B, sB_R, sB_all, sR_F, sR_A, sR_J, sR_B, sR_R, sR_all]) (by simp [sFx, sAx, sLx, sJx, sBx, sF_F, sF_A, sF_J, sF_B, sF_R, sF_all, sA_F, sA_A, sA_J, sA_B, sA_R, sA_all, sJ_F, sJ_A, sJ_J, sJ_B, sJ_R, sJ_all, sB_F, sB_A, sB_J, sB_B, sB_R, sB_all, sR_F, sR_A, sR_J, sR_B, sR_R, sR_all]) (by simp [sFx, sAx, sLx, sJx, sBx, sF_F, sF_A, sF_J, sF_B, sF_R, sF_all, sA_F, sA_A, sA_J, sA_B, sA_R, sA_all, sJ_F, sJ_A, sJ_J, sJ_B, sJ_R, sJ_all, sB_F, sB_A, sB_J, sB_B, sB_R, sB_all, sR_F, sR_A, sR_J, sR_B, sR_R, sR_all]) (by simp [sFx, sAx, sLx, sJx, sBx, sF_F, sF_A, sF_J, sF_B, sF_R, sF_all, sA_F, sA_A, sA_J, sA_B, sA_R, sA_all, sJ_F, sJ_A, sJ_J, sJ_B, sJ_R, sJ_all, sB_F, sB_A, sB_J, sB_B, sB_R, sB_all, sR_F, sR_A, sR_J, sR_B, sR_R, sR_all]) (by simp [sFx, sAx, sLx, sJx, sBx, sF_F, sF_A, sF_J, sF_B, sF_R, sF_all, sA_F, sA_A, sA_J, sA_B, sA_R, sA_all, sJ_F, sJ_A, sJ_J, sJ_B, sJ_R, sJ_all, sB_F, sB_A, sB_J, sB_B, sB_R, sB_all, sR_F, sR_A, sR_J, sR_B, sR_R, sR_all]) (by simp [sFx, sAx, sLx, sJx, sBx, sF_F, sF_A, sF_J, sF_B, sF_R, sF_all, sA_F, sA_A, sA_J, sA_B, sA_R, sA_all, sJ_F, sJ_A, sJ_J, sJ_B, sJ_R, sJ_all, sB_F, sB_A, sB_J, sB_B, sB_R, sB_all, sR_F, sR_A, sR_J, sR_B, sR_R, sR_all])) }; exact q f hf) (by simp only [sF_F, sF_A, sF_J, sF_B, sF_R, sF_all, sA_F, sA_A, sA_J, sA_B, sA_R, sA_all, sJ_F, sJ_A, sJ_J, sJ_B, sJ_R, sJ_all, sB_F, sB_A, sB_J, sB_B, sB_R, sB_all, sR_F, sR_A, sR_J, sR_B, sR_R, sR_all]; rw [if_neg (fun z => absurd z.1 (by decide))]; exact es) hso ?_ h1 h2 (by omega) (by omega) ?_
  · simp only [sF_F, sF_A, sF_J, sF_B, sF_R, sF_all, sA_F, sA_A, sA_J, sA_B, sA_R, sA_all, sJ_F, sJ_A, sJ_J, sJ_B, sJ_R, sJ_all, sB_F, sB_A, sB_J, sB_B, sB_R, sB_all, sR_F, sR_A, sR_J, sR_B, sR_R, sR_all]; rw [if_neg (fun z => absurd z.1 (by decide))]; exact h29 f hf
  · have e : (if nI so = nI 0 then 0 else wen σ t k i - k * i) = (if sA σ 79 0 f = nI 0 then 0 else wen σ t k i - k * i) := by rw [es']
    rw [e, rv_nI (by omega) (by split <;> omega), ← pr1_e]
    exact hq
theorem wfar_sp {N n m t k i w srt : Nat} {σ s : St} {z : Int32} {Q : Int32 → St → Prop} (hN : 1000 ≤ N) (ct' : CT σ n m) (sr : SR σ srt) (al : AL σ s) (ht : t < n) (hw : w < 6) (hd : Hd σ s n m (nI t) w) (hh : hv σ n (nI t) w = true) (hz : ∀ f, f < m → bt z f = nzs σ f) (h0 : ∀ f, f < m → sA s 23 2 f = nI (pr1 σ t k i f)) (h : Q (wfr σ n m srt t k w i) s) : fX1_farnessOf N s (nI w) 2 z Q := by
  have cs := CT_a ct' al
  have bn := (ct'.2.2.2.1 t ht).1.2.1
  have gr := cs.2.2.1.2.2.2.2.2.2.2.1 w
  rw [if_pos hw] at gr
  have m2 : sF s 2 0 3 = nI srt := by rw [al.1 2 0 3 rfl (by decide)]; exact sr.2.1
  simp only [fX1_farnessOf, chas_sp hw hd, hh, if_true]
  simp (disch := omega) only [li0, li1, li2, li3, li4, li5, li6, li12, li13, li14, li15, li16, li17, li32, li33, li39, li60, li65, li90, li91, li93, li97, li100, li122, li126, li200, li800, li1000, li1400, li2800, li3432, li9999, li10000000, ↓lm1, ↓lm2, ↓lm3, ↓lm4, ↓lm9, le_T, le_F, lt_T, lt_F, eq_F, eq_T, vp_T, mle_F, mle_T, mlt_F, mlt_T, meq_F, meq_F', mne, aR, mR, sR', nI_clamp, br_nT, br_nF, ex_s, true_implies, false_implies, not_true_eq_false, not_false_eq_true, true_and, and_true, forall_eq, implies_true, and_self, reduceIte, reduceCtorEq, Nat.reduceEqDiff, Nat.reduceAdd, Nat.reduceMul, Nat.reduceSub, ite_true, ite_false, if_true, if_false, eq_self, and_false, false_and, fa_s, fa_n, cfF, cfA, cfJ, cfB, cfR, mfF, mfA, mfJ, mfB, mfR, c_foundE, m_meetsE, fX11_isSheet, fX11_in, fX10_sheetAt, fX10_sheetAt_b22, fX10_textAt, fX10_textAt_b22, fX11_isText, fX2_has, fX11_isFeature, nar_byte, byte_i, lg_gt, lg_eq, lg_lt, all_A, sF_F, sF_A, sF_J, sF_B, sF_R, sF_all, sA_F, sA_A, sA_J, sA_B, sA_R, sA_all, sJ_F, sJ_A, sJ_J, sJ_B, sJ_R, sJ_all, sB_F, sB_A, sB_J, sB_B, sB_R, sB_all, sR_F, sR_A, sR_J, sR_B, sR_R, sR_all, gr]
  refine farness_sp hN ct'.2.1 cs.2.2.1.2.2.1 m2 sr.1 (r1 := pr1 σ t k i) (r2 := rtH σ n (hp σ (nI w) (nI t))) (fun f hf => ⟨h0 f hf, pr1_le bn⟩) (fun f hf => ⟨hd.2 f hf, rtH_le ct'.rt⟩) ?_
  rw [sb_c (q := nzs σ) (k := fun f => dN srt (pr1 σ t k i f) (rtH σ n (hp σ (nI w) (nI t)) f)) hz (fun _ _ => rfl)]
  exact h
theorem hk_wk {s s' : St} (h : WK s s') : HK s s' := h.2.1
/-- the class's prices of the windows below i -/
def PI (σ s : St) (n m srt t k a b i : Nat) : Prop := AL σ s ∧ (∀ w, w < 6 → Hd σ s n m (nI t) w) ∧ sF s 3 0 7 = nI i ∧ ∀ q, q < i → sA s 34 0 q = wfr σ n m srt t k a q ∧ sA s 35 0 q = wfr σ n m srt t k b q
theorem prices_sp {N n m t k a b srt : Nat} {σ s : St} {Q : St → Prop} (hN : 1000 ≤ N) (ct' : CT σ n m) (sr : SR σ srt) (ht : t < n) (hk : 1 ≤ k) (hk2 : k ≤ 60) (ha : a < 6) (hb : b < 6) (kp : KP σ s) (hd : ∀ w, w < 6 → Hd σ s n m (nI t) w) (hva : hv σ n (nI t) a = true) (hvb : hv σ n (nI t) b = true) (h : ∀ s', PI σ s' n m srt t k a b (wnd (nwM σ t) k) → Q s') : fX3_priceWindows N s t (nI k) (nI a) (nI b) Q := by
  have hn := ct'.1
  have bn := (ct'.2.2.2.1 t ht).1.2.1
  have wle := wnd_le (nw := nwM σ t) hk
  unfold fX3_priceWindows
  refine wfs_sp hN ct' (al_kp kp) (fun z hz => ?_)
  intro s3 e3
  have pi0 : PI σ s3 n m srt t k a b 0 := by
    subst e3
    exact ⟨(al_kp kp).trans al_F3, fun w hw => hd_hk hk_F (hd w hw), by simp [sF_F, sF_A, sF_J, sF_B, sF_R, sF_all, sA_F, sA_A, sA_J, sA_B, sA_R, sA_all, sJ_F, sJ_A, sJ_J, sJ_B, sJ_R, sJ_all, sB_F, sB_A, sB_J, sB_B, sB_R, sB_all, sR_F, sR_A, sR_J, sR_B, sR_R, sR_all]; rfl, fun q hq => absurd hq (by omega)⟩
  refine lpU (fun k' i (y : St) => fX3_priceWindows_l15 N t (nI k) (nI a) (nI b) Q _ k' y z (nI (k * i))) (fun i y => PI σ y n m srt t k a b i) (wnd (nwM σ t) k) N ?_ ?_ 0 s3 (by omega) (by omega) pi0
  · rintro k' y pi
    have cs := CT_a ct' pi.1
    have c4 : sF y 4 t 4 = nI (nwM σ t) := by
      rw [(cs.2.2.2.1 t ht).2.2.1.2.1, pi.1.sm.f.2.2.1]
    have hge : nwM σ t ≤ k * wnd (nwM σ t) k := by
      have := (wnd_lt (nw := nwM σ t) (i := wnd (nwM σ t) k) hk).mpr
      omega
    have hlt : k * wnd (nwM σ t) k ≤ 60 * 100 := Nat.mul_le_mul hk2 (by omega)
    have q := h y pi
    simp (disch := omega) only [li0, li1, li2, li3, li4, li5, li6, li12, li13, li14, li15, li16, li17, li32, li33, li39, li60, li65, li90, li91, li93, li97, li100, li122, li126, li200, li800, li1000, li1400, li2800, li3432, li9999, li10000000, ↓lm1, ↓lm2, ↓lm3, ↓lm4, ↓lm9, le_T, le_F, lt_T, lt_F, eq_F, eq_T, vp_T, mle_F, mle_T, mlt_F, mlt_T, meq_F, meq_F', mne, aR, mR, sR', nI_clamp, br_nT, br_nF, ex_s, true_implies, false_implies, not_true_eq_false, not_false_eq_true, true_and, and_true, forall_eq, implies_true, and_self, reduceIte, reduceCtorEq, Nat.reduceEqDiff, Nat.reduceAdd, Nat.reduceMul, Nat.reduceSub, ite_true, ite_false, if_true, if_false, eq_self, and_false, false_and, fa_s, fa_n, cfF, cfA, cfJ, cfB, cfR, mfF, mfA, mfJ, mfB, mfR, c_foundE, m_meetsE, fX11_isSheet, fX11_in, fX10_sheetAt, fX10_sheetAt_b22, fX10_textAt, fX10_textAt_b22, fX11_isText, fX2_has, fX11_isFeature, nar_byte, byte_i, lg_gt, lg_eq, lg_lt, all_A, sF_F, sF_A, sF_J, sF_B, sF_R, sF_all, sA_F, sA_A, sA_J, sA_B, sA_R, sA_all, sJ_F, sJ_A, sJ_J, sJ_B, sJ_R, sJ_all, sB_F, sB_A, sB_J, sB_B, sB_R, sB_all, sR_F, sR_A, sR_J, sR_B, sR_R, sR_all, fX3_priceWindows_l15, c4]
    exact q
  · rintro k' i y hi pi K
    have cs := CT_a ct' pi.1
    have c4 : sF y 4 t 4 = nI (nwM σ t) := by
      rw [(cs.2.2.2.1 t ht).2.2.1.2.1, pi.1.sm.f.2.2.1]
    have hlt := (wnd_lt (nw := nwM σ t) (i := i) hk).mp hi
    obtain ⟨al, hd1, e7, pr⟩ := pi
    have een : (if nI (nwM σ t) < nI (k * i) + nI k then nI (nwM σ t) else nI (k * i) + nI k) = nI (wen σ t k i) := by
      rw [nI_add]
      unfold wen
      by_cases c : nwM σ t < k * i + k
      · rw [if_pos (nI_lt c (by omega)), Nat.min_eq_right (by omega)]
      · rw [if_neg (nI_nlt (by omega) (by omega)), Nat.min_eq_left (by omega)]
    simp only [fX3_priceWindows_l15, c4, een, e7]
    refine ⟨fun c => absurd c (nI_ge hlt (by omega)), fun _ => ⟨fun c => absurd c (nI_ge (show i < 100 by omega) (by decide)), fun _ => ?_⟩⟩
    refine tallyWords_sp hN ct' al ht (by unfold wen; omega) (by unfold wen; omega) (fun s4 wk4 h29 h71 h72 => ?_)
    refine wrates_sp hN ct' (al.trans wk4.1) ht h29 h71 h72 (fun F hF => ?_)
    have wk5 := wk4.trans (wk_23 (F := F))
    have al5 := al.trans wk5.1
    have row : ∀ f, f < m → sA (setAll s4 23 2 F) 23 2 f = nI (pr1 σ t k i f) := fun f hf => by rw [sA_all, if_pos ⟨rfl, rfl⟩]; exact hF f hf
    have e75 : sF (setAll s4 23 2 F) 3 0 7 = nI i := by rw [wk5.2.2.1]; exact e7
    refine wfar_sp hN ct' sr al5 ht ha (hd_hk wk5.2.1 (hd1 a ha)) hva hz row ?_
    refine ⟨by rw [e75]; exact vp_in_nI (by omega) (by decide), fun s6 e6 => ?_⟩
    rw [e75, nI_clamp (by omega)] at e6
    have kp6 : AL (setAll s4 23 2 F) s6 ∧ HK (setAll s4 23 2 F) s6 := by subst e6; exact ⟨al_kp (kp_A (by decide) rfl), hk_A (by decide) (by decide)⟩
    have row6 : ∀ f, f < m → sA s6 23 2 f = nI (pr1 σ t k i f) := fun f hf => by subst e6; rw [sAx (by decide)]; exact row f hf
    have e76 : sF s6 3 0 7 = nI i := by subst e6; exact e75
    have a34 : ∀ q, sA s6 34 0 q = if q = i then wfr σ n m srt t k a i else sA y 34 0 q := by
      intro q; subst e6
      simp only [sF_F, sF_A, sF_J, sF_B, sF_R, sF_all, sA_F, sA_A, sA_J, sA_B, sA_R, sA_all, sJ_F, sJ_A, sJ_J, sJ_B, sJ_R, sJ_all, sB_F, sB_A, sB_J, sB_B, sB_R, sB_all, sR_F, sR_A, sR_J, sR_B, sR_R, sR_all]
      by_cases c : q = i
      · rw [if_pos (by simp [c]), if_pos c]
      · rw [if_neg (by simp [c]), if_neg c]
        simp only [reduceCtorEq, Nat.reduceEqDiff, false_and, ite_false]
        rw [wk4.2.2.2.1]
    have a35 : ∀ q, sA s6 35 0 q = sA y 35 0 q := by
      intro q; subst e6
      rw [sAx (by decide), sLx (by decide), wk4.2.2.2.2.1]
    clear e6
    refine wfar_sp hN ct' sr (al5.trans kp6.1) ht hb (hd_hk (wk5.2.1.trans kp6.2) (hd1 b hb)) hvb hz row6 ?_
    refine ⟨by rw [e76]; exact vp_in_nI (by omega) (by decide), fun s7 e7' s8 e8 => ?_⟩
    rw [e76, nI_clamp (by omega)] at e7'
    have e77 : sF s7 3 0 7 = nI i := by subst e7'; exact e76
    rw [e77, show nI i + 1 = nI (i + 1) from nI_add i 1] at e8
    rw [show nI (k * i) + nI k = nI (k * (i + 1)) from by rw [nI_add, Nat.mul_succ]]
    refine K s8 ?_
    subst e8; subst e7'
    refine ⟨((al5.trans kp6.1).trans (al_kp (kp_A (by decide) rfl))).trans al_F3, fun w hw => hd_hk ((wk5.2.1.trans kp6.2).trans ((hk_A (by decide) (by decide)).trans hk_F)) (hd1 w hw), by simp [sF_F, sF_A, sF_J, sF_B, sF_R, sF_all, sA_F, sA_A, sA_J, sA_B, sA_R, sA_all, sJ_F, sJ_A, sJ_J, sJ_B, sJ_R, sJ_all, sB_F, sB_A, sB_J, sB_B, sB_R, sB_all, sR_F, sR_A, sR_J, sR_B, sR_R, sR_all], fun q hq => ?_⟩
    simp only [sF_F, sF_A, sF_J, sF_B, sF_R, sF_all, sA_F, sA_A, sA_J, sA_B, sA_R, sA_all, sJ_F, sJ_A, sJ_J, sJ_B, sJ_R, sJ_all, sB_F, sB_A, sB_J, sB_B, sB_R, sB_all, sR_F, sR_A, sR_J, sR_B, sR_R, sR_all]
    simp only [reduceCtorEq, Nat.reduceEqDiff, false_and, ite_false, true_and]
    rw [a34 q, a35 q]
    by_cases c : q = i
    · subst c
      rw [if_pos rfl, if_pos rfl]; exact ⟨rfl, rfl⟩
    · rw [if_neg c, if_neg c]; exact pr q (by omega)
