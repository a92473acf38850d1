/-- all but a prose's own is kept -/
def RX (t : Nat) (s y : St) : Prop := (∀ K i j, ¬ (K = 4 ∧ i = t) → sF y K i j = sF s K i j) ∧ (∀ K i, ¬ ((K = 25 ∨ K = 26 ∨ K = 27) ∧ i = t) → sA y K i = sA s K i) ∧ sJ y = sJ s ∧ sB y = sB s ∧ sR y = sR s
theorem RX.rfl' {t : Nat} {s : St} : RX t s s := ⟨fun _ _ _ _ => rfl, fun _ _ _ => rfl, rfl, rfl, rfl⟩
theorem RX.trans {t : Nat} {a b c : St} (h1 : RX t a b) (h2 : RX t b c) : RX t a c := ⟨fun K i j e => (h2.1 K i j e).trans (h1.1 K i j e), fun K i e => (h2.2.1 K i e).trans (h1.2.1 K i e), h2.2.2.1.trans h1.2.2.1, h2.2.2.2.1.trans h1.2.2.2.1, h2.2.2.2.2.trans h1.2.2.2.2⟩
theorem rx_F {t j : Nat} {s : St} {x : Int32} : RX t s (setF s 4 t j x) := ⟨fun K i j' e => by rw [sF_F, if_neg (fun z => e ⟨z.1, z.2.1⟩)], fun _ _ _ => rfl, rfl, rfl, rfl⟩
theorem rx_A {t K j : Nat} {s : St} {x : Int32} (h : K = 25 ∨ K = 26 ∨ K = 27) : RX t s (setA s K t j x) := ⟨fun _ _ _ _ => rfl, fun K' i e => by funext j'; rw [sA_A, if_neg (fun z => e ⟨by rw [z.1]; exact h, z.2.1⟩)], rfl, rfl, rfl⟩
/-- while signs are cut -/
def C1 (t z : Nat) (g : Nat → Int32) (s : St) (i : Nat) (y : St) : Prop := RX t s y ∧ sF y 4 t 3 = nI z ∧ sF y 4 t 7 = nI (ct (rop g) i) ∧ ∀ j, j < i → sA y 25 t j = rc g j
theorem c1_0 {t z i : Nat} {g : Nat → Int32} {s y : St} (h : C1 t z g s i y) (e : rop g i = false) : C1 t z g s (i + 1) (setA y 25 t i (rc g i)) := by
  obtain ⟨h1, h2, h3, h4⟩ := h
  refine ⟨h1.trans (rx_A (Or.inl rfl)), h2, by rw [ct_s, if_neg (by rw [e]; decide)]; exact h3, fun j hj => ?_⟩
  rw [sA_A]
  by_cases c : j = i
  · subst c; rw [if_pos ⟨rfl, rfl, rfl⟩]
  · rw [if_neg (fun z => c z.2.2)]; exact h4 j (by omega)
theorem c1_1 {t z i : Nat} {g : Nat → Int32} {s y : St} (h : C1 t z g s i y) (e : rop g i = true) : C1 t z g s (i + 1) (setF (setA y 25 t i (rc g i)) 4 t 7 (nI (ct (rop g) i + 1))) := by
  obtain ⟨h1, h2, h3, h4⟩ := h
  refine ⟨h1.trans ((rx_A (Or.inl rfl)).trans rx_F), by rw [sF_F, if_neg (by omega)]; exact h2, by rw [sF_F, if_pos ⟨rfl, rfl, rfl⟩, ct_s, if_pos e], fun j hj => ?_⟩
  rw [sA_F, sA_A]
  by_cases c : j = i
  · subst c; rw [if_pos ⟨rfl, rfl, rfl⟩]
  · rw [if_neg (fun z => c z.2.2)]; exact h4 j (by omega)
theorem signAt_y {N u i z : Nat} {y : St} {c : Int32} {Q : Int32 → St → Prop} (e5 : sF y 5 u 1 = nI z) (hi : i < z) (hz : z ≤ 200) (e : sA y 24 u i = c) : fX5_signAt N y u (nI i) Q = Q c y := by
  simp (disch := omega) only [li0, li1, li2, li3, li4, li5, li6, li12, li13, li14, li15, li16, li17, li32, li33, li39, li60, li65, li90, li91, li93, li97, li100, li122, li126, li200, li800, li1000, li1400, li2800, li3432, li9999, li10000000, ↓lm1, ↓lm2, ↓lm3, ↓lm4, ↓lm9, le_T, le_F, lt_T, lt_F, eq_F, eq_T, vp_T, mle_F, mle_T, mlt_F, mlt_T, meq_F, meq_F', mne, aR, mR, sR', nI_clamp, br_nT, br_nF, ex_s, true_implies, false_implies, not_true_eq_false, not_false_eq_true, true_and, and_true, forall_eq, implies_true, and_self, reduceIte, reduceCtorEq, Nat.reduceEqDiff, Nat.reduceAdd, Nat.reduceMul, Nat.reduceSub, ite_true, ite_false, if_true, if_false, eq_self, and_false, false_and, fa_s, fa_n, cfF, cfA, cfJ, cfB, cfR, mfF, mfA, mfJ, mfB, mfR, c_foundE, m_meetsE, nar_byte, byte_i, lg_gt, lg_eq, lg_lt, all_A, sF_F, sF_A, sF_J, sF_B, sF_R, sF_all, sA_F, sA_A, sA_J, sA_B, sA_R, sA_all, sJ_F, sJ_A, sJ_J, sJ_B, sJ_R, sJ_all, sB_F, sB_A, sB_J, sB_B, sB_R, sB_all, sR_F, sR_A, sR_J, sR_B, sR_R, sR_all, fX5_signAt, e5, e]
theorem ccut_sp {N t u z : Nat} {s : St} {g : Nat → Int32} {Q : St → Prop} (hN : 1000 ≤ N) (hz : z ≤ 200) (e51 : sF s 5 u 1 = nI z) (e43 : sF s 4 t 3 = nI z) (eg : ∀ i, i < z → sA s 24 u i = g i ∧ fits .byte (.int (g i)) = true) (h : ∀ y, C1 t z g s z y → Q y) : fX4_cutQuotes N s t u Q := by
  unfold fX4_cutQuotes
  intro s1 e1
  have c0 : C1 t z g s 0 s1 := by
    subst e1
    exact ⟨rx_F, by rw [sF_F, if_neg (by omega)]; exact e43, by rw [sF_F, if_pos ⟨rfl, rfl, rfl⟩]; rfl, fun j hj => absurd hj (by omega)⟩
  clear e1
  refine lpU (fun k i (y : St × Int32) => fX4_cutQuotes_l9 N t u Q _ k y.1 y.2 (nI i)) (fun i y => C1 t z g s i y.1 ∧ y.2 = if rq g i = true then nI 1 else nI 0) z N ?_ ?_ 0 (s1, nI 0) (by omega) (by omega) ⟨c0, rfl⟩
  · rintro k ⟨y, v⟩ ⟨cy, ev⟩
    have e3 : sF y 4 t 3 = nI z := cy.2.1
    have q := h y cy
    simp (disch := omega) only [li0, li1, li2, li3, li4, li5, li6, li12, li13, li14, li15, li16, li17, li32, li33, li39, li60, li65, li90, li91, li93, li97, li100, li122, li126, li200, li800, li1000, li1400, li2800, li3432, li9999, li10000000, ↓lm1, ↓lm2, ↓lm3, ↓lm4, ↓lm9, le_T, le_F, lt_T, lt_F, eq_F, eq_T, vp_T, mle_F, mle_T, mlt_F, mlt_T, meq_F, meq_F', mne, aR, mR, sR', nI_clamp, br_nT, br_nF, ex_s, true_implies, false_implies, not_true_eq_false, not_false_eq_true, true_and, and_true, forall_eq, implies_true, and_self, reduceIte, reduceCtorEq, Nat.reduceEqDiff, Nat.reduceAdd, Nat.reduceMul, Nat.reduceSub, ite_true, ite_false, if_true, if_false, eq_self, and_false, false_and, fa_s, fa_n, cfF, cfA, cfJ, cfB, cfR, mfF, mfA, mfJ, mfB, mfR, c_foundE, m_meetsE, fX11_isSheet, fX11_in, fX10_sheetAt, fX10_sheetAt_b22, fX10_textAt, fX10_textAt_b22, fX11_isText, fX2_has, fX11_isFeature, nar_byte, byte_i, lg_gt, lg_eq, lg_lt, all_A, sF_F, sF_A, sF_J, sF_B, sF_R, sF_all, sA_F, sA_A, sA_J, sA_B, sA_R, sA_all, sJ_F, sJ_A, sJ_J, sJ_B, sJ_R, sJ_all, sB_F, sB_A, sB_J, sB_B, sB_R, sB_all, sR_F, sR_A, sR_J, sR_B, sR_R, sR_all, fX4_cutQuotes_l9, e3]
    exact q
  · rintro k i ⟨y, v⟩ hi ⟨cy, ev⟩ K
    have cy : C1 t z g s i y := cy
    have ev : v = if rq g i = true then nI 1 else nI 0 := ev
    have e3 : sF y 4 t 3 = nI z := cy.2.1
    have e7 : sF y 4 t 7 = nI (ct (rop g) i) := cy.2.2.1
    have e5 : sF y 5 u 1 = nI z := by rw [cy.1.1 5 u 1 (by omega)]; exact e51
    have e24 : sA y 24 u i = g i := by rw [cy.1.2.1 24 u (by omega)]; exact (eg i hi).1
    obtain ⟨kb, hkb, ekb⟩ := byte_e (eg i hi).2
    have esm : (smV (g i)).toInt8.toInt32 = smV (g i) := by rw [ekb]; exact sm_b kb hkb
    have sg := fun Q => signAt_y (N := N) (Q := Q) e5 hi hz e24
    simp only [fX4_cutQuotes_l9, fX4_cutQuotes_b48_9, fX4_cutQuotes_b49_9, fX4_cutQuotes_b65_9, fX4_cutQuotes_b75_9, fX4_cutQuotes_b92_9, fX4_cutQuotes_b108_9, fX4_cutQuotes_b112_9, fX4_cutQuotes_b113_9, cSmall]
    by_cases q : rq g i = true
    · rw [if_pos q] at ev
      subst ev
      have er : rop g i = false := by unfold rop; rw [q]; rfl
      have ec : rc g i = nI 32 := if_pos (Or.inl q)
      have cn := c1_0 cy er
      rw [ec] at cn
      by_cases c93 : g i = nI 93
      · have K := K (setA y 25 t i (nI 32), nI 0) ⟨cn, by
          show nI 0 = if rq g (i + 1) = true then nI 1 else nI 0
          rw [if_neg]; show ¬ (if rq g i = true then decide (¬ g i = nI 93) else decide (g i = nI 91)) = true
          rw [if_pos q]; simp [c93]⟩
        simp (disch := omega) only [li0, li1, li2, li3, li4, li5, li6, li12, li13, li14, li15, li16, li17, li32, li33, li39, li60, li65, li90, li91, li93, li97, li100, li122, li126, li200, li800, li1000, li1400, li2800, li3432, li9999, li10000000, ↓lm1, ↓lm2, ↓lm3, ↓lm4, ↓lm9, le_T, le_F, lt_T, lt_F, eq_F, eq_T, vp_T, mle_F, mle_T, mlt_F, mlt_T, meq_F, meq_F', mne, aR, mR, sR', nI_clamp, br_nT, br_nF, ex_s, true_implies, false_implies, not_true_eq_false, not_false_eq_true, true_and, and_true, forall_eq, implies_true, and_self, reduceIte, reduceCtorEq, Nat.reduceEqDiff, Nat.reduceAdd, Nat.reduceMul, Nat.reduceSub, ite_true, ite_false, if_true, if_false, eq_self, and_false, false_and, fa_s, fa_n, cfF, cfA, cfJ, cfB, cfR, mfF, mfA, mfJ, mfB, mfR, c_foundE, m_meetsE, nar_byte, byte_i, lg_gt, lg_eq, lg_lt, all_A, sF_F, sF_A, sF_J, sF_B, sF_R, sF_all, sA_F, sA_A, sA_J, sA_B, sA_R, sA_all, sJ_F, sJ_A, sJ_J, sJ_B, sJ_R, sJ_all, sB_F, sB_A, sB_J, sB_B, sB_R, sB_all, sR_F, sR_A, sR_J, sR_B, sR_R, sR_all, e3, sg, b32, c93]
        exact K
      · have K := K (setA y 25 t i (nI 32), nI 1) ⟨cn, by
          show nI 1 = if rq g (i + 1) = true then nI 1 else nI 0
          rw [if_pos]; show (if rq g i = true then decide (¬ g i = nI 93) else decide (g i = nI 91)) = true
          rw [if_pos q]; simp [c93]⟩
        simp (disch := omega) only [li0, li1, li2, li3, li4, li5, li6, li12, li13, li14, li15, li16, li17, li32, li33, li39, li60, li65, li90, li91, li93, li97, li100, li122, li126, li200, li800, li1000, li1400, li2800, li3432, li9999, li10000000, ↓lm1, ↓lm2, ↓lm3, ↓lm4, ↓lm9, le_T, le_F, lt_T, lt_F, eq_F, eq_T, vp_T, mle_F, mle_T, mlt_F, mlt_T, meq_F, meq_F', mne, aR, mR, sR', nI_clamp, br_nT, br_nF, ex_s, true_implies, false_implies, not_true_eq_false, not_false_eq_true, true_and, and_true, forall_eq, implies_true, and_self, reduceIte, reduceCtorEq, Nat.reduceEqDiff, Nat.reduceAdd, Nat.reduceMul, Nat.reduceSub, ite_true, ite_false, if_true, if_false, eq_self, and_false, false_and, fa_s, fa_n, cfF, cfA, cfJ, cfB, cfR, mfF, mfA, mfJ, mfB, mfR, c_foundE, m_meetsE, nar_byte, byte_i, lg_gt, lg_eq, lg_lt, all_A, sF_F, sF_A, sF_J, sF_B, sF_R, sF_all, sA_F, sA_A, sA_J, sA_B, sA_R, sA_all, sJ_F, sJ_A, sJ_J, sJ_B, sJ_R, sJ_all, sB_F, sB_A, sB_J, sB_B, sB_R, sB_all, sR_F, sR_A, sR_J, sR_B, sR_R, sR_all, e3, sg, b32, c93]
        exact K
    · have qF : rq g i = false := by simpa using q
      rw [if_neg q] at ev
      subst ev
      by_cases c91 : g i = nI 91
      · have er : rop g i = true := by unfold rop; rw [qF]; simp [c91]
        have ec : rc g i = nI 32 := if_pos (Or.inr c91)
        have cn := c1_1 cy er
        rw [ec] at cn
        have K := K (setF (setA y 25 t i (nI 32)) 4 t 7 (nI (ct (rop g) i + 1)), nI 1) ⟨cn, by
          show nI 1 = if rq g (i + 1) = true then nI 1 else nI 0
          rw [if_pos]; show (if rq g i = true then decide (¬ g i = nI 93) else decide (g i = nI 91)) = true
          rw [if_neg q]; simp [c91]⟩
        simp (disch := omega) only [li0, li1, li2, li3, li4, li5, li6, li12, li13, li14, li15, li16, li17, li32, li33, li39, li60, li65, li90, li91, li93, li97, li100, li122, li126, li200, li800, li1000, li1400, li2800, li3432, li9999, li10000000, ↓lm1, ↓lm2, ↓lm3, ↓lm4, ↓lm9, le_T, le_F, lt_T, lt_F, eq_F, eq_T, vp_T, mle_F, mle_T, mlt_F, mlt_T, meq_F, meq_F', mne, aR, mR, sR', nI_clamp, br_nT, br_nF, ex_s, true_implies, false_implies, not_true_eq_false, not_false_eq_true, true_and, and_true, forall_eq, implies_true, and_self, reduceIte, reduceCtorEq, Nat.reduceEqDiff, Nat.reduceAdd, Nat.reduceMul, Nat.reduceSub, ite_true, ite_false, if_true, if_false, eq_self, and_false, false_and, fa_s, fa_n, cfF, cfA, cfJ, cfB, cfR, mfF, mfA, mfJ, mfB, mfR, c_foundE, m_meetsE, nar_byte, byte_i, lg_gt, lg_eq, lg_lt, all_A, sF_F, sF_A, sF_J, sF_B, sF_R, sF_all, sA_F, sA_A, sA_J, sA_B, sA_R, sA_all, sJ_F, sJ_A, sJ_J, sJ_B, sJ_R, sJ_all, sB_F, sB_A, sB_J, sB_B, sB_R, sB_all, sR_F, sR_A, sR_J, sR_B, sR_R, sR_all, e3, e7, sg, b32, c91]
        exact K
      · have er : rop g i = false := by unfold rop; simp [c91]
        have ec : rc g i = smV (g i) := if_neg (fun z => z.elim q c91)
        have cn := c1_0 cy er
        rw [ec] at cn
        have K := K (setA y 25 t i (smV (g i)), nI 0) ⟨cn, by
          show nI 0 = if rq g (i + 1) = true then nI 1 else nI 0
          rw [if_neg]; show ¬ (if rq g i = true then decide (¬ g i = nI 93) else decide (g i = nI 91)) = true
          rw [if_neg q]; simp [c91]⟩
        simp (disch := omega) only [li0, li1, li2, li3, li4, li5, li6, li12, li13, li14, li15, li16, li17, li32, li33, li39, li60, li65, li90, li91, li93, li97, li100, li122, li126, li200, li800, li1000, li1400, li2800, li3432, li9999, li10000000, ↓lm1, ↓lm2, ↓lm3, ↓lm4, ↓lm9, le_T, le_F, lt_T, lt_F, eq_F, eq_T, vp_T, mle_F, mle_T, mlt_F, mlt_T, meq_F, meq_F', mne, aR, mR, sR', nI_clamp, br_nT, br_nF, ex_s, true_implies, false_implies, not_true_eq_false, not_false_eq_true, true_and, and_true, forall_eq, implies_true, and_self, reduceIte, reduceCtorEq, Nat.reduceEqDiff, Nat.reduceAdd, Nat.reduceMul, Nat.reduceSub, ite_true, ite_false, if_true, if_false, eq_self, and_false, false_and, fa_s, fa_n, cfF, cfA, cfJ, cfB, cfR, mfF, mfA, mfJ, mfB, mfR, c_foundE, m_meetsE, nar_byte, byte_i, lg_gt, lg_eq, lg_lt, all_A, sF_F, sF_A, sF_J, sF_B, sF_R, sF_all, sA_F, sA_A, sA_J, sA_B, sA_R, sA_all, sJ_F, sJ_A, sJ_J, sJ_B, sJ_R, sJ_all, sB_F, sB_A, sB_J, sB_B, sB_R, sB_all, sR_F, sR_A, sR_J, sR_B, sR_R, sR_all, e3, sg, esm, c91]
        exact K
/-- while words are found -/
def C2 (t z q : Nat) (g : Nat → Int32) (s y : St) (nw ln mk : Nat) (A B : Nat → Nat) : Prop := RX t s y ∧ sF y 4 t 3 = nI z ∧ sF y 4 t 4 = nI nw ∧ sF y 4 t 5 = nI ln ∧ sF y 4 t 6 = nI mk ∧ sF y 4 t 7 = nI q ∧ (∀ j, j < z → sA y 25 t j = rc g j) ∧ ∀ w, w < nw → sA y 26 t w = nI (A w) ∧ sA y 27 t w = nI (B w)
theorem c2_mk {t z q nw ln mk : Nat} {g : Nat → Int32} {s y : St} {A B : Nat → Nat} (h : C2 t z q g s y nw ln mk A B) : C2 t z q g s (setF y 4 t 6 (nI (mk + 1))) nw ln (mk + 1) A B := by
  obtain ⟨h1, h2, h3, h4, h5, h6, h7, h8⟩ := h
  exact ⟨h1.trans rx_F, by rw [sF_F, if_neg (by omega)]; exact h2, by rw [sF_F, if_neg (by omega)]; exact h3, by rw [sF_F, if_neg (by omega)]; exact h4, by rw [sF_F, if_pos ⟨rfl, rfl, rfl⟩], by rw [sF_F, if_neg (by omega)]; exact h6, h7, h8⟩
theorem c2_ln {t z q nw ln mk : Nat} {g : Nat → Int32} {s y : St} {A B : Nat → Nat} (h : C2 t z q g s y nw ln mk A B) : C2 t z q g s (setF y 4 t 5 (nI (ln + 1))) nw (ln + 1) mk A B := by
  obtain ⟨h1, h2, h3, h4, h5, h6, h7, h8⟩ := h
  exact ⟨h1.trans rx_F, by rw [sF_F, if_neg (by omega)]; exact h2, by rw [sF_F, if_neg (by omega)]; exact h3, by rw [sF_F, if_pos ⟨rfl, rfl, rfl⟩], by rw [sF_F, if_neg (by omega)]; exact h5, by rw [sF_F, if_neg (by omega)]; exact h6, h7, h8⟩
theorem c2_bg {t z q nw ln mk i : Nat} {g : Nat → Int32} {s y : St} {A B : Nat → Nat} (h : C2 t z q g s y nw ln mk A B) : C2 t z q g s (setF (setA (setA y 26 t nw (nI i)) 27 t nw (nI 0)) 4 t 4 (nI (nw + 1))) (nw + 1) ln mk (up' A nw i) (up' B nw 0) := by
  obtain ⟨h1, h2, h3, h4, h5, h6, h7, h8⟩ := h
  refine ⟨h1.trans ((rx_A (Or.inr (Or.inl rfl))).trans ((rx_A (Or.inr (Or.inr rfl))).trans rx_F)), by rw [sF_F, if_neg (by omega)]; exact h2, by rw [sF_F, if_pos ⟨rfl, rfl, rfl⟩], by rw [sF_F, if_neg (by omega)]; exact h4, by rw [sF_F, if_neg (by omega)]; exact h5, by rw [sF_F, if_neg (by omega)]; exact h6, fun j hj => ?_, fun w hw => ?_⟩
  · rw [sA_F, sAx (by decide), sAx (by decide)]; exact h7 j hj
  · rw [sA_F, sAx (show 26 ≠ 27 by decide), sA_A, sA_A]
    unfold up'
    by_cases c : w = nw
    · subst c
      rw [if_pos ⟨rfl, rfl, rfl⟩, if_pos rfl, if_pos ⟨rfl, rfl, rfl⟩, if_pos rfl]; exact ⟨rfl, rfl⟩
    · rw [if_neg (fun z => c z.2.2), if_neg c, if_neg (fun z => c z.2.2), if_neg c, sAx (by decide)]
      exact h8 w (by omega)
theorem c2_le {t z q nw ln mk : Nat} {g : Nat → Int32} {s y : St} {A B : Nat → Nat} (h : C2 t z q g s y nw ln mk A B) : C2 t z q g s (setA y 27 t (nw - 1) (nI (B (nw - 1) + 1))) nw ln mk A (up' B (nw - 1) (B (nw - 1) + 1)) := by
  obtain ⟨h1, h2, h3, h4, h5, h6, h7, h8⟩ := h
  refine ⟨h1.trans (rx_A (Or.inr (Or.inr rfl))), h2, h3, h4, h5, h6, fun j hj => ?_, fun w hw => ?_⟩
  · rw [sAx (by decide)]; exact h7 j hj
  · rw [sAx (by decide), sA_A]
    unfold up'
    by_cases c : w = nw - 1
    · rw [if_pos ⟨rfl, rfl, c⟩, if_pos c]; exact ⟨(h8 w hw).1, rfl⟩
    · rw [if_neg (fun z => c z.2.2), if_neg c]; exact h8 w hw
theorem rc_SB {g : Nat → Int32} {i : Nat} (h : fits .byte (.int (g i)) = true) : SB (rc g i) := by
  unfold rc
  split
  · exact Or.inl (by decide)
  · obtain ⟨k, hk, e⟩ := byte_e h
    rw [e]; exact sm_SBb k hk
theorem cwords_sp {N t z q : Nat} {s s1 : St} {g : Nat → Int32} {Q : St → Prop} (hN : 1000 ≤ N) (hz : z ≤ 200) (eg : ∀ i, i < z → fits .byte (.int (g i)) = true) (c1 : C1 t z g s z s1) (hq : q = ct (rop g) z) (h : ∀ y, C2 t z q g s y (rnw g z) (ct (lt' g) z) (ct (fun i => isLM (rc g i)) z) (wA g z) (wL g z) → Q y) : fX4_findWords N s1 t Q := by
  unfold fX4_findWords
  intro s2 e2 s3 e3 s4 e4
  have c0 : C2 t z q g s s4 (rnw g 0) (ct (lt' g) 0) (ct (fun i => isLM (rc g i)) 0) (wA g 0) (wL g 0) := by
    obtain ⟨h1, h2, h3, h4⟩ := c1
    subst e4; subst e3; subst e2
    refine ⟨h1.trans (rx_F.trans (rx_F.trans rx_F)), ?_, ?_, ?_, ?_, ?_, h4, fun w hw => absurd hw (Nat.not_lt_zero _)⟩
    · rw [sF_F, if_neg (by omega), sF_F, if_neg (by omega), sF_F, if_neg (by omega)]; exact h2
    · rw [sF_F, if_neg (by omega), sF_F, if_neg (by omega), sF_F, if_pos ⟨rfl, rfl, rfl⟩]; rfl
    · rw [sF_F, if_neg (by omega), sF_F, if_pos ⟨rfl, rfl, rfl⟩]; rfl
    · rw [sF_F, if_pos ⟨rfl, rfl, rfl⟩]; rfl
    · rw [sF_F, if_neg (by omega), sF_F, if_neg (by omega), sF_F, if_neg (by omega), hq]; exact h3
  clear e2 e3 e4
  refine lpU (fun k i (y : St × Int32) => fX4_findWords_l19 N t Q _ k y.1 y.2 (nI i)) (fun i y => C2 t z q g s y.1 (rnw g i) (ct (lt' g) i) (ct (fun i => isLM (rc g i)) i) (wA g i) (wL g i) ∧ y.2 = if lb g i = true then nI 1 else nI 0) z N ?_ ?_ 0 (s4, nI 0) (by omega) (by omega) ⟨c0, rfl⟩
  · rintro k ⟨y, v⟩ ⟨cy, ev⟩
    have e3 : sF y 4 t 3 = nI z := cy.2.1
    have q := h y cy
    simp (disch := omega) only [li0, li1, li2, li3, li4, li5, li6, li12, li13, li14, li15, li16, li17, li32, li33, li39, li60, li65, li90, li91, li93, li97, li100, li122, li126, li200, li800, li1000, li1400, li2800, li3432, li9999, li10000000, ↓lm1, ↓lm2, ↓lm3, ↓lm4, ↓lm9, le_T, le_F, lt_T, lt_F, eq_F, eq_T, vp_T, mle_F, mle_T, mlt_F, mlt_T, meq_F, meq_F', mne, aR, mR, sR', nI_clamp, br_nT, br_nF, ex_s, true_implies, false_implies, not_true_eq_false, not_false_eq_true, true_and, and_true, forall_eq, implies_true, and_self, reduceIte, reduceCtorEq, Nat.reduceEqDiff, Nat.reduceAdd, Nat.reduceMul, Nat.reduceSub, ite_true, ite_false, if_true, if_false, eq_self, and_false, false_and, fa_s, fa_n, cfF, cfA, cfJ, cfB, cfR, mfF, mfA, mfJ, mfB, mfR, c_foundE, m_meetsE, fX11_isSheet, fX11_in, fX10_sheetAt, fX10_sheetAt_b22, fX10_textAt, fX10_textAt_b22, fX11_isText, fX2_has, fX11_isFeature, nar_byte, byte_i, lg_gt, lg_eq, lg_lt, all_A, sF_F, sF_A, sF_J, sF_B, sF_R, sF_all, sA_F, sA_A, sA_J, sA_B, sA_R, sA_all, sJ_F, sJ_A, sJ_J, sJ_B, sJ_R, sJ_all, sB_F, sB_A, sB_J, sB_B, sB_R, sB_all, sR_F, sR_A, sR_J, sR_B, sR_R, sR_all, fX4_findWords_l19, e3]
    exact q
  · rintro k i ⟨y, v⟩ hi ⟨cy, ev⟩ K
    have cy : C2 t z q g s y (rnw g i) (ct (lt' g) i) (ct (fun i => isLM (rc g i)) i) (wA g i) (wL g i) := cy
    have ev : v = if lb g i = true then nI 1 else nI 0 := ev
    have e3 : sF y 4 t 3 = nI z := cy.2.1
    have e6 := cy.2.2.2.2.1
    have e25 := cy.2.2.2.2.2.2.1 i hi
    have ri := RI_all g i
    have K := fun (y' : St) (v' : Int32) (q1 : C2 t z q g s y' (rnw g (i + 1)) (ct (lt' g) (i + 1)) (ct (fun i => isLM (rc g i)) (i + 1)) (wA g (i + 1)) (wL g (i + 1))) (q2 : v' = if lt' g i = true then nI 1 else nI 0) => K (y', v') ⟨q1, q2⟩
    have en : rnw g (i + 1) = rnw g i + (if rst g i = true then 1 else 0) := ct_s _ _
    have eL : wL g (i + 1) = if lt' g i = true then up' (wB (wL g i) (rst g i) (rnw g i)) (rnw g (i + 1) - 1) (wB (wL g i) (rst g i) (rnw g i) (rnw g (i + 1) - 1) + 1) else wB (wL g i) (rst g i) (rnw g i) := rfl
    have eA : wA g (i + 1) = if rst g i = true then up' (wA g i) (rnw g i) i else wA g i := rfl
    rw [ct_s, ct_s, eL, eA, en] at K
    have b58 : ∀ (y1 : St) (mk : Nat), C2 t z q g s y1 (rnw g i) (ct (lt' g) i) mk (wA g i) (wL g i) → mk = ct (fun i => isLM (rc g i)) i + (if isLM (rc g i) = true then 1 else 0) → fX4_findWords_b58_19 N t Q (fun (σ : St) (w1 : Int32) (w2 : Int32) => fX4_findWords_l19 N t Q (fun (σ20 : St) => Q σ20) k σ w1 w2) (fun (σ20 : St) => Q σ20) y1 v (nI i) := by
      intro y1 mk cy1 emk
      rw [← emk] at K
      have e25' := cy1.2.2.2.2.2.2.1 i hi
      have e5' := cy1.2.2.2.1
      simp only [fX4_findWords_b58_19, nI_clamp (show i < 2 ^ 31 by omega), e25', cIsL (rc_SB (eg i hi)), fX4_findWords_b95_19, fX4_findWords_b91_19]
      refine ⟨vp_in_nI (by omega) (by decide), ?_⟩
      by_cases cl : lt' g i = true
      · have cl' : isL (rc g i) = true := cl
        rw [if_pos cl']
        refine ⟨fun z => absurd z (by decide), fun _ y2 ey2 => ?_⟩
        rw [e5', show nI (ct (lt' g) i) + 1 = nI (ct (lt' g) i + 1) from nI_add _ 1] at ey2
        have cy2 := c2_ln cy1
        rw [← ey2] at cy2
        clear ey2
        rw [cl] at K
        simp only [if_true] at K
        have len : ∀ (y3 : St) (nw : Nat) (A B : Nat → Nat), C2 t z q g s y3 nw (ct (lt' g) i + 1) mk A B → 1 ≤ nw → nw ≤ 100 → (∀ y4, C2 t z q g s y4 nw (ct (lt' g) i + 1) mk A (up' B (nw - 1) (B (nw - 1) + 1)) → fX4_findWords_l19 N t Q (fun (σ20 : St) => Q σ20) k y4 (nI 1) (nI (i + 1))) → fX4_lengthenWord N y3 t (fun σ17 => fX4_findWords_l19 N t Q (fun (σ20 : St) => Q σ20) k σ17 (nI 1) (nI i + 1)) := by
          intro y3 nw A B cy3 h1 h2 hh
          have f4 := cy3.2.2.1
          obtain ⟨-, a27⟩ := cy3.2.2.2.2.2.2.2 (nw - 1) (by omega)
          have q := hh _ (c2_le cy3)
          simp (disch := omega) only [li0, li1, li2, li3, li4, li5, li6, li12, li13, li14, li15, li16, li17, li32, li33, li39, li60, li65, li90, li91, li93, li97, li100, li122, li126, li200, li800, li1000, li1400, li2800, li3432, li9999, li10000000, ↓lm1, ↓lm2, ↓lm3, ↓lm4, ↓lm9, le_T, le_F, lt_T, lt_F, eq_F, eq_T, vp_T, mle_F, mle_T, mlt_F, mlt_T, meq_F, meq_F', mne, aR, mR, sR', nI_clamp, br_nT, br_nF, ex_s, true_implies, false_implies, not_true_eq_false, not_false_eq_true, true_and, and_true, forall_eq, implies_true, and_self, reduceIte, reduceCtorEq, Nat.reduceEqDiff, Nat.reduceAdd, Nat.reduceMul, Nat.reduceSub, ite_true, ite_false, if_true, if_false, eq_self, and_false, false_and, fa_s, fa_n, cfF, cfA, cfJ, cfB, cfR, mfF, mfA, mfJ, mfB, mfR, c_foundE, m_meetsE, nar_byte, byte_i, lg_gt, lg_eq, lg_lt, all_A, sF_F, sF_A, sF_J, sF_B, sF_R, sF_all, sA_F, sA_A, sA_J, sA_B, sA_R, sA_all, sJ_F, sJ_A, sJ_J, sJ_B, sJ_R, sJ_all, sB_F, sB_A, sB_J, sB_B, sB_R, sB_all, sR_F, sR_A, sR_J, sR_B, sR_R, sR_all, fX4_lengthenWord, f4, a27]
          exact q
        by_cases cb : lb g i = true
        · rw [if_pos cb] at ev
          have er : rst g i = false := by unfold rst; rw [cb]; simp
          have hn := ri.2.2.1 cb
          have h1 := ri.1
          rw [er] at K
          simp only [Bool.false_eq_true, if_false, Nat.add_zero] at K
          have eB : wB (wL g i) false (rnw g i) = wL g i := if_neg (by decide)
          rw [eB] at K
          subst ev
          refine ⟨fun _ => len y2 _ _ _ cy2 hn (by omega) (fun y4 c4 => K y4 (nI 1) c4 rfl), fun z => absurd z (by decide)⟩
        · have cbF : lb g i = false := by simpa using cb
          rw [if_neg cb] at ev
          have er : rst g i = true := by unfold rst; rw [cl, cbF]; rfl
          have h2 := ri.2.1 cbF
          rw [er] at K
          simp only [if_true] at K
          have eB : wB (wL g i) true (rnw g i) = up' (wL g i) (rnw g i) 0 := if_pos rfl
          rw [eB] at K
          subst ev
          refine ⟨fun z => absurd rfl z, fun _ => ?_⟩
          have f4 := cy2.2.2.1
          have cy3 := c2_bg (i := i) cy2
          have l3 := len _ _ _ _ cy3 (by omega) (by omega) (fun y4 c4 => K y4 (nI 1) c4 rfl)
          rw [show nI i + 1 = nI (i + 1) from nI_add i 1] at l3
          simp (disch := omega) only [li0, li1, li2, li3, li4, li5, li6, li12, li13, li14, li15, li16, li17, li32, li33, li39, li60, li65, li90, li91, li93, li97, li100, li122, li126, li200, li800, li1000, li1400, li2800, li3432, li9999, li10000000, ↓lm1, ↓lm2, ↓lm3, ↓lm4, ↓lm9, le_T, le_F, lt_T, lt_F, eq_F, eq_T, vp_T, mle_F, mle_T, mlt_F, mlt_T, meq_F, meq_F', mne, aR, mR, sR', nI_clamp, br_nT, br_nF, ex_s, true_implies, false_implies, not_true_eq_false, not_false_eq_true, true_and, and_true, forall_eq, implies_true, and_self, reduceIte, reduceCtorEq, Nat.reduceEqDiff, Nat.reduceAdd, Nat.reduceMul, Nat.reduceSub, ite_true, ite_false, if_true, if_false, eq_self, and_false, false_and, fa_s, fa_n, cfF, cfA, cfJ, cfB, cfR, mfF, mfA, mfJ, mfB, mfR, c_foundE, m_meetsE, nar_byte, byte_i, lg_gt, lg_eq, lg_lt, all_A, sF_F, sF_A, sF_J, sF_B, sF_R, sF_all, sA_F, sA_A, sA_J, sA_B, sA_R, sA_all, sJ_F, sJ_A, sJ_J, sJ_B, sJ_R, sJ_all, sB_F, sB_A, sB_J, sB_B, sB_R, sB_all, sR_F, sR_A, sR_J, sR_B, sR_R, sR_all, fX4_beginWord, f4]
          exact l3
      · have clF : lt' g i = false := by simpa using cl
        have cl' : ¬ isL (rc g i) = true := cl
        rw [if_neg cl']
        have er := rst_F clF
        rw [clF, er] at K
        simp only [Bool.false_eq_true, if_false, Nat.add_zero] at K
        have eB : wB (wL g i) false (rnw g i) = wL g i := if_neg (by decide)
        rw [eB] at K
        refine ⟨fun _ => ?_, fun z => absurd rfl z⟩
        rw [show nI i + 1 = nI (i + 1) from nI_add i 1]
        exact K y1 (nI 0) cy1 rfl
    have e6' : sF y 4 t 6 = nI (ct (fun i => isLM (rc g i)) i) := e6
    simp only [fX4_findWords_l19, e3, nI_clamp (show i < 2 ^ 31 by omega), e25, cIsLM]
    refine ⟨fun c => absurd c (nI_ge hi (by omega)), fun _ => ⟨fun c => absurd c (nI_ge (show i < 200 by omega) (by decide)), fun _ => ⟨vp_in_nI (by omega) (by decide), ?_⟩⟩⟩
    by_cases cm : isLM (rc g i) = true
    · rw [if_pos cm]
      refine ⟨fun z => absurd z (by decide), fun _ y1 ey1 => ?_⟩
      rw [e6', show nI (ct (fun i => isLM (rc g i)) i) + 1 = nI (ct (fun i => isLM (rc g i)) i + 1) from nI_add _ 1] at ey1
      have cy1 := c2_mk cy
      rw [← ey1] at cy1
      exact b58 y1 _ cy1 (by rw [if_pos cm])
    · rw [if_neg cm]
      refine ⟨fun _ => b58 y _ cy (by rw [if_neg cm]; rfl), fun z => absurd rfl z⟩
theorem cread_sp {N t u z : Nat} {s : St} {g : Nat → Int32} {Q : St → Prop} (hN : 1000 ≤ N) (hz : z ≤ 200) (e51 : sF s 5 u 1 = nI z) (eg : ∀ i, i < z → sA s 24 u i = g i ∧ fits .byte (.int (g i)) = true) (h : ∀ y, C2 t z (ct (rop g) z) g s y (rnw g z) (ct (lt' g) z) (ct (fun i => isLM (rc g i)) z) (wA g z) (wL g z) → Q y) : fX4_read N s t u Q := by
  unfold fX4_read
  intro s1 e1
  have ez : (if (200 : Int32) < sF s 5 u 1 then (200 : Int32) else sF s 5 u 1) = nI z := by
    rw [e51, if_neg (show ¬ (200 : Int32) < nI z from nI_nlt hz (by decide))]
  rw [ez] at e1
  have x1 : RX t s s1 := by subst e1; exact rx_F
  have e43 : sF s1 4 t 3 = nI z := by subst e1; rw [sF_F, if_pos ⟨rfl, rfl, rfl⟩]
  refine ccut_sp hN hz (by rw [x1.1 5 u 1 (by omega)]; exact e51) e43 (fun i hi => by rw [x1.2.1 24 u (by omega)]; exact eg i hi) (fun y cy => ?_)
  have cy' : C1 t z g s z y := ⟨x1.trans cy.1, cy.2⟩
  exact cwords_sp hN hz (fun i hi => (eg i hi).2) cy' rfl h
