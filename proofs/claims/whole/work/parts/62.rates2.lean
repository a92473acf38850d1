/-- the reference's texts and features, in bounds -/
def RT (σ : St) (n m : Nat) : Prop := n ≤ 14 ∧ m ≤ 12 ∧ sF σ 11 0 6 = nI n ∧ sF σ 11 0 18 = nI m ∧ (∀ t, t < n → MT σ t ∧ mkM σ t ≤ 200 ∧ sA σ 74 0 t = nI (mkM σ t)) ∧ ∀ f, f < m → MS σ f
theorem RT_of {σ : St} {n m : Nat} (hn : n ≤ 14) (hm : m ≤ 12) (g1 : G1 n m σ) (g4 : G4 n σ) (g5 : G5 m σ) : RT σ n m := ⟨hn, hm, g1.2.1, g1.2.2.2.1, fun t ht => ⟨MT_of (g4 t ht), (g4 t ht).1.2.2.1, (g4 t ht).2.1.2.2.1⟩, fun f hf => MS_of (g5 f hf)⟩
/-- the same texts and features in the reference -/
def SM (σ σ' : St) : Prop := sF σ' 11 = sF σ 11 ∧ ∀ K, 67 ≤ K → K ≤ 82 → sA σ' K = sA σ K
theorem SM.f {σ σ' : St} (s : SM σ σ') : lnM σ' = lnM σ ∧ mkM σ' = mkM σ ∧ nwM σ' = nwM σ ∧ waM σ' = waM σ ∧ wlM σ' = wlM σ ∧ cnt σ' = cnt σ := by
  have a := fun K h1 h2 => s.2 K h1 h2
  refine ⟨?_, ?_, ?_, ?_, ?_, ?_⟩
  · funext t; unfold lnM; rw [a 71 (by decide) (by decide)]
  · funext t; unfold mkM; rw [a 74 (by decide) (by decide)]
  · funext t; unfold nwM; rw [a 75 (by decide) (by decide)]
  · funext t w; unfold waM; rw [a 76 (by decide) (by decide)]
  · funext t w; unfold wlM; rw [a 77 (by decide) (by decide)]
  · exact cnt_c (a _ (by decide) (by decide)) (a _ (by decide) (by decide)) (a _ (by decide) (by decide)) (a _ (by decide) (by decide)) (a _ (by decide) (by decide)) (a _ (by decide) (by decide)) (a _ (by decide) (by decide)) (a _ (by decide) (by decide)) (a _ (by decide) (by decide))
theorem RT_c {σ σ' : St} {n m : Nat} (h : RT σ n m) (s : SM σ σ') : RT σ' n m := by
  obtain ⟨f1, f2, f3, f4, f5, f6⟩ := s.f
  have a := fun K h1 h2 => s.2 K h1 h2
  unfold RT MT MS at h ⊢
  rw [f1, f2, f3, f4, f5, s.1, a 71 (by decide) (by decide), a 74 (by decide) (by decide), a 75 (by decide) (by decide), a 76 (by decide) (by decide), a 77 (by decide) (by decide), a 79 (by decide) (by decide)]
  exact h
theorem SM_83 {σ : St} {F : Nat → Int32} : SM σ (setAll σ 83 0 F) := ⟨rfl, fun K h1 h2 => sLx (by omega)⟩
def CF (σ : St) (n m : Nat) : Prop := ∀ t f, t < n → f < m → sA σ 83 0 (12 * t + f) = nI (cnt σ f t)
theorem setCounts_sp {N n m : Nat} {σ : St} {Q : St → Prop} (hN : 1000 ≤ N) (rt : RT σ n m) (h : ∀ F : Nat → Int32, CF (setAll σ 83 0 F) n m → Q (setAll σ 83 0 F)) : fX11_setCounts N σ Q := by
  obtain ⟨hn, hm, e6, e18, tt, ff⟩ := id rt
  unfold fX11_setCounts
  have fin : ∀ F : Nat → Int32, (∀ t f, t < n → f < m → F (12 * t + f) = nI (cnt σ f t)) → Q (setAll σ 83 0 F) := by
    intro F hF
    refine h F (fun t f ht hf => ?_)
    rw [(SM_83 (σ := σ) (F := F)).f.2.2.2.2.2, sA_all, if_pos ⟨rfl, rfl⟩]
    exact hF t f ht hf
  refine lpU (fun k i (x : St) => fX11_setCounts_l2 N Q _ k x (nI i)) (fun i x => ∃ F : Nat → Int32, x = setAll σ 83 0 F ∧ ∀ t f, t < i → f < m → F (12 * t + f) = nI (cnt σ f t)) n N ?_ ?_ 0 σ (by omega) (by omega) ⟨sA σ 83 0, (all_self σ 83 0).symm, fun t f ht => absurd ht (by omega)⟩
  · rintro k x ⟨F, rfl, hF⟩
    simp (disch := omega) only [li0, li1, li2, li3, li4, li5, li6, li12, li13, li14, li15, li16, li17, li32, li33, li39, li60, li65, li90, li91, li93, li97, li100, li122, li126, li200, li800, li1000, li1400, li2800, li3432, li9999, li10000000, ↓lm1, ↓lm2, ↓lm3, ↓lm4, ↓lm9, le_T, le_F, lt_T, lt_F, eq_F, eq_T, vp_T, mle_F, mle_T, mlt_F, mlt_T, meq_F, meq_F', mne, aR, mR, sR', nI_clamp, br_nT, br_nF, ex_s, true_implies, false_implies, not_true_eq_false, not_false_eq_true, true_and, and_true, forall_eq, implies_true, and_self, reduceIte, reduceCtorEq, Nat.reduceEqDiff, Nat.reduceAdd, Nat.reduceMul, Nat.reduceSub, ite_true, ite_false, if_true, if_false, eq_self, and_false, false_and, fa_s, fa_n, cfF, cfA, cfJ, cfB, cfR, mfF, mfA, mfJ, mfB, mfR, c_foundE, m_meetsE, fX11_isSheet, fX11_in, fX10_sheetAt, fX10_sheetAt_b22, fX10_textAt, fX10_textAt_b22, fX11_isText, fX2_has, fX11_isFeature, nar_byte, byte_i, lg_gt, lg_eq, lg_lt, all_A, sF_F, sF_A, sF_J, sF_B, sF_R, sF_all, sA_F, sA_A, sA_J, sA_B, sA_R, sA_all, sJ_F, sJ_A, sJ_J, sJ_B, sJ_R, sJ_all, sB_F, sB_A, sB_J, sB_B, sB_R, sB_all, sR_F, sR_A, sR_J, sR_B, sR_R, sR_all, fX11_setCounts_l2, e6]
    exact fin F hF
  · rintro k i x hi ⟨F, rfl, hF⟩ K
    simp (disch := omega) only [li0, li1, li2, li3, li4, li5, li6, li12, li13, li14, li15, li16, li17, li32, li33, li39, li60, li65, li90, li91, li93, li97, li100, li122, li126, li200, li800, li1000, li1400, li2800, li3432, li9999, li10000000, ↓lm1, ↓lm2, ↓lm3, ↓lm4, ↓lm9, le_T, le_F, lt_T, lt_F, eq_F, eq_T, vp_T, mle_F, mle_T, mlt_F, mlt_T, meq_F, meq_F', mne, aR, mR, sR', nI_clamp, br_nT, br_nF, ex_s, true_implies, false_implies, not_true_eq_false, not_false_eq_true, true_and, and_true, forall_eq, implies_true, and_self, reduceIte, reduceCtorEq, Nat.reduceEqDiff, Nat.reduceAdd, Nat.reduceMul, Nat.reduceSub, ite_true, ite_false, if_true, if_false, eq_self, and_false, false_and, fa_s, fa_n, cfF, cfA, cfJ, cfB, cfR, mfF, mfA, mfJ, mfB, mfR, c_foundE, m_meetsE, fX11_isSheet, fX11_in, fX10_sheetAt, fX10_sheetAt_b22, fX10_textAt, fX10_textAt_b22, fX11_isText, fX2_has, fX11_isFeature, nar_byte, byte_i, lg_gt, lg_eq, lg_lt, all_A, sF_F, sF_A, sF_J, sF_B, sF_R, sF_all, sA_F, sA_A, sA_J, sA_B, sA_R, sA_all, sJ_F, sJ_A, sJ_J, sJ_B, sJ_R, sJ_all, sB_F, sB_A, sB_J, sB_B, sB_R, sB_all, sR_F, sR_A, sR_J, sR_B, sR_R, sR_all, fX11_setCounts_l2, e6]
    refine lpU (fun k' j (x : St) => fX11_setCounts_l12 N Q _ k' x (nI i) (nI j)) (fun j x => ∃ F : Nat → Int32, x = setAll σ 83 0 F ∧ (∀ t f, t < i → f < m → F (12 * t + f) = nI (cnt σ f t)) ∧ ∀ f, f < j → F (12 * i + f) = nI (cnt σ f i)) m N ?_ ?_ 0 _ (by omega) (by omega) ⟨F, rfl, hF, fun f hf => absurd hf (by omega)⟩
    · rintro k' x ⟨F, rfl, hF, hF2⟩
      simp (disch := omega) only [li0, li1, li2, li3, li4, li5, li6, li12, li13, li14, li15, li16, li17, li32, li33, li39, li60, li65, li90, li91, li93, li97, li100, li122, li126, li200, li800, li1000, li1400, li2800, li3432, li9999, li10000000, ↓lm1, ↓lm2, ↓lm3, ↓lm4, ↓lm9, le_T, le_F, lt_T, lt_F, eq_F, eq_T, vp_T, mle_F, mle_T, mlt_F, mlt_T, meq_F, meq_F', mne, aR, mR, sR', nI_clamp, br_nT, br_nF, ex_s, true_implies, false_implies, not_true_eq_false, not_false_eq_true, true_and, and_true, forall_eq, implies_true, and_self, reduceIte, reduceCtorEq, Nat.reduceEqDiff, Nat.reduceAdd, Nat.reduceMul, Nat.reduceSub, ite_true, ite_false, if_true, if_false, eq_self, and_false, false_and, fa_s, fa_n, cfF, cfA, cfJ, cfB, cfR, mfF, mfA, mfJ, mfB, mfR, c_foundE, m_meetsE, fX11_isSheet, fX11_in, fX10_sheetAt, fX10_sheetAt_b22, fX10_textAt, fX10_textAt_b22, fX11_isText, fX2_has, fX11_isFeature, nar_byte, byte_i, lg_gt, lg_eq, lg_lt, all_A, sF_F, sF_A, sF_J, sF_B, sF_R, sF_all, sA_F, sA_A, sA_J, sA_B, sA_R, sA_all, sJ_F, sJ_A, sJ_J, sJ_B, sJ_R, sJ_all, sB_F, sB_A, sB_J, sB_B, sB_R, sB_all, sR_F, sR_A, sR_J, sR_B, sR_R, sR_all, fX11_setCounts_l12, e18]
      refine K _ ⟨F, rfl, fun t f ht hf => ?_⟩
      by_cases e : t = i
      · subst e; exact hF2 f hf
      · exact hF t f (by omega) hf
    · rintro k' j x hj ⟨F, rfl, hF, hF2⟩ K'
      have rt' := RT_c rt (SM_83 (σ := σ) (F := F))
      have ec := (SM_83 (σ := σ) (F := F)).f.2.2.2.2.2
      simp (disch := omega) only [li0, li1, li2, li3, li4, li5, li6, li12, li13, li14, li15, li16, li17, li32, li33, li39, li60, li65, li90, li91, li93, li97, li100, li122, li126, li200, li800, li1000, li1400, li2800, li3432, li9999, li10000000, ↓lm1, ↓lm2, ↓lm3, ↓lm4, ↓lm9, le_T, le_F, lt_T, lt_F, eq_F, eq_T, vp_T, mle_F, mle_T, mlt_F, mlt_T, meq_F, meq_F', mne, aR, mR, sR', nI_clamp, br_nT, br_nF, ex_s, true_implies, false_implies, not_true_eq_false, not_false_eq_true, true_and, and_true, forall_eq, implies_true, and_self, reduceIte, reduceCtorEq, Nat.reduceEqDiff, Nat.reduceAdd, Nat.reduceMul, Nat.reduceSub, ite_true, ite_false, if_true, if_false, eq_self, and_false, false_and, fa_s, fa_n, cfF, cfA, cfJ, cfB, cfR, mfF, mfA, mfJ, mfB, mfR, c_foundE, m_meetsE, fX11_isSheet, fX11_in, fX10_sheetAt, fX10_sheetAt_b22, fX10_textAt, fX10_textAt_b22, fX11_isText, fX2_has, fX11_isFeature, nar_byte, byte_i, lg_gt, lg_eq, lg_lt, all_A, sF_F, sF_A, sF_J, sF_B, sF_R, sF_all, sA_F, sA_A, sA_J, sA_B, sA_R, sA_all, sJ_F, sJ_A, sJ_J, sJ_B, sJ_R, sJ_all, sB_F, sB_A, sB_J, sB_B, sB_R, sB_all, sR_F, sR_A, sR_J, sR_B, sR_R, sR_all, fX11_setCounts_l12, e18]
      refine countOf_sp hN (by omega) (by omega) (rt'.2.2.2.2.1 i hi).1 (rt'.2.2.2.2.2 j hj) ?_
      simp (disch := omega) only [li0, li1, li2, li3, li4, li5, li6, li12, li13, li14, li15, li16, li17, li32, li33, li39, li60, li65, li90, li91, li93, li97, li100, li122, li126, li200, li800, li1000, li1400, li2800, li3432, li9999, li10000000, ↓lm1, ↓lm2, ↓lm3, ↓lm4, ↓lm9, le_T, le_F, lt_T, lt_F, eq_F, eq_T, vp_T, mle_F, mle_T, mlt_F, mlt_T, meq_F, meq_F', mne, aR, mR, sR', nI_clamp, br_nT, br_nF, ex_s, true_implies, false_implies, not_true_eq_false, not_false_eq_true, true_and, and_true, forall_eq, implies_true, and_self, reduceIte, reduceCtorEq, Nat.reduceEqDiff, Nat.reduceAdd, Nat.reduceMul, Nat.reduceSub, ite_true, ite_false, if_true, if_false, eq_self, and_false, false_and, fa_s, fa_n, cfF, cfA, cfJ, cfB, cfR, mfF, mfA, mfJ, mfB, mfR, c_foundE, m_meetsE, fX11_isSheet, fX11_in, fX10_sheetAt, fX10_sheetAt_b22, fX10_textAt, fX10_textAt_b22, fX11_isText, fX2_has, fX11_isFeature, nar_byte, byte_i, lg_gt, lg_eq, lg_lt, all_A, sF_F, sF_A, sF_J, sF_B, sF_R, sF_all, sA_F, sA_A, sA_J, sA_B, sA_R, sA_all, sJ_F, sJ_A, sJ_J, sJ_B, sJ_R, sJ_all, sB_F, sB_A, sB_J, sB_B, sB_R, sB_all, sR_F, sR_A, sR_J, sR_B, sR_R, sR_all, ec]
      refine K' _ ⟨_, rfl, fun t f ht hf => ?_, fun f hf => ?_⟩
      · unfold upd; rw [if_neg (by omega)]; exact hF t f ht hf
      · unfold upd
        by_cases e : f = j
        · subst e; rw [if_pos rfl]
        · rw [if_neg (by omega)]; exact hF2 f (by omega)
/-- of what a feature's count is a part, in a text -/
def wh (σ : St) (f t : Nat) : Nat := if sA σ 79 0 f = nI 0 then mkM σ t else nwM σ t
def rateV (a b : Nat) : Int32 := if b = 0 then nI 0 else nI (1000 * a) / nI b
/-- the sum over a set -/
def sb (p : Nat → Bool) (g : Nat → Nat) (n : Nat) : Nat := sm (fun t => if p t then g t else 0) n
theorem sb_s (p : Nat → Bool) (g : Nat → Nat) (n : Nat) : sb p g (n + 1) = sb p g n + (if p n then g n else 0) := rfl
theorem sb_le {p : Nat → Bool} {g : Nat → Nat} {n b : Nat} (h : ∀ i, i < n → g i ≤ b) : sb p g n ≤ b * n := by
  induction n with
  | zero => exact Nat.zero_le _
  | succ n ih =>
    rw [sb_s, Nat.mul_succ]
    have := ih (fun i hi => h i (by omega))
    have := h n (by omega)
    split <;> omega
theorem sb_c {p q : Nat → Bool} {g k : Nat → Nat} {n : Nat} (h : ∀ i, i < n → p i = q i) (h2 : ∀ i, i < n → g i = k i) : sb p g n = sb q k n := by
  induction n with
  | zero => rfl
  | succ n ih => rw [sb_s, sb_s, ih (fun i hi => h i (by omega)) (fun i hi => h2 i (by omega)), h n (by omega), h2 n (by omega)]
theorem sb_0 {p : Nat → Bool} {g : Nat → Nat} {n : Nat} (h : ∀ i, i < n → p i = false) : sb p g n = 0 := by
  induction n with
  | zero => rfl
  | succ n ih => rw [sb_s, ih (fun i hi => h i (by omega)), h n (by omega)]; rfl
theorem sb_1 {g : Nat → Nat} {n t : Nat} (ht : t < n) : sb (fun s => decide (s = t)) g n = g t := by
  induction n with
  | zero => omega
  | succ n ih =>
    rw [sb_s]
    by_cases e : t = n
    · subst e
      rw [sb_0 (fun i hi => decide_eq_false (by omega))]; simp
    · rw [ih (by omega), decide_eq_false (show ¬ n = t by omega)]; simp
theorem wh_le {σ : St} {n m f t : Nat} (rt : RT σ n m) (ht : t < n) : wh σ f t ≤ 200 := by
  have := (rt.2.2.2.2.1 t ht).2.1
  have := (rt.2.2.2.2.1 t ht).1.2.1
  unfold wh; split <;> omega
theorem rateIn_sp {N n m f : Nat} {σ : St} {x : Int32} {Q : Int32 → St → Prop} (hN : 1000 ≤ N) (rt : RT σ n m) (cf' : CF σ n m) (hf : f < m) (h : Q (rateV (sb (bt x) (cnt σ f) n) (sb (bt x) (wh σ f) n)) σ) : fX11_rateIn N σ (nI f) x Q := by
  obtain ⟨hn, hm, e6, e18, tt, ff⟩ := id rt
  obtain ⟨so, hso, es⟩ := ff f hf
  have hb : sb (bt x) (wh σ f) n ≤ 200 * n := sb_le (fun t ht => wh_le rt ht)
  unfold fX11_rateIn
  refine lpU (fun k i (y : St × Int32 × Int32) => fX11_rateIn_l8 N (nI f) x Q _ k y.1 y.2.1 y.2.2 (nI i)) (fun i y => y = (σ, nI (sb (bt x) (cnt σ f) i), nI (sb (bt x) (wh σ f) i))) n N ?_ ?_ 0 (σ, nI 0, nI 0) (by omega) (by omega) rfl
  · rintro k y rfl
    unfold rateV at h
    by_cases e : sb (bt x) (wh σ f) n = 0
    · rw [if_pos e] at h
      simp (disch := omega) only [li0, li1, li2, li3, li4, li5, li6, li12, li13, li14, li15, li16, li17, li32, li33, li39, li60, li65, li90, li91, li93, li97, li100, li122, li126, li200, li800, li1000, li1400, li2800, li3432, li9999, li10000000, ↓lm1, ↓lm2, ↓lm3, ↓lm4, ↓lm9, le_T, le_F, lt_T, lt_F, eq_F, eq_T, vp_T, mle_F, mle_T, mlt_F, mlt_T, meq_F, meq_F', mne, aR, mR, sR', nI_clamp, br_nT, br_nF, ex_s, true_implies, false_implies, not_true_eq_false, not_false_eq_true, true_and, and_true, forall_eq, implies_true, and_self, reduceIte, reduceCtorEq, Nat.reduceEqDiff, Nat.reduceAdd, Nat.reduceMul, Nat.reduceSub, ite_true, ite_false, if_true, if_false, eq_self, and_false, false_and, fa_s, fa_n, cfF, cfA, cfJ, cfB, cfR, mfF, mfA, mfJ, mfB, mfR, c_foundE, m_meetsE, fX11_isSheet, fX11_in, fX10_sheetAt, fX10_sheetAt_b22, fX10_textAt, fX10_textAt_b22, fX11_isText, fX2_has, fX11_isFeature, nar_byte, byte_i, lg_gt, lg_eq, lg_lt, all_A, sF_F, sF_A, sF_J, sF_B, sF_R, sF_all, sA_F, sA_A, sA_J, sA_B, sA_R, sA_all, sJ_F, sJ_A, sJ_J, sJ_B, sJ_R, sJ_all, sB_F, sB_A, sB_J, sB_B, sB_R, sB_all, sR_F, sR_A, sR_J, sR_B, sR_R, sR_all, fX11_rateIn_l8, e6, e]
      exact h
    · rw [if_neg e] at h
      simp (disch := omega) only [li0, li1, li2, li3, li4, li5, li6, li12, li13, li14, li15, li16, li17, li32, li33, li39, li60, li65, li90, li91, li93, li97, li100, li122, li126, li200, li800, li1000, li1400, li2800, li3432, li9999, li10000000, ↓lm1, ↓lm2, ↓lm3, ↓lm4, ↓lm9, le_T, le_F, lt_T, lt_F, eq_F, eq_T, vp_T, mle_F, mle_T, mlt_F, mlt_T, meq_F, meq_F', mne, aR, mR, sR', nI_clamp, br_nT, br_nF, ex_s, true_implies, false_implies, not_true_eq_false, not_false_eq_true, true_and, and_true, forall_eq, implies_true, and_self, reduceIte, reduceCtorEq, Nat.reduceEqDiff, Nat.reduceAdd, Nat.reduceMul, Nat.reduceSub, ite_true, ite_false, if_true, if_false, eq_self, and_false, false_and, fa_s, fa_n, cfF, cfA, cfJ, cfB, cfR, mfF, mfA, mfJ, mfB, mfR, c_foundE, m_meetsE, fX11_isSheet, fX11_in, fX10_sheetAt, fX10_sheetAt_b22, fX10_textAt, fX10_textAt_b22, fX11_isText, fX2_has, fX11_isFeature, nar_byte, byte_i, lg_gt, lg_eq, lg_lt, all_A, sF_F, sF_A, sF_J, sF_B, sF_R, sF_all, sA_F, sA_A, sA_J, sA_B, sA_R, sA_all, sJ_F, sJ_A, sJ_J, sJ_B, sJ_R, sJ_all, sB_F, sB_A, sB_J, sB_B, sB_R, sB_all, sR_F, sR_A, sR_J, sR_B, sR_R, sR_all, fX11_rateIn_l8, e6]
      exact h
  · rintro k i y hi rfl K
    have K := K _ rfl
    have c := cf' i f hi hf
    have mn := (tt i hi).1.2.2.2.1
    have mm := (tt i hi).2.2
    have ew : wh σ f i = if sA σ 79 0 f = nI 0 then mkM σ i else nwM σ i := rfl
    rw [sb_s, sb_s] at K
    cases b : bt x i
    · rw [b] at K
      simp (disch := omega) only [li0, li1, li2, li3, li4, li5, li6, li12, li13, li14, li15, li16, li17, li32, li33, li39, li60, li65, li90, li91, li93, li97, li100, li122, li126, li200, li800, li1000, li1400, li2800, li3432, li9999, li10000000, ↓lm1, ↓lm2, ↓lm3, ↓lm4, ↓lm9, le_T, le_F, lt_T, lt_F, eq_F, eq_T, vp_T, mle_F, mle_T, mlt_F, mlt_T, meq_F, meq_F', mne, aR, mR, sR', nI_clamp, br_nT, br_nF, ex_s, true_implies, false_implies, not_true_eq_false, not_false_eq_true, true_and, and_true, forall_eq, implies_true, and_self, reduceIte, reduceCtorEq, Nat.reduceEqDiff, Nat.reduceAdd, Nat.reduceMul, Nat.reduceSub, ite_true, ite_false, if_true, if_false, eq_self, and_false, false_and, fa_s, fa_n, cfF, cfA, cfJ, cfB, cfR, mfF, mfA, mfJ, mfB, mfR, c_foundE, m_meetsE, fX11_isSheet, fX11_in, fX10_sheetAt, fX10_sheetAt_b22, fX10_textAt, fX10_textAt_b22, fX11_isText, fX2_has, fX11_isFeature, nar_byte, byte_i, lg_gt, lg_eq, lg_lt, all_A, sF_F, sF_A, sF_J, sF_B, sF_R, sF_all, sA_F, sA_A, sA_J, sA_B, sA_R, sA_all, sJ_F, sJ_A, sJ_J, sJ_B, sJ_R, sJ_all, sB_F, sB_A, sB_J, sB_B, sB_R, sB_all, sR_F, sR_A, sR_J, sR_B, sR_R, sR_all, fX11_rateIn_l8, e6, has_sp, b, fX11_rateIn_b43_8, fX11_rateIn_b86_8, Bool.false_eq_true]
      exact K
    · rw [b, ew, es] at K
      rcases Nat.eq_zero_or_pos so with rfl | hs
      · rw [if_pos rfl] at K
        simp (disch := omega) only [li0, li1, li2, li3, li4, li5, li6, li12, li13, li14, li15, li16, li17, li32, li33, li39, li60, li65, li90, li91, li93, li97, li100, li122, li126, li200, li800, li1000, li1400, li2800, li3432, li9999, li10000000, ↓lm1, ↓lm2, ↓lm3, ↓lm4, ↓lm9, le_T, le_F, lt_T, lt_F, eq_F, eq_T, vp_T, mle_F, mle_T, mlt_F, mlt_T, meq_F, meq_F', mne, aR, mR, sR', nI_clamp, br_nT, br_nF, ex_s, true_implies, false_implies, not_true_eq_false, not_false_eq_true, true_and, and_true, forall_eq, implies_true, and_self, reduceIte, reduceCtorEq, Nat.reduceEqDiff, Nat.reduceAdd, Nat.reduceMul, Nat.reduceSub, ite_true, ite_false, if_true, if_false, eq_self, and_false, false_and, fa_s, fa_n, cfF, cfA, cfJ, cfB, cfR, mfF, mfA, mfJ, mfB, mfR, c_foundE, m_meetsE, fX11_isSheet, fX11_in, fX10_sheetAt, fX10_sheetAt_b22, fX10_textAt, fX10_textAt_b22, fX11_isText, fX2_has, fX11_isFeature, nar_byte, byte_i, lg_gt, lg_eq, lg_lt, all_A, sF_F, sF_A, sF_J, sF_B, sF_R, sF_all, sA_F, sA_A, sA_J, sA_B, sA_R, sA_all, sJ_F, sJ_A, sJ_J, sJ_B, sJ_R, sJ_all, sB_F, sB_A, sB_J, sB_B, sB_R, sB_all, sR_F, sR_A, sR_J, sR_B, sR_R, sR_all, fX11_rateIn_l8, e6, has_sp, b, fX11_rateIn_b43_8, fX11_rateIn_b86_8, c, es, mm]
        exact K
      · have ns : ¬ nI so = nI 0 := fun e => absurd ((nI_eq (by omega) (by decide)).mp e) (by omega)
        rw [if_neg ns] at K
        simp (disch := omega) only [li0, li1, li2, li3, li4, li5, li6, li12, li13, li14, li15, li16, li17, li32, li33, li39, li60, li65, li90, li91, li93, li97, li100, li122, li126, li200, li800, li1000, li1400, li2800, li3432, li9999, li10000000, ↓lm1, ↓lm2, ↓lm3, ↓lm4, ↓lm9, le_T, le_F, lt_T, lt_F, eq_F, eq_T, vp_T, mle_F, mle_T, mlt_F, mlt_T, meq_F, meq_F', mne, aR, mR, sR', nI_clamp, br_nT, br_nF, ex_s, true_implies, false_implies, not_true_eq_false, not_false_eq_true, true_and, and_true, forall_eq, implies_true, and_self, reduceIte, reduceCtorEq, Nat.reduceEqDiff, Nat.reduceAdd, Nat.reduceMul, Nat.reduceSub, ite_true, ite_false, if_true, if_false, eq_self, and_false, false_and, fa_s, fa_n, cfF, cfA, cfJ, cfB, cfR, mfF, mfA, mfJ, mfB, mfR, c_foundE, m_meetsE, fX11_isSheet, fX11_in, fX10_sheetAt, fX10_sheetAt_b22, fX10_textAt, fX10_textAt_b22, fX11_isText, fX2_has, fX11_isFeature, nar_byte, byte_i, lg_gt, lg_eq, lg_lt, all_A, sF_F, sF_A, sF_J, sF_B, sF_R, sF_all, sA_F, sA_A, sA_J, sA_B, sA_R, sA_all, sJ_F, sJ_A, sJ_J, sJ_B, sJ_R, sJ_all, sB_F, sB_A, sB_J, sB_B, sB_R, sB_all, sR_F, sR_A, sR_J, sR_B, sR_R, sR_all, fX11_rateIn_l8, e6, has_sp, b, fX11_rateIn_b43_8, fX11_rateIn_b86_8, c, es, mn]
        exact K
