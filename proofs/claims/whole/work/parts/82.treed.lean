/-- farness of two sets -/
def fm (σ : St) (n m srt : Nat) (x y : Int32) : Int32 := nI (sb (bt (mI 1)) (fun f => dN srt (rtM σ n x f) (rtM σ n y f)) m)
/-- what finding a pair changes -/
def FS (j : Nat) (s s' : St) : Prop := TR s s' ∧ sF s' = sF s ∧ ∀ K i q, ¬ ((K = 42 ∨ K = 43 ∨ K = 44) ∧ i = 0 ∧ q = j) → sA s' K i q = sA s K i q
theorem FS.rfl' {j : Nat} {s : St} : FS j s s := ⟨TR.rfl', rfl, fun _ _ _ _ => rfl⟩
theorem FS_w {j : Nat} {s s1 : St} {a b c : Int32} (h : FS j s s1) : FS j s (setA (setA (setA s1 42 0 j a) 43 0 j b) 44 0 j c) := by
  refine ⟨h.1.trans ((tr_A4 (Or.inl rfl)).trans ((tr_A4 (Or.inr (Or.inl rfl))).trans (tr_A4 (Or.inr (Or.inr rfl))))), h.2.1, fun K i q e => ?_⟩
  simp only [sF_F, sF_A, sF_J, sF_B, sF_R, sF_all, sA_F, sA_A, sA_J, sA_B, sA_R, sA_all, sJ_F, sJ_A, sJ_J, sJ_B, sJ_R, sJ_all, sB_F, sB_A, sB_J, sB_B, sB_R, sB_all, sR_F, sR_A, sR_J, sR_B, sR_R, sR_all]
  rw [if_neg (fun z => e ⟨Or.inr (Or.inr z.1), z.2⟩), if_neg (fun z => e ⟨Or.inr (Or.inl z.1), z.2⟩), if_neg (fun z => e ⟨Or.inl z.1, z.2⟩)]
  exact h.2.2 K i q e
/-- while a pair is looked for -/
def FI (j : Nat) (s : St) (x : Int32 × Int32 × Int32) (s' : St) (v : Int32) : Prop := FS j s s' ∧ ((x.1 = mI 9 ∧ v = nI 0) ∨ (¬ x.1 = mI 9 ∧ v = nI 1 ∧ sA s' 42 0 j = x.1 ∧ sA s' 43 0 j = x.2.1 ∧ sA s' 44 0 j = x.2.2))
theorem FI_w {j a b : Nat} {s s1 : St} {c : Int32} {x : Int32 × Int32 × Int32} {v : Int32} (ha : a < 14) (h : FI j s x s1 v) : FI j s (nI a, nI b, c) (setA (setA (setA s1 42 0 j (nI a)) 43 0 j (nI b)) 44 0 j c) (nI 1) := by
  refine ⟨FS_w h.1, Or.inr ⟨ne9 (by omega), rfl, ?_, ?_, ?_⟩⟩
  · simp [sF_F, sF_A, sF_J, sF_B, sF_R, sF_all, sA_F, sA_A, sA_J, sA_B, sA_R, sA_all, sJ_F, sJ_A, sJ_J, sJ_B, sJ_R, sJ_all, sB_F, sB_A, sB_J, sB_B, sB_R, sB_all, sR_F, sR_A, sR_J, sR_B, sR_R, sR_all]
  · simp [sF_F, sF_A, sF_J, sF_B, sF_R, sF_all, sA_F, sA_A, sA_J, sA_B, sA_R, sA_all, sJ_F, sJ_A, sJ_J, sJ_B, sJ_R, sJ_all, sB_F, sB_A, sB_J, sB_B, sB_R, sB_all, sR_F, sR_A, sR_J, sR_B, sR_R, sR_all]
  · simp [sF_F, sF_A, sF_J, sF_B, sF_R, sF_all, sA_F, sA_A, sA_J, sA_B, sA_R, sA_all, sJ_F, sJ_A, sJ_J, sJ_B, sJ_R, sJ_all, sB_F, sB_A, sB_J, sB_B, sB_R, sB_all, sR_F, sR_A, sR_J, sR_B, sR_R, sR_all]
theorem cfind_in {N n m srt j g : Nat} {σ s s0 : St} {mm : Nat → Int32} {v0 : Int32} {x0 : Int32 × Int32 × Int32} {Q : Int32 → St → Prop} {K0 : St → Int32 → Int32 → Prop} (hN : 1000 ≤ N) (ct' : CT σ n m) (tr : TR σ s) (sr : SR σ srt) (gh : ∀ i, i < 14 → GH σ s n m i (mm i)) (hj : sF s 9 0 6 = nI j) (hjl : j < 14) (hm0 : ∀ i, n ≤ i → mm i = nI 0) (hg : g < 14) (fi : FI j s x0 s0 v0) (h : ∀ s1 v1, FI j s (inS mm (fm σ n m srt) g x0 n) s1 v1 → K0 s1 v1 (nI g)) : fX9_findNearestPair_l15 N Q K0 N s0 v0 (nI g) (nI (g + 1)) := by
  have hn := ct'.1
  have hm := ct'.2.1
  by_cases mg : mm g = nI 0
  · have e41 : sA s0 41 0 g = nI 0 := by
      rw [fi.1.2.2 41 0 g (by omega), (gh g hg).1, if_pos mg]
    have q := h s0 v0 (by rw [inS_0 mg]; exact fi)
    obtain ⟨k, rfl⟩ : ∃ k, N = k + 1 := ⟨N - 1, by omega⟩
    by_cases e : g = 13
    · subst e
      simp (disch := omega) only [li0, li1, li2, li3, li4, li5, li6, li12, li13, li14, li15, li16, li17, li32, li33, li39, li60, li65, li90, li91, li93, li97, li100, li122, li126, li200, li800, li1000, li1400, li2800, li3432, li9999, li10000000, ↓lm1, ↓lm2, ↓lm3, ↓lm4, ↓lm9, le_T, le_F, lt_T, lt_F, eq_F, eq_T, vp_T, mle_F, mle_T, mlt_F, mlt_T, meq_F, meq_F', mne, aR, mR, sR', nI_clamp, br_nT, br_nF, ex_s, true_implies, false_implies, not_true_eq_false, not_false_eq_true, true_and, and_true, forall_eq, implies_true, and_self, reduceIte, reduceCtorEq, Nat.reduceEqDiff, Nat.reduceAdd, Nat.reduceMul, Nat.reduceSub, ite_true, ite_false, if_true, if_false, eq_self, and_false, false_and, fa_s, fa_n, cfF, cfA, cfJ, cfB, cfR, mfF, mfA, mfJ, mfB, mfR, c_foundE, m_meetsE, fX11_isSheet, fX11_in, fX10_sheetAt, fX10_sheetAt_b22, fX10_textAt, fX10_textAt_b22, fX11_isText, fX2_has, fX11_isFeature, nar_byte, byte_i, lg_gt, lg_eq, lg_lt, all_A, sF_F, sF_A, sF_J, sF_B, sF_R, sF_all, sA_F, sA_A, sA_J, sA_B, sA_R, sA_all, sJ_F, sJ_A, sJ_J, sJ_B, sJ_R, sJ_all, sB_F, sB_A, sB_J, sB_B, sB_R, sB_all, sR_F, sR_A, sR_J, sR_B, sR_R, sR_all, fX9_findNearestPair_l15]
      exact q
    · simp (disch := omega) only [li0, li1, li2, li3, li4, li5, li6, li12, li13, li14, li15, li16, li17, li32, li33, li39, li60, li65, li90, li91, li93, li97, li100, li122, li126, li200, li800, li1000, li1400, li2800, li3432, li9999, li10000000, ↓lm1, ↓lm2, ↓lm3, ↓lm4, ↓lm9, le_T, le_F, lt_T, lt_F, eq_F, eq_T, vp_T, mle_F, mle_T, mlt_F, mlt_T, meq_F, meq_F', mne, aR, mR, sR', nI_clamp, br_nT, br_nF, ex_s, true_implies, false_implies, not_true_eq_false, not_false_eq_true, true_and, and_true, forall_eq, implies_true, and_self, reduceIte, reduceCtorEq, Nat.reduceEqDiff, Nat.reduceAdd, Nat.reduceMul, Nat.reduceSub, ite_true, ite_false, if_true, if_false, eq_self, and_false, false_and, fa_s, fa_n, cfF, cfA, cfJ, cfB, cfR, mfF, mfA, mfJ, mfB, mfR, c_foundE, m_meetsE, fX11_isSheet, fX11_in, fX10_sheetAt, fX10_sheetAt_b22, fX10_textAt, fX10_textAt_b22, fX11_isText, fX2_has, fX11_isFeature, nar_byte, byte_i, lg_gt, lg_eq, lg_lt, all_A, sF_F, sF_A, sF_J, sF_B, sF_R, sF_all, sA_F, sA_A, sA_J, sA_B, sA_R, sA_all, sJ_F, sJ_A, sJ_J, sJ_B, sJ_R, sJ_all, sB_F, sB_A, sB_J, sB_B, sB_R, sB_all, sR_F, sR_A, sR_J, sR_B, sR_R, sR_all, fX9_findNearestPair_l15, e41]
      exact q
  · have gn : g < n := by
      by_cases c : g < n
      · exact c
      · exact absurd (hm0 g (by omega)) mg
    refine lpU (fun k i (y : St × Int32) => fX9_findNearestPair_l15 N Q K0 k y.1 y.2 (nI g) (nI i)) (fun i y => g < i ∧ FI j s (inS mm (fm σ n m srt) g x0 (min i n)) y.1 y.2) 14 N ?_ ?_ (g + 1) (s0, v0) (by omega) (by omega) ⟨by omega, by rw [show min (g + 1) n = g + 1 by omega, inS_a _ (Nat.le_refl _)]; exact fi⟩
    · rintro k ⟨s1, v1⟩ ⟨hgi, fi1⟩
      rw [show min 14 n = n by omega] at fi1
      have q := h s1 v1 fi1
      simp (disch := omega) only [li0, li1, li2, li3, li4, li5, li6, li12, li13, li14, li15, li16, li17, li32, li33, li39, li60, li65, li90, li91, li93, li97, li100, li122, li126, li200, li800, li1000, li1400, li2800, li3432, li9999, li10000000, ↓lm1, ↓lm2, ↓lm3, ↓lm4, ↓lm9, le_T, le_F, lt_T, lt_F, eq_F, eq_T, vp_T, mle_F, mle_T, mlt_F, mlt_T, meq_F, meq_F', mne, aR, mR, sR', nI_clamp, br_nT, br_nF, ex_s, true_implies, false_implies, not_true_eq_false, not_false_eq_true, true_and, and_true, forall_eq, implies_true, and_self, reduceIte, reduceCtorEq, Nat.reduceEqDiff, Nat.reduceAdd, Nat.reduceMul, Nat.reduceSub, ite_true, ite_false, if_true, if_false, eq_self, and_false, false_and, fa_s, fa_n, cfF, cfA, cfJ, cfB, cfR, mfF, mfA, mfJ, mfB, mfR, c_foundE, m_meetsE, fX11_isSheet, fX11_in, fX10_sheetAt, fX10_sheetAt_b22, fX10_textAt, fX10_textAt_b22, fX11_isText, fX2_has, fX11_isFeature, nar_byte, byte_i, lg_gt, lg_eq, lg_lt, all_A, sF_F, sF_A, sF_J, sF_B, sF_R, sF_all, sA_F, sA_A, sA_J, sA_B, sA_R, sA_all, sJ_F, sJ_A, sJ_J, sJ_B, sJ_R, sJ_all, sB_F, sB_A, sB_J, sB_B, sB_R, sB_all, sR_F, sR_A, sR_J, sR_B, sR_R, sR_all, fX9_findNearestPair_l15]
      exact q
    · rintro k i ⟨s1, v1⟩ hi ⟨hgi, fi1⟩ K
      have fi1 : FI j s (inS mm (fm σ n m srt) g x0 (min i n)) s1 v1 := fi1
      have e41g : sA s1 41 0 g = nI 1 := by
        rw [fi1.1.2.2 41 0 g (by omega), (gh g hg).1, if_neg mg]
      have e41i : sA s1 41 0 i = (if mm i = nI 0 then nI 0 else nI 1) := by
        rw [fi1.1.2.2 41 0 i (by omega), (gh i hi).1]
      by_cases mi : mm i = nI 0
      · rw [if_pos mi] at e41i
        have K := K (s1, v1) ⟨by omega, by
          by_cases c : i < n
          · rw [show min (i + 1) n = i + 1 by omega, inS_s, if_neg (fun z => z.2.2.1 mi)]
            rw [show min i n = i by omega] at fi1; exact fi1
          · rw [show min (i + 1) n = n by omega]
            rw [show min i n = n by omega] at fi1; exact fi1⟩
        simp (disch := omega) only [li0, li1, li2, li3, li4, li5, li6, li12, li13, li14, li15, li16, li17, li32, li33, li39, li60, li65, li90, li91, li93, li97, li100, li122, li126, li200, li800, li1000, li1400, li2800, li3432, li9999, li10000000, ↓lm1, ↓lm2, ↓lm3, ↓lm4, ↓lm9, le_T, le_F, lt_T, lt_F, eq_F, eq_T, vp_T, mle_F, mle_T, mlt_F, mlt_T, meq_F, meq_F', mne, aR, mR, sR', nI_clamp, br_nT, br_nF, ex_s, true_implies, false_implies, not_true_eq_false, not_false_eq_true, true_and, and_true, forall_eq, implies_true, and_self, reduceIte, reduceCtorEq, Nat.reduceEqDiff, Nat.reduceAdd, Nat.reduceMul, Nat.reduceSub, ite_true, ite_false, if_true, if_false, eq_self, and_false, false_and, fa_s, fa_n, cfF, cfA, cfJ, cfB, cfR, mfF, mfA, mfJ, mfB, mfR, c_foundE, m_meetsE, fX11_isSheet, fX11_in, fX10_sheetAt, fX10_sheetAt_b22, fX10_textAt, fX10_textAt_b22, fX11_isText, fX2_has, fX11_isFeature, nar_byte, byte_i, lg_gt, lg_eq, lg_lt, all_A, sF_F, sF_A, sF_J, sF_B, sF_R, sF_all, sA_F, sA_A, sA_J, sA_B, sA_R, sA_all, sJ_F, sJ_A, sJ_J, sJ_B, sJ_R, sJ_all, sB_F, sB_A, sB_J, sB_B, sB_R, sB_all, sR_F, sR_A, sR_J, sR_B, sR_R, sR_all, fX9_findNearestPair_l15, fX9_findNearestPair_b119_15, e41g, e41i]
        exact K
      · rw [if_neg mi] at e41i
        have iN : i < n := by
          by_cases c : i < n
          · exact c
          · exact absurd (hm0 i (by omega)) mi
        rw [show min i n = i by omega] at fi1
        have K := fun y (q : FI j s (if g < i ∧ mm g ≠ nI 0 ∧ mm i ≠ nI 0 ∧ ((inS mm (fm σ n m srt) g x0 i).1 = mI 9 ∨ fm σ n m srt (mm g) (mm i) < (inS mm (fm σ n m srt) g x0 i).2.2) then (nI g, nI i, fm σ n m srt (mm g) (mm i)) else inS mm (fm σ n m srt) g x0 i) y.1 y.2) => K y ⟨by omega, by rw [show min (i + 1) n = i + 1 by omega, inS_s]; exact q⟩
        have tr1 : TR σ s1 := tr.trans fi1.1.1
        have cs := CT_t ct' tr1
        have r40g := cs.2.2.1.2.2.2.2.2.2.2.2.2.1 g
        have r40i := cs.2.2.1.2.2.2.2.2.2.2.2.2.1 i
        rw [if_pos hg] at r40g
        rw [if_pos hi] at r40i
        have e3 : sF s1 2 0 3 = nI srt := by rw [tr1.1 2 0 3 rfl (by decide)]; exact sr.2.1
        have hj1 : sF s1 9 0 6 = nI j := by rw [fi1.1.2.1]; exact hj
        simp (disch := omega) only [li0, li1, li2, li3, li4, li5, li6, li12, li13, li14, li15, li16, li17, li32, li33, li39, li60, li65, li90, li91, li93, li97, li100, li122, li126, li200, li800, li1000, li1400, li2800, li3432, li9999, li10000000, ↓lm1, ↓lm2, ↓lm3, ↓lm4, ↓lm9, le_T, le_F, lt_T, lt_F, eq_F, eq_T, vp_T, mle_F, mle_T, mlt_F, mlt_T, meq_F, meq_F', mne, aR, mR, sR', nI_clamp, br_nT, br_nF, ex_s, true_implies, false_implies, not_true_eq_false, not_false_eq_true, true_and, and_true, forall_eq, implies_true, and_self, reduceIte, reduceCtorEq, Nat.reduceEqDiff, Nat.reduceAdd, Nat.reduceMul, Nat.reduceSub, ite_true, ite_false, if_true, if_false, eq_self, and_false, false_and, fa_s, fa_n, cfF, cfA, cfJ, cfB, cfR, mfF, mfA, mfJ, mfB, mfR, c_foundE, m_meetsE, fX11_isSheet, fX11_in, fX10_sheetAt, fX10_sheetAt_b22, fX10_textAt, fX10_textAt_b22, fX11_isText, fX2_has, fX11_isFeature, nar_byte, byte_i, lg_gt, lg_eq, lg_lt, all_A, sF_F, sF_A, sF_J, sF_B, sF_R, sF_all, sA_F, sA_A, sA_J, sA_B, sA_R, sA_all, sJ_F, sJ_A, sJ_J, sJ_B, sJ_R, sJ_all, sB_F, sB_A, sB_J, sB_B, sB_R, sB_all, sR_F, sR_A, sR_J, sR_B, sR_R, sR_all, fX9_findNearestPair_l15, fX9_findNearestPair_b119_15, fX9_findNearestPair_b85_15, e41g, e41i, r40g, r40i]
        refine farness_sp hN hm cs.2.2.1.2.2.1 e3 sr.1 (r1 := rtM σ n (mm g)) (r2 := rtM σ n (mm i)) (fun f hf => ⟨?_, by have := rtM_le (f := f) (x := mm g) ct'.rt; omega⟩) (fun f hf => ⟨?_, by have := rtM_le (f := f) (x := mm i) ct'.rt; omega⟩) ?_
        · rw [fi1.1.2.2 23 (9 + g) f (by omega)]; exact ((gh g hg).2 mg).2 f hf
        · rw [fi1.1.2.2 23 (9 + i) f (by omega)]; exact ((gh i hi).2 mi).2 f hf
        · have ef : nI (sb (bt (mI 1)) (fun f => dN srt (rtM σ n (mm g) f) (rtM σ n (mm i) f)) m) = fm σ n m srt (mm g) (mm i) := rfl
          rw [ef]
          have fi2 := fi1.2
          rcases fi2 with ⟨x9, ev⟩ | ⟨x9, ev, y1, y2, y3⟩
          · have ev : v1 = nI 0 := ev
            have K := K (setA (setA (setA s1 42 0 j (nI g)) 43 0 j (nI i)) 44 0 j (fm σ n m srt (mm g) (mm i)), nI 1) (by rw [if_pos ⟨hgi, mg, mi, Or.inl x9⟩]; exact FI_w hg fi1)
            subst ev
            simp (disch := omega) only [li0, li1, li2, li3, li4, li5, li6, li12, li13, li14, li15, li16, li17, li32, li33, li39, li60, li65, li90, li91, li93, li97, li100, li122, li126, li200, li800, li1000, li1400, li2800, li3432, li9999, li10000000, ↓lm1, ↓lm2, ↓lm3, ↓lm4, ↓lm9, le_T, le_F, lt_T, lt_F, eq_F, eq_T, vp_T, mle_F, mle_T, mlt_F, mlt_T, meq_F, meq_F', mne, aR, mR, sR', nI_clamp, br_nT, br_nF, ex_s, true_implies, false_implies, not_true_eq_false, not_false_eq_true, true_and, and_true, forall_eq, implies_true, and_self, reduceIte, reduceCtorEq, Nat.reduceEqDiff, Nat.reduceAdd, Nat.reduceMul, Nat.reduceSub, ite_true, ite_false, if_true, if_false, eq_self, and_false, false_and, fa_s, fa_n, cfF, cfA, cfJ, cfB, cfR, mfF, mfA, mfJ, mfB, mfR, c_foundE, m_meetsE, fX11_isSheet, fX11_in, fX10_sheetAt, fX10_sheetAt_b22, fX10_textAt, fX10_textAt_b22, fX11_isText, fX2_has, fX11_isFeature, nar_byte, byte_i, lg_gt, lg_eq, lg_lt, all_A, sF_F, sF_A, sF_J, sF_B, sF_R, sF_all, sA_F, sA_A, sA_J, sA_B, sA_R, sA_all, sJ_F, sJ_A, sJ_J, sJ_B, sJ_R, sJ_all, sB_F, sB_A, sB_J, sB_B, sB_R, sB_all, sR_F, sR_A, sR_J, sR_B, sR_R, sR_all, hj1]
            exact K
          · have ev : v1 = nI 1 := ev
            have y3 : sA s1 44 0 j = _ := y3
            by_cases c : fm σ n m srt (mm g) (mm i) < (inS mm (fm σ n m srt) g x0 i).2.2
            · have K := K (setA (setA (setA s1 42 0 j (nI g)) 43 0 j (nI i)) 44 0 j (fm σ n m srt (mm g) (mm i)), nI 1) (by rw [if_pos ⟨hgi, mg, mi, Or.inr c⟩]; exact FI_w hg fi1)
              subst ev
              simp (disch := omega) only [li0, li1, li2, li3, li4, li5, li6, li12, li13, li14, li15, li16, li17, li32, li33, li39, li60, li65, li90, li91, li93, li97, li100, li122, li126, li200, li800, li1000, li1400, li2800, li3432, li9999, li10000000, ↓lm1, ↓lm2, ↓lm3, ↓lm4, ↓lm9, le_T, le_F, lt_T, lt_F, eq_F, eq_T, vp_T, mle_F, mle_T, mlt_F, mlt_T, meq_F, meq_F', mne, aR, mR, sR', nI_clamp, br_nT, br_nF, ex_s, true_implies, false_implies, not_true_eq_false, not_false_eq_true, true_and, and_true, forall_eq, implies_true, and_self, reduceIte, reduceCtorEq, Nat.reduceEqDiff, Nat.reduceAdd, Nat.reduceMul, Nat.reduceSub, ite_true, ite_false, if_true, if_false, eq_self, and_false, false_and, fa_s, fa_n, cfF, cfA, cfJ, cfB, cfR, mfF, mfA, mfJ, mfB, mfR, c_foundE, m_meetsE, fX11_isSheet, fX11_in, fX10_sheetAt, fX10_sheetAt_b22, fX10_textAt, fX10_textAt_b22, fX11_isText, fX2_has, fX11_isFeature, nar_byte, byte_i, lg_gt, lg_eq, lg_lt, all_A, sF_F, sF_A, sF_J, sF_B, sF_R, sF_all, sA_F, sA_A, sA_J, sA_B, sA_R, sA_all, sJ_F, sJ_A, sJ_J, sJ_B, sJ_R, sJ_all, sB_F, sB_A, sB_J, sB_B, sB_R, sB_all, sR_F, sR_A, sR_J, sR_B, sR_R, sR_all, hj1, y3, c]
              exact K
            · have K := K (s1, v1) (by rw [if_neg (fun z => z.2.2.2.elim x9 c)]; exact fi1)
              subst ev
              simp (disch := omega) only [li0, li1, li2, li3, li4, li5, li6, li12, li13, li14, li15, li16, li17, li32, li33, li39, li60, li65, li90, li91, li93, li97, li100, li122, li126, li200, li800, li1000, li1400, li2800, li3432, li9999, li10000000, ↓lm1, ↓lm2, ↓lm3, ↓lm4, ↓lm9, le_T, le_F, lt_T, lt_F, eq_F, eq_T, vp_T, mle_F, mle_T, mlt_F, mlt_T, meq_F, meq_F', mne, aR, mR, sR', nI_clamp, br_nT, br_nF, ex_s, true_implies, false_implies, not_true_eq_false, not_false_eq_true, true_and, and_true, forall_eq, implies_true, and_self, reduceIte, reduceCtorEq, Nat.reduceEqDiff, Nat.reduceAdd, Nat.reduceMul, Nat.reduceSub, ite_true, ite_false, if_true, if_false, eq_self, and_false, false_and, fa_s, fa_n, cfF, cfA, cfJ, cfB, cfR, mfF, mfA, mfJ, mfB, mfR, c_foundE, m_meetsE, fX11_isSheet, fX11_in, fX10_sheetAt, fX10_sheetAt_b22, fX10_textAt, fX10_textAt_b22, fX11_isText, fX2_has, fX11_isFeature, nar_byte, byte_i, lg_gt, lg_eq, lg_lt, all_A, sF_F, sF_A, sF_J, sF_B, sF_R, sF_all, sA_F, sA_A, sA_J, sA_B, sA_R, sA_all, sJ_F, sJ_A, sJ_J, sJ_B, sJ_R, sJ_all, sB_F, sB_A, sB_J, sB_B, sB_R, sB_all, sR_F, sR_A, sR_J, sR_B, sR_R, sR_all, hj1, y3, c]
              exact K
theorem cfind_sp {N n m srt j : Nat} {σ s : St} {mm : Nat → Int32} {Q : Int32 → St → Prop} (hN : 1000 ≤ N) (ct' : CT σ n m) (tr : TR σ s) (sr : SR σ srt) (gh : ∀ i, i < 14 → GH σ s n m i (mm i)) (hj : sF s 9 0 6 = nI j) (hjl : j < 14) (hm0 : ∀ i, n ≤ i → mm i = nI 0) (h : ∀ s1 v1, FI j s (ouS mm (fm σ n m srt) n n) s1 v1 → Q v1 s1) : fX9_findNearestPair N s Q := by
  have hn := ct'.1
  unfold fX9_findNearestPair
  refine lpU (fun k i (y : St × Int32) => fX9_findNearestPair_l4 N Q _ k y.1 y.2 (nI i)) (fun i y => FI j s (ouS mm (fm σ n m srt) n (min i n)) y.1 y.2) 14 N ?_ ?_ 0 (s, nI 0) (by omega) (by omega) (by rw [show min 0 n = 0 by omega]; exact ⟨FS.rfl', Or.inl ⟨rfl, rfl⟩⟩)
  · rintro k ⟨s1, v1⟩ fi1
    rw [show min 14 n = n by omega] at fi1
    have q := h s1 v1 fi1
    have fi1 := fi1.2
    simp only [fX9_findNearestPair_l4]
    refine ⟨fun _ => ⟨?_, q⟩, fun c => absurd (show (14 : Int32) ≤ nI 14 by decide) c⟩
    rcases fi1 with ⟨-, e⟩ | ⟨-, e, -⟩
    · have e : v1 = nI 0 := e
      rw [e]; decide
    · have e : v1 = nI 1 := e
      rw [e]; decide
  · rintro k i ⟨s1, v1⟩ hi fi1 K
    have fi1 : FI j s (ouS mm (fm σ n m srt) n (min i n)) s1 v1 := fi1
    simp only [fX9_findNearestPair_l4, fX9_findNearestPair_b125_4]
    refine ⟨fun c => absurd c (nI_ge hi (by decide)), fun _ => ?_⟩
    rw [show nI i + 1 = nI (i + 1) from nI_add i 1]
    refine cfind_in hN ct' tr sr gh hj hjl hm0 hi fi1 (fun s2 v2 fi2 => ?_)
    rw [show nI i + 1 = nI (i + 1) from nI_add i 1]
    refine K (s2, v2) ?_
    show FI j s (ouS mm (fm σ n m srt) n (min (i + 1) n)) s2 v2
    by_cases c : i < n
    · rw [show min (i + 1) n = i + 1 by omega]; rw [show min i n = i by omega] at fi2; exact fi2
    · rw [show min (i + 1) n = n by omega]
      rw [show min i n = n by omega, inS_0 (hm0 i (by omega))] at fi2; exact fi2
/-- the class's tree behind k joins -/
def CK (σ s : St) (n m srt k : Nat) : Prop := TR σ s ∧ sF s 9 0 6 = nI k ∧ (∀ i, i < 14 → GH σ s n m i (ms (fm σ n m srt) n (ms0 σ n) k i)) ∧ ∀ q, q < k → sA s 42 0 q = (ouS (ms (fm σ n m srt) n (ms0 σ n) q) (fm σ n m srt) n n).1 ∧ sA s 43 0 q = (ouS (ms (fm σ n m srt) n (ms0 σ n) q) (fm σ n m srt) n n).2.1 ∧ sA s 44 0 q = (ouS (ms (fm σ n m srt) n (ms0 σ n) q) (fm σ n m srt) n n).2.2
theorem cjoin_sp {N n m srt k a b : Nat} {σ s s1 : St} {v : Int32} {Q : St → Prop} (hN : 1000 ≤ N) (ct' : CT σ n m) (hk : k < 13) (ck : CK σ s n m srt k) (fs : FS k s s1) (hab : a < b) (hb : b < n) (wm : WM (ms (fm σ n m srt) n (ms0 σ n) k) n) (ma : ms (fm σ n m srt) n (ms0 σ n) k a ≠ nI 0) (mb : ms (fm σ n m srt) n (ms0 σ n) k b ≠ nI 0) (eo : ouS (ms (fm σ n m srt) n (ms0 σ n) k) (fm σ n m srt) n n = (nI a, nI b, v)) (e42 : sA s1 42 0 k = nI a) (e43 : sA s1 43 0 k = nI b) (e44 : sA s1 44 0 k = v) (h : ∀ s2, CK σ s2 n m srt (k + 1) → Q s2) : fX9_joinPair N s1 Q := by
  have hn := ct'.1
  have hm := ct'.2.1
  obtain ⟨tr, hj, gh, en⟩ := ck
  have tr1 : TR σ s1 := tr.trans fs.1
  have cs := CT_t ct' tr1
  have r39a := cs.2.2.1.2.2.2.2.2.2.2.2.1 a
  have r39b := cs.2.2.1.2.2.2.2.2.2.2.2.1 b
  have r40a := cs.2.2.1.2.2.2.2.2.2.2.2.2.1 a
  rw [if_pos (by omega)] at r39a r39b r40a
  have hj1 : sF s1 9 0 6 = nI k := by rw [fs.2.1]; exact hj
  have gh1 : ∀ i, i < 14 → GH σ s1 n m i (ms (fm σ n m srt) n (ms0 σ n) k i) := by
    intro i hi
    have q := gh i hi
    unfold GH GS GR at q ⊢
    rw [fs.2.1, fs.2.2 41 0 i (by omega)]
    refine ⟨q.1, fun z => ?_⟩
    obtain ⟨⟨q1, q2, q3⟩, q4⟩ := q.2 z
    exact ⟨⟨fun f hf => by rw [fs.2.2 29 _ f (by omega)]; exact q1 f hf, q2, q3⟩, fun f hf => by rw [fs.2.2 23 _ f (by omega)]; exact q4 f hf⟩
  have ga := ((gh1 a (by omega)).2 ma).1
  have gb := ((gh1 b (by omega)).2 mb).1
  have dj := wm.2 a b (by omega)
  simp (disch := omega) only [li0, li1, li2, li3, li4, li5, li6, li12, li13, li14, li15, li16, li17, li32, li33, li39, li60, li65, li90, li91, li93, li97, li100, li122, li126, li200, li800, li1000, li1400, li2800, li3432, li9999, li10000000, ↓lm1, ↓lm2, ↓lm3, ↓lm4, ↓lm9, le_T, le_F, lt_T, lt_F, eq_F, eq_T, vp_T, mle_F, mle_T, mlt_F, mlt_T, meq_F, meq_F', mne, aR, mR, sR', nI_clamp, br_nT, br_nF, ex_s, true_implies, false_implies, not_true_eq_false, not_false_eq_true, true_and, and_true, forall_eq, implies_true, and_self, reduceIte, reduceCtorEq, Nat.reduceEqDiff, Nat.reduceAdd, Nat.reduceMul, Nat.reduceSub, ite_true, ite_false, if_true, if_false, eq_self, and_false, false_and, fa_s, fa_n, cfF, cfA, cfJ, cfB, cfR, mfF, mfA, mfJ, mfB, mfR, c_foundE, m_meetsE, fX11_isSheet, fX11_in, fX10_sheetAt, fX10_sheetAt_b22, fX10_textAt, fX10_textAt_b22, fX11_isText, fX2_has, fX11_isFeature, nar_byte, byte_i, lg_gt, lg_eq, lg_lt, all_A, sF_F, sF_A, sF_J, sF_B, sF_R, sF_all, sA_F, sA_A, sA_J, sA_B, sA_R, sA_all, sJ_F, sJ_A, sJ_J, sJ_B, sJ_R, sJ_all, sB_F, sB_A, sB_J, sB_B, sB_R, sB_all, sR_F, sR_A, sR_J, sR_B, sR_R, sR_all, fX9_joinPair, hj1, e42, e43, r39a, r39b]
  refine add2_sp hN (by omega) (fun F hF => ?_)
  simp (disch := omega) only [li0, li1, li2, li3, li4, li5, li6, li12, li13, li14, li15, li16, li17, li32, li33, li39, li60, li65, li90, li91, li93, li97, li100, li122, li126, li200, li800, li1000, li1400, li2800, li3432, li9999, li10000000, ↓lm1, ↓lm2, ↓lm3, ↓lm4, ↓lm9, le_T, le_F, lt_T, lt_F, eq_F, eq_T, vp_T, mle_F, mle_T, mlt_F, mlt_T, meq_F, meq_F', mne, aR, mR, sR', nI_clamp, br_nT, br_nF, ex_s, true_implies, false_implies, not_true_eq_false, not_false_eq_true, true_and, and_true, forall_eq, implies_true, and_self, reduceIte, reduceCtorEq, Nat.reduceEqDiff, Nat.reduceAdd, Nat.reduceMul, Nat.reduceSub, ite_true, ite_false, if_true, if_false, eq_self, and_false, false_and, fa_s, fa_n, cfF, cfA, cfJ, cfB, cfR, mfF, mfA, mfJ, mfB, mfR, c_foundE, m_meetsE, fX11_isSheet, fX11_in, fX10_sheetAt, fX10_sheetAt_b22, fX10_textAt, fX10_textAt_b22, fX11_isText, fX2_has, fX11_isFeature, nar_byte, byte_i, lg_gt, lg_eq, lg_lt, all_A, sF_F, sF_A, sF_J, sF_B, sF_R, sF_all, sA_F, sA_A, sA_J, sA_B, sA_R, sA_all, sJ_F, sJ_A, sJ_J, sJ_B, sJ_R, sJ_all, sB_F, sB_A, sB_J, sB_B, sB_R, sB_all, sR_F, sR_A, sR_J, sR_B, sR_R, sR_all, r39a, r40a]
  have b1 : BG a s1 (setF (setF (setAll s1 29 (16 + a) F) 7 (16 + a) 1 (sF s1 7 (16 + a) 1 + sF s1 7 (16 + b) 1)) 7 (16 + a) 2 (sF s1 7 (16 + a) 2 + sF s1 7 (16 + b) 2)) := (bg_29.trans bg_7).trans bg_7
  have gs : ∀ G : Nat → Int32, GS σ (setAll (setF (setF (setAll s1 29 (16 + a) F) 7 (16 + a) 1 (sF s1 7 (16 + a) 1 + sF s1 7 (16 + b) 1)) 7 (16 + a) 2 (sF s1 7 (16 + a) 2 + sF s1 7 (16 + b) 2)) 23 (9 + a) G) n m (16 + a) (ms (fm σ n m srt) n (ms0 σ n) k a ||| ms (fm σ n m srt) n (ms0 σ n) k b) := by
    intro G
    refine ⟨fun f hf => ?_, ?_, ?_⟩
    · rw [sb_or (by omega) dj]
      simp only [sF_F, sF_A, sF_J, sF_B, sF_R, sF_all, sA_F, sA_A, sA_J, sA_B, sA_R, sA_all, sJ_F, sJ_A, sJ_J, sJ_B, sJ_R, sJ_all, sB_F, sB_A, sB_J, sB_B, sB_R, sB_all, sR_F, sR_A, sR_J, sR_B, sR_R, sR_all]
      rw [if_neg (by simp), if_pos (by simp), hF f (by omega), ga.1 f hf, gb.1 f hf, nI_add]
    · rw [sb_or (by omega) dj]
      simp only [sF_F, sF_A, sF_J, sF_B, sF_R, sF_all, sA_F, sA_A, sA_J, sA_B, sA_R, sA_all, sJ_F, sJ_A, sJ_J, sJ_B, sJ_R, sJ_all, sB_F, sB_A, sB_J, sB_B, sB_R, sB_all, sR_F, sR_A, sR_J, sR_B, sR_R, sR_all]
      rw [if_neg (by simp), if_pos (by simp), ga.2.1, gb.2.1, nI_add]
    · rw [sb_or (by omega) dj]
      simp only [sF_F, sF_A, sF_J, sF_B, sF_R, sF_all, sA_F, sA_A, sA_J, sA_B, sA_R, sA_all, sJ_F, sJ_A, sJ_J, sJ_B, sJ_R, sJ_all, sB_F, sB_A, sB_J, sB_B, sB_R, sB_all, sR_F, sR_A, sR_J, sR_B, sR_R, sR_all]
      rw [if_pos (by simp), ga.2.2, gb.2.2, nI_add]
  refine grp_rates (M := ms (fm σ n m srt) n (ms0 σ n) k a ||| ms (fm σ n m srt) n (ms0 σ n) k b) hN ct' (tr1.trans b1.1) ⟨fun f hf => ?_, ?_, ?_⟩ (fun G hG => ?_)
  · have q := (gs (fun _ => 0)).1 f hf
    rw [sLx (by decide)] at q; exact q
  · exact (gs (fun _ => 0)).2.1
  · exact (gs (fun _ => 0)).2.2
  · have b2 := b1.trans (bg_23 (F := G))
    have e9 : sF (setAll (setF (setF (setAll s1 29 (16 + a) F) 7 (16 + a) 1 (sF s1 7 (16 + a) 1 + sF s1 7 (16 + b) 1)) 7 (16 + a) 2 (sF s1 7 (16 + a) 2 + sF s1 7 (16 + b) 2)) 23 (9 + a) G) 9 0 6 = nI k := by
      rw [b2.2.1]; exact hj1
    have gs := gs G
    have hG' : GR σ (setAll (setF (setF (setAll s1 29 (16 + a) F) 7 (16 + a) 1 (sF s1 7 (16 + a) 1 + sF s1 7 (16 + b) 1)) 7 (16 + a) 2 (sF s1 7 (16 + a) 2 + sF s1 7 (16 + b) 2)) 23 (9 + a) G) n m (9 + a) (ms (fm σ n m srt) n (ms0 σ n) k a ||| ms (fm σ n m srt) n (ms0 σ n) k b) := by
      intro f hf
      rw [sA_all, if_pos (by simp)]; exact hG f hf
    have e41 : sA (setAll (setF (setF (setAll s1 29 (16 + a) F) 7 (16 + a) 1 (sF s1 7 (16 + a) 1 + sF s1 7 (16 + b) 1)) 7 (16 + a) 2 (sF s1 7 (16 + a) 2 + sF s1 7 (16 + b) 2)) 23 (9 + a) G) 41 0 a = nI 1 := by
      have q := (gh1 a (by omega)).1
      rw [if_neg ma] at q
      simp only [sF_F, sF_A, sF_J, sF_B, sF_R, sF_all, sA_F, sA_A, sA_J, sA_B, sA_R, sA_all, sJ_F, sJ_A, sJ_J, sJ_B, sJ_R, sJ_all, sB_F, sB_A, sB_J, sB_B, sB_R, sB_all, sR_F, sR_A, sR_J, sR_B, sR_R, sR_all]
      rw [if_neg (by simp), if_neg (by simp)]; exact q
    generalize (setAll (setF (setF (setAll s1 29 (16 + a) F) 7 (16 + a) 1 (sF s1 7 (16 + a) 1 + sF s1 7 (16 + b) 1)) 7 (16 + a) 2 (sF s1 7 (16 + a) 2 + sF s1 7 (16 + b) 2)) 23 (9 + a) G) = s3 at *
    simp (disch := omega) only [li0, li1, li2, li3, li4, li5, li6, li12, li13, li14, li15, li16, li17, li32, li33, li39, li60, li65, li90, li91, li93, li97, li100, li122, li126, li200, li800, li1000, li1400, li2800, li3432, li9999, li10000000, ↓lm1, ↓lm2, ↓lm3, ↓lm4, ↓lm9, le_T, le_F, lt_T, lt_F, eq_F, eq_T, vp_T, mle_F, mle_T, mlt_F, mlt_T, meq_F, meq_F', mne, aR, mR, sR', nI_clamp, br_nT, br_nF, ex_s, true_implies, false_implies, not_true_eq_false, not_false_eq_true, true_and, and_true, forall_eq, implies_true, and_self, reduceIte, reduceCtorEq, Nat.reduceEqDiff, Nat.reduceAdd, Nat.reduceMul, Nat.reduceSub, ite_true, ite_false, if_true, if_false, eq_self, and_false, false_and, fa_s, fa_n, cfF, cfA, cfJ, cfB, cfR, mfF, mfA, mfJ, mfB, mfR, c_foundE, m_meetsE, fX11_isSheet, fX11_in, fX10_sheetAt, fX10_sheetAt_b22, fX10_textAt, fX10_textAt_b22, fX11_isText, fX2_has, fX11_isFeature, nar_byte, byte_i, lg_gt, lg_eq, lg_lt, all_A, sF_F, sF_A, sF_J, sF_B, sF_R, sF_all, sA_F, sA_A, sA_J, sA_B, sA_R, sA_all, sJ_F, sJ_A, sJ_J, sJ_B, sJ_R, sJ_all, sB_F, sB_A, sB_J, sB_B, sB_R, sB_all, sR_F, sR_A, sR_J, sR_B, sR_R, sR_all, nar_b0, e9]
    refine h _ ?_
    have b3 : BG b s3 (setA s3 41 0 b (nI 0)) := bg_41
    refine ⟨(tr1.trans b2.1).trans (b3.1.trans tr_F9), by simp [sF_F, sF_A, sF_J, sF_B, sF_R, sF_all, sA_F, sA_A, sA_J, sA_B, sA_R, sA_all, sJ_F, sJ_A, sJ_J, sJ_B, sJ_R, sJ_all, sB_F, sB_A, sB_J, sB_B, sB_R, sB_all, sR_F, sR_A, sR_J, sR_B, sR_R, sR_all], fun i hi => ?_, fun q hq => ?_⟩
    · rw [ms_s (by omega) (by omega) eo]
      have keep : ∀ M, GH σ (setA s3 41 0 b (nI 0)) n m i M → GH σ (setF (setA s3 41 0 b (nI 0)) 9 0 6 (nI (k + 1))) n m i M := by
        intro M q
        unfold GH GS GR at q ⊢
        rw [sA_F, sFx (by decide)]; exact q
      refine keep _ ?_
      by_cases i1 : i = b
      · subst i1
        unfold jn
        rw [if_pos rfl]
        exact ⟨by simp [sF_F, sF_A, sF_J, sF_B, sF_R, sF_all, sA_F, sA_A, sA_J, sA_B, sA_R, sA_all, sJ_F, sJ_A, sJ_J, sJ_B, sJ_R, sJ_all, sB_F, sB_A, sB_J, sB_B, sB_R, sB_all, sR_F, sR_A, sR_J, sR_B, sR_R, sR_all], fun z => absurd rfl z⟩
      · refine gh_keep b3 i1 ?_
        unfold jn
        rw [if_neg i1]
        by_cases i2 : i = a
        · subst i2
          rw [if_pos rfl]
          exact ⟨by rw [if_neg (or_0 ma)]; exact e41, fun _ => ⟨gs, hG'⟩⟩
        · rw [if_neg i2]
          exact gh_keep b2 i2 (gh1 i hi)
    · have n42 : ∀ q, sA (setF (setA s3 41 0 b (nI 0)) 9 0 6 (nI (k + 1))) 42 0 q = sA s1 42 0 q := fun q => by rw [sA_F, b3.2.2.1, b2.2.2.1]
      have n43 : ∀ q, sA (setF (setA s3 41 0 b (nI 0)) 9 0 6 (nI (k + 1))) 43 0 q = sA s1 43 0 q := fun q => by rw [sA_F, b3.2.2.2.1, b2.2.2.2.1]
      have n44 : ∀ q, sA (setF (setA s3 41 0 b (nI 0)) 9 0 6 (nI (k + 1))) 44 0 q = sA s1 44 0 q := fun q => by rw [sA_F, b3.2.2.2.2.1, b2.2.2.2.2.1]
      rw [n42, n43, n44]
      by_cases e : q = k
      · subst e
        rw [eo]; exact ⟨e42, e43, e44⟩
      · rw [fs.2.2 42 0 q (by omega), fs.2.2 43 0 q (by omega), fs.2.2 44 0 q (by omega)]
        exact en q (by omega)
