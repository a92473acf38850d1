theorem st21 {N : Nat} {σ : St} {L : List (Nat × Nat)} (hN : 1000 ≤ N) (h : Inv σ L) : S21 N Inv σ L := by
  intro a1 a2 a3 a4 a5
  obtain ⟨n, m, hn, hm, gl, g1, g2, g3, g4, g5, g6, g7, g8⟩ := id h
  have e6 := g1.2.1
  have e18 := g1.2.2.2.1
  obtain ⟨srt, sr⟩ := SR_of g3
  have ct' : CT σ n m := ⟨hn, hm, g1, g4, g5, g6⟩
  by_cases bad : PB n a1 a2 a3 a4 a5
  · rw [cpart_bad hn g1 bad, mpart_bad hn g1 bad]
    exact ⟨rfl, h⟩
  · have nb := fun z => bad z
    unfold PB at bad
    obtain ⟨t, ht, rfl⟩ := pkN (x := a1) (n := n) (by omega) (fun z => bad (Or.inl z))
    obtain ⟨a, ha, rfl⟩ := pkN (x := a3) (n := 6) (by decide) (fun z => bad (Or.inr (Or.inr (Or.inr (Or.inl z)))))
    obtain ⟨b, hb, rfl⟩ := pkN (x := a4) (n := 6) (by decide) (fun z => bad (Or.inr (Or.inr (Or.inr (Or.inr (Or.inl z))))))
    have hab : a ≠ b := fun z => bad (Or.inr (Or.inr (Or.inr (Or.inr (Or.inr (by rw [z]))))))
    obtain ⟨k, hk2, rfl⟩ := pkN (x := a2) (n := 61) (by decide) (fun z => bad (Or.inr (Or.inl (by
      have e0 : (0 : Int32).toInt = 0 := by decide
      have e1 : (nI 1).toInt = 1 := by decide
      have e2 : (nI 60).toInt = 60 := by decide
      have e3 : (nI 61).toInt = 61 := by decide
      rcases z with z | z
      · left; rw [iLt] at z ⊢; omega
      · right; rw [iLe] at z; rw [iLt]; omega))))
    obtain ⟨c, hc2, rfl⟩ := pkN (x := a5) (n := 10000001) (by decide) (fun z => bad (Or.inr (Or.inr (Or.inl (by
      have e0 : (0 : Int32).toInt = 0 := by decide
      have e1 : (nI 0).toInt = 0 := by decide
      have e2 : (nI 10000000).toInt = 10000000 := by decide
      have e3 : (nI 10000001).toInt = 10000001 := by decide
      rcases z with z | z
      · left; rw [iLt] at z ⊢; omega
      · right; rw [iLe] at z; rw [iLt]; omega)))))
    have hk1 : 1 ≤ k := by
      rcases Nat.eq_zero_or_pos k with z | z
      · exfalso; exact bad (Or.inr (Or.inl (Or.inl (by subst z; decide))))
      · exact z
    clear bad nb
    have mi1 : ∀ (s : St) (Q : Int32 → St → Prop), fX11_in N s (nI k) (nI 1) (nI 60) Q = Q (nI 1) s := fun s Q => propext (m_in_y (nI_nlt (by omega) (by omega)) (nI_nlt (by omega) (by omega)))
    have mi5 : ∀ (s : St) (Q : Int32 → St → Prop), fX11_in N s (nI c) (nI 0) (nI 10000000) Q = Q (nI 1) s := fun s Q => propext (m_in_y (nI_nlt (by omega) (by omega)) (nI_nlt (by omega) (by omega)))
    have x5 := (g4 t ht).2.2.2.2.1.2.2.2
    have bn := (g4 t ht).1.2.1
    have wle := wnd_le (nw := nwM σ t) hk1
    simp only [fX10_part, fX11_part, fX11_askedFor, fX10_part_b114, fX11_part_b86]
    simp only [tx_y hn g1 ht, w_y ha, w_y hb]
    simp (disch := omega) only [li0, li1, li2, li3, li4, li5, li6, li12, li13, li14, li15, li16, li17, li32, li33, li39, li60, li65, li90, li91, li93, li97, li100, li122, li126, li200, li800, li1000, li1400, li2800, li3432, li9999, li10000000, ↓lm1, ↓lm2, ↓lm3, ↓lm4, ↓lm9, le_T, le_F, lt_T, lt_F, eq_F, eq_T, vp_T, mle_F, mle_T, mlt_F, mlt_T, meq_F, meq_F', mne, aR, mR, sR', nI_clamp, br_nT, br_nF, ex_s, true_implies, false_implies, not_true_eq_false, not_false_eq_true, true_and, and_true, forall_eq, implies_true, and_self, reduceIte, reduceCtorEq, Nat.reduceEqDiff, Nat.reduceAdd, Nat.reduceMul, Nat.reduceSub, ite_true, ite_false, if_true, if_false, eq_self, and_false, false_and, fa_s, fa_n, cfF, cfA, cfJ, cfB, cfR, mfF, mfA, mfJ, mfB, mfR, c_foundE, m_meetsE, nar_byte, byte_i, lg_gt, lg_eq, lg_lt, all_A, sF_F, sF_A, sF_J, sF_B, sF_R, sF_all, sA_F, sA_A, sA_J, sA_B, sA_R, sA_all, sJ_F, sJ_A, sJ_J, sJ_B, sJ_R, sJ_all, sB_F, sB_A, sB_J, sB_B, sB_R, sB_all, sR_F, sR_A, sR_J, sR_B, sR_R, sR_all, hab]
    simp only [mi1, mi5, mw_y ha, mw_y hb]
    simp (disch := omega) only [li0, li1, li2, li3, li4, li5, li6, li12, li13, li14, li15, li16, li17, li32, li33, li39, li60, li65, li90, li91, li93, li97, li100, li122, li126, li200, li800, li1000, li1400, li2800, li3432, li9999, li10000000, ↓lm1, ↓lm2, ↓lm3, ↓lm4, ↓lm9, le_T, le_F, lt_T, lt_F, eq_F, eq_T, vp_T, mle_F, mle_T, mlt_F, mlt_T, meq_F, meq_F', mne, aR, mR, sR', nI_clamp, br_nT, br_nF, ex_s, true_implies, false_implies, not_true_eq_false, not_false_eq_true, true_and, and_true, forall_eq, implies_true, and_self, reduceIte, reduceCtorEq, Nat.reduceEqDiff, Nat.reduceAdd, Nat.reduceMul, Nat.reduceSub, ite_true, ite_false, if_true, if_false, eq_self, and_false, false_and, fa_s, fa_n, cfF, cfA, cfJ, cfB, cfR, mfF, mfA, mfJ, mfB, mfR, c_foundE, m_meetsE, nar_byte, byte_i, lg_gt, lg_eq, lg_lt, all_A, sF_F, sF_A, sF_J, sF_B, sF_R, sF_all, sA_F, sA_A, sA_J, sA_B, sA_R, sA_all, sJ_F, sJ_A, sJ_J, sJ_B, sJ_R, sJ_all, sB_F, sB_A, sB_J, sB_B, sB_R, sB_all, sR_F, sR_A, sR_J, sR_B, sR_R, sR_all, hab]
    fail "x"
