theorem RTz {σ s : St} {n m : Nat} (rt : RT σ n m) (hA : ∀ K, 67 ≤ K → K ≤ 82 → sA s K = sA σ K) (e6 : sF s 11 0 6 = sF σ 11 0 6) (e18 : sF s 11 0 18 = sF σ 11 0 18) : RT s n m ∧ cnt s = cnt σ := by
  have sm := SMz hA
  refine ⟨?_, show cnt (mk11 σ s) = cnt σ from sm.f.2.2.2.2.2⟩
  have q := RT_c rt sm
  unfold RT at q ⊢
  rw [e6, e18]
  exact q
theorem inv_part {σ s4 z : St} {L : List (Nat × Nat)} {W : Nat} (h : Inv σ L) (al : AL σ s4) (zF : ∀ K i j, ¬ (K = 11 ∧ j = 25) → sF z K i j = sF s4 K i j) (zA : ∀ K, K ≠ 83 → K ≠ 86 → sA z K = sA s4 K) (zR : sR z = sR s4) (zJ : sJ z 10 0 13 = sJ z 11 0 2) (hW : W ≤ 100) (e7 : sF s4 3 0 7 = nI W) (e25 : sF z 11 0 25 = nI W) (eo : ∀ i, i < W → sA z 38 0 i = sA z 86 0 i) : Inv z L := by
  obtain ⟨n, m, hn, hm, gl, g1, g2, g3, g4, g5, g6, g7, g8⟩ := h
  have kA : ∀ K, (∀ i, trA K i = true) → (decide (K = 38 ∨ K = 83 ∨ K = 86) = false) → sA z K = sA σ K := fun K t e => by
    have e := of_decide_eq_false e
    rw [zA K (by omega) (by omega)]
    exact funext fun i => funext fun j => al.2.1 K i j (t i) (by omega)
  have kAi : ∀ K i, trA K i = true → ¬ (K = 38 ∨ K = 83 ∨ K = 86) → sA z K i = sA σ K i := fun K i t e => by
    rw [zA K (by omega) (by omega)]
    exact funext fun j => al.2.1 K i j t (by omega)
  have kF : ∀ K i j, trF K i = true → K ≠ 3 → ¬ (K = 11 ∧ j = 25) → sF z K i j = sF σ K i j := fun K i j t e1 e2 => by
    rw [zF K i j e2]; exact al.1 K i j t e1
  have kK : ∀ K, (∀ i, trF K i = true) → K ≠ 3 → K ≠ 11 → sF z K = sF σ K := fun K t e1 e2 => funext fun i => funext fun j => kF K i j (t i) e1 (fun z => e2 z.1)
  have k11 : ∀ j, j ≠ 25 → sF z 11 0 j = sF σ 11 0 j := fun j hj => kF 11 0 j rfl (by decide) (fun z => hj z.2)
  have eR : sR z = sR σ := by rw [zR, al.2.2.2.1]
  refine ⟨n, m, hn, hm, gl, G1_c g1 (by rw [kK 10 (fun _ => rfl) (by decide) (by decide)]) (k11 6 (by decide)) (by rw [kK 2 (fun _ => rfl) (by decide) (by decide)]) (k11 18 (by decide)) eR (kA _ (fun _ => rfl) rfl), G2_c g2 (fun _ => by rw [kK 5 (fun _ => rfl) (by decide) (by decide)]) (kA _ (fun _ => rfl) rfl) (kA _ (fun _ => rfl) rfl) (kA _ (fun _ => rfl) rfl), ⟨by rw [kK 10 (fun _ => rfl) (by decide) (by decide), k11 0 (by decide)]; exact g3.1, fun f => by rw [kA 22 (fun _ => rfl) rfl, kA 61 (fun _ => rfl) rfl]; exact g3.2.1 f, by rw [kK 2 (fun _ => rfl) (by decide) (by decide), k11 24 (by decide)]; exact g3.2.2.1, by rw [k11 24 (by decide)]; exact g3.2.2.2.1, zJ⟩, fun t ht => ?_, G5_c g5 (kK 0 (fun _ => rfl) (by decide) (by decide)) (kA _ (fun _ => rfl) rfl) (kA _ (fun _ => rfl) rfl) (kA _ (fun _ => rfl) rfl) (kA _ (fun _ => rfl) rfl) (kA _ (fun _ => rfl) rfl) (kA _ (fun _ => rfl) rfl), ?_, ⟨W, hW, ?_, e25, eo⟩, G8_c g8 (by rw [kK 9 (fun _ => rfl) (by decide) (by decide)]) (k11 29 (by decide)) (kA _ (fun _ => rfl) rfl) (kA _ (fun _ => rfl) rfl) (kA _ (fun _ => rfl) rfl) (kA _ (fun _ => rfl) rfl) (by rw [kA 48 (fun _ => rfl) rfl]) (by rw [kA 49 (fun _ => rfl) rfl])⟩
  · have t4 : decide (t < 14) = true := decide_eq_true (by omega)
    refine Tx_c (g4 t ht) (funext fun j => kF 4 t j (by unfold trF; rw [t4]; rfl) (by decide) (by omega)) (funext fun j => kF 7 t j (by unfold trF; rw [t4]; rfl) (by decide) (by omega)) (by rw [kK 8 (fun _ => rfl) (by decide) (by decide)]) (kAi 25 t (by unfold trA; rw [t4]; rfl) (by decide)) (kAi 26 t (by unfold trA; rw [t4]; rfl) (by decide)) (kAi 27 t (by unfold trA; rw [t4]; rfl) (by decide)) (fun K h1 h2 => kAi K 0 ?_ (by omega))
    rcases (show K = 67 ∨ K = 68 ∨ K = 69 ∨ K = 70 ∨ K = 71 ∨ K = 72 ∨ K = 73 ∨ K = 74 ∨ K = 75 ∨ K = 76 ∨ K = 77 by omega) with rfl | rfl | rfl | rfl | rfl | rfl | rfl | rfl | rfl | rfl | rfl <;> rfl
  · exact G6_c g6 (fun t ht => kAi 29 t (by unfold trA; rw [decide_eq_true (show t < 14 by omega)]; rfl) (by decide)) (kA _ (fun _ => rfl) rfl) (kA _ (fun _ => rfl) rfl) (kA _ (fun _ => rfl) rfl) (kA _ (fun _ => rfl) rfl) (kA _ (fun _ => rfl) rfl) (kA _ (fun _ => rfl) rfl) (kA _ (fun _ => rfl) rfl) (kA _ (fun _ => rfl) rfl) (kA _ (fun _ => rfl) rfl)
  · rw [zF 3 0 7 (by decide)]; exact e7
theorem st21 {N : Nat} {σ : St} {L : List (Nat × Nat)} (hN : 1000 ≤ N) (h : Inv σ L) : S21 N Inv σ L := by
  intro a1 a2 a3 a4 a5
  obtain ⟨n, m, hn, hm, gl, g1, g2, g3, g4, g5, g6, g7, g8⟩ := id h
  have e6 := g1.2.1
  have e18 := g1.2.2.2.1
  obtain ⟨srt, sr⟩ := SR_of g3
  have ct' : CT σ n m := ⟨hn, hm, g1, g4, g5, g6⟩
  by_cases bad : PB n a1 a2 a3 a4 a5
  · rw [cpart_bad hn g1 bad, mpart_bad hn g1 bad]
    exact ⟨rfl, h⟩
  · have nb := fun z => bad z
    unfold PB at bad
    obtain ⟨t, ht, rfl⟩ := pkN (x := a1) (n := n) (by omega) (fun z => bad (Or.inl z))
    obtain ⟨a, ha, rfl⟩ := pkN (x := a3) (n := 6) (by decide) (fun z => bad (Or.inr (Or.inr (Or.inr (Or.inl z)))))
    obtain ⟨b, hb, rfl⟩ := pkN (x := a4) (n := 6) (by decide) (fun z => bad (Or.inr (Or.inr (Or.inr (Or.inr (Or.inl z))))))
    have hab : a ≠ b := fun z => bad (Or.inr (Or.inr (Or.inr (Or.inr (Or.inr (by rw [z]))))))
    obtain ⟨k, hk2, rfl⟩ := pkN (x := a2) (n := 61) (by decide) (fun z => bad (Or.inr (Or.inl (by
      have e0 : (0 : Int32).toInt = 0 := by decide
      have e1 : (nI 1).toInt = 1 := by decide
      have e2 : (nI 60).toInt = 60 := by decide
      have e3 : (nI 61).toInt = 61 := by decide
      rcases z with z | z
      · left; rw [iLt] at z ⊢; omega
      · right; rw [iLe] at z; rw [iLt]; omega))))
    obtain ⟨c, hc2, rfl⟩ := pkN (x := a5) (n := 10000001) (by decide) (fun z => bad (Or.inr (Or.inr (Or.inl (by
      have e0 : (0 : Int32).toInt = 0 := by decide
      have e1 : (nI 0).toInt = 0 := by decide
      have e2 : (nI 10000000).toInt = 10000000 := by decide
      have e3 : (nI 10000001).toInt = 10000001 := by decide
      rcases z with z | z
      · left; rw [iLt] at z ⊢; omega
      · right; rw [iLe] at z; rw [iLt]; omega)))))
    have hk1 : 1 ≤ k := by
      rcases Nat.eq_zero_or_pos k with z | z
      · exfalso; exact bad (Or.inr (Or.inl (Or.inl (by subst z; decide))))
      · exact z
    clear bad nb
    have mi1 : ∀ (s : St) (Q : Int32 → St → Prop), fX11_in N s (nI k) (nI 1) (nI 60) Q = Q (nI 1) s := fun s Q => propext (m_in_y (nI_nlt (by omega) (by omega)) (nI_nlt (by omega) (by omega)))
    have mi5 : ∀ (s : St) (Q : Int32 → St → Prop), fX11_in N s (nI c) (nI 0) (nI 10000000) Q = Q (nI 1) s := fun s Q => propext (m_in_y (nI_nlt (by omega) (by omega)) (nI_nlt (by omega) (by omega)))
    have x5 := (g4 t ht).2.2.2.2.1.2.2.2
    have bn := (g4 t ht).1.2.1
    have wle := wnd_le (nw := nwM σ t) hk1
    simp only [fX10_part, fX11_part, fX11_askedFor, fX10_part_b114, fX11_part_b86]
    simp only [tx_y hn g1 ht, w_y ha, w_y hb]
    simp (disch := omega) only [li0, li1, li2, li3, li4, li5, li6, li12, li13, li14, li15, li16, li17, li32, li33, li39, li60, li65, li90, li91, li93, li97, li100, li122, li126, li200, li800, li1000, li1400, li2800, li3432, li9999, li10000000, ↓lm1, ↓lm2, ↓lm3, ↓lm4, ↓lm9, le_T, le_F, lt_T, lt_F, eq_F, eq_T, vp_T, mle_F, mle_T, mlt_F, mlt_T, meq_F, meq_F', mne, aR, mR, sR', nI_clamp, br_nT, br_nF, ex_s, true_implies, false_implies, not_true_eq_false, not_false_eq_true, true_and, and_true, forall_eq, implies_true, and_self, reduceIte, reduceCtorEq, Nat.reduceEqDiff, Nat.reduceAdd, Nat.reduceMul, Nat.reduceSub, ite_true, ite_false, if_true, if_false, eq_self, and_false, false_and, fa_s, fa_n, cfF, cfA, cfJ, cfB, cfR, mfF, mfA, mfJ, mfB, mfR, c_foundE, m_meetsE, nar_byte, byte_i, lg_gt, lg_eq, lg_lt, all_A, sF_F, sF_A, sF_J, sF_B, sF_R, sF_all, sA_F, sA_A, sA_J, sA_B, sA_R, sA_all, sJ_F, sJ_A, sJ_J, sJ_B, sJ_R, sJ_all, sB_F, sB_A, sB_J, sB_B, sB_R, sB_all, sR_F, sR_A, sR_J, sR_B, sR_R, sR_all, hab]
    simp only [mi1, mi5, mw_y ha, mw_y hb]
    simp (disch := omega) only [li0, li1, li2, li3, li4, li5, li6, li12, li13, li14, li15, li16, li17, li32, li33, li39, li60, li65, li90, li91, li93, li97, li100, li122, li126, li200, li800, li1000, li1400, li2800, li3432, li9999, li10000000, ↓lm1, ↓lm2, ↓lm3, ↓lm4, ↓lm9, le_T, le_F, lt_T, lt_F, eq_F, eq_T, vp_T, mle_F, mle_T, mlt_F, mlt_T, meq_F, meq_F', mne, aR, mR, sR', nI_clamp, br_nT, br_nF, ex_s, true_implies, false_implies, not_true_eq_false, not_false_eq_true, true_and, and_true, forall_eq, implies_true, and_self, reduceIte, reduceCtorEq, Nat.reduceEqDiff, Nat.reduceAdd, Nat.reduceMul, Nat.reduceSub, ite_true, ite_false, if_true, if_false, eq_self, and_false, false_and, fa_s, fa_n, cfF, cfA, cfJ, cfB, cfR, mfF, mfA, mfJ, mfB, mfR, c_foundE, m_meetsE, nar_byte, byte_i, lg_gt, lg_eq, lg_lt, all_A, sF_F, sF_A, sF_J, sF_B, sF_R, sF_all, sA_F, sA_A, sA_J, sA_B, sA_R, sA_all, sJ_F, sJ_A, sJ_J, sJ_B, sJ_R, sJ_all, sB_F, sB_A, sB_J, sB_B, sB_R, sB_all, sR_F, sR_A, sR_J, sR_B, sR_R, sR_all, hab]
    rcases (g4 t ht).2.2.2.2.2.1.1 with v | v
    · have v : sA σ 70 0 t = nI 0 := v
      simp (disch := omega) only [li0, li1, li2, li3, li4, li5, li6, li12, li13, li14, li15, li16, li17, li32, li33, li39, li60, li65, li90, li91, li93, li97, li100, li122, li126, li200, li800, li1000, li1400, li2800, li3432, li9999, li10000000, ↓lm1, ↓lm2, ↓lm3, ↓lm4, ↓lm9, le_T, le_F, lt_T, lt_F, eq_F, eq_T, vp_T, mle_F, mle_T, mlt_F, mlt_T, meq_F, meq_F', mne, aR, mR, sR', nI_clamp, br_nT, br_nF, ex_s, true_implies, false_implies, not_true_eq_false, not_false_eq_true, true_and, and_true, forall_eq, implies_true, and_self, reduceIte, reduceCtorEq, Nat.reduceEqDiff, Nat.reduceAdd, Nat.reduceMul, Nat.reduceSub, ite_true, ite_false, if_true, if_false, eq_self, and_false, false_and, fa_s, fa_n, cfF, cfA, cfJ, cfB, cfR, mfF, mfA, mfJ, mfB, mfR, c_foundE, m_meetsE, nar_byte, byte_i, lg_gt, lg_eq, lg_lt, all_A, sF_F, sF_A, sF_J, sF_B, sF_R, sF_all, sA_F, sA_A, sA_J, sA_B, sA_R, sA_all, sJ_F, sJ_A, sJ_J, sJ_B, sJ_R, sJ_all, sB_F, sB_A, sB_J, sB_B, sB_R, sB_all, sR_F, sR_A, sR_J, sR_B, sR_R, sR_all, x5, v]
      refine readWithout_sp hN ct' (s0 := σ) ⟨Same.rfl', RS.rfl'⟩ (fun s kp hd => ?_)
      have rs := kp.2
      have f6 : sF (cf s 4) 11 0 6 = nI n := by rw [SM_cf.1, rs.1]; exact e6
      have f70 : sA (cf s 4) 70 0 t = nI 0 := by rw [SM_cf.2 70 (by decide) (by decide), rs.2.1 70 (by decide)]; exact v
      have f70' : sA s 70 0 t = nI 0 := by rw [rs.2.1 70 (by decide)]; exact v
      simp only [chas_sp ha (hd a ha)]
      by_cases va : hv σ n (nI t) a = true
      · rw [if_pos va]
        simp (disch := omega) only [li0, li1, li2, li3, li4, li5, li6, li12, li13, li14, li15, li16, li17, li32, li33, li39, li60, li65, li90, li91, li93, li97, li100, li122, li126, li200, li800, li1000, li1400, li2800, li3432, li9999, li10000000, ↓lm1, ↓lm2, ↓lm3, ↓lm4, ↓lm9, le_T, le_F, lt_T, lt_F, eq_F, eq_T, vp_T, mle_F, mle_T, mlt_F, mlt_T, meq_F, meq_F', mne, aR, mR, sR', nI_clamp, br_nT, br_nF, ex_s, true_implies, false_implies, not_true_eq_false, not_false_eq_true, true_and, and_true, forall_eq, implies_true, and_self, reduceIte, reduceCtorEq, Nat.reduceEqDiff, Nat.reduceAdd, Nat.reduceMul, Nat.reduceSub, ite_true, ite_false, if_true, if_false, eq_self, and_false, false_and, fa_s, fa_n, cfF, cfA, cfJ, cfB, cfR, mfF, mfA, mfJ, mfB, mfR, c_foundE, m_meetsE, nar_byte, byte_i, lg_gt, lg_eq, lg_lt, all_A, sF_F, sF_A, sF_J, sF_B, sF_R, sF_all, sA_F, sA_A, sA_J, sA_B, sA_R, sA_all, sJ_F, sJ_A, sJ_J, sJ_B, sJ_R, sJ_all, sB_F, sB_A, sB_J, sB_B, sB_R, sB_all, sR_F, sR_A, sR_J, sR_B, sR_R, sR_all]
        simp only [chas_sp hb (hd b hb)]
        by_cases vb : hv σ n (nI t) b = true
        · rw [if_pos vb]
          simp (disch := omega) only [li0, li1, li2, li3, li4, li5, li6, li12, li13, li14, li15, li16, li17, li32, li33, li39, li60, li65, li90, li91, li93, li97, li100, li122, li126, li200, li800, li1000, li1400, li2800, li3432, li9999, li10000000, ↓lm1, ↓lm2, ↓lm3, ↓lm4, ↓lm9, le_T, le_F, lt_T, lt_F, eq_F, eq_T, vp_T, mle_F, mle_T, mlt_F, mlt_T, meq_F, meq_F', mne, aR, mR, sR', nI_clamp, br_nT, br_nF, ex_s, true_implies, false_implies, not_true_eq_false, not_false_eq_true, true_and, and_true, forall_eq, implies_true, and_self, reduceIte, reduceCtorEq, Nat.reduceEqDiff, Nat.reduceAdd, Nat.reduceMul, Nat.reduceSub, ite_true, ite_false, if_true, if_false, eq_self, and_false, false_and, fa_s, fa_n, cfF, cfA, cfJ, cfB, cfR, mfF, mfA, mfJ, mfB, mfR, c_foundE, m_meetsE, nar_byte, byte_i, lg_gt, lg_eq, lg_lt, all_A, sF_F, sF_A, sF_J, sF_B, sF_R, sF_all, sA_F, sA_A, sA_J, sA_B, sA_R, sA_all, sJ_F, sJ_A, sJ_J, sJ_B, sJ_R, sJ_all, sB_F, sB_A, sB_J, sB_B, sB_R, sB_all, sR_F, sR_A, sR_J, sR_B, sR_R, sR_all]
          refine prices_sp hN ct' sr ht hk1 (by omega) ha hb kp hd va vb (fun s2 pi => ?_)
          refine tails_sp hN (W := wnd (nwM σ t) k) (by omega) pi (fun s3 al3 eA3 eF3 tl3 => ?_)
          have pi7 : sF s2 3 0 7 = nI (wnd (nwM σ t) k) := pi.2.2.1
          have al03 := pi.1.trans al3
          clear pi eA3
          generalize hA0 : wfL σ n m srt t k a = A0 at tl3
          generalize hB0 : wfL σ n m srt t k b = B0 at tl3
          have e37 : sF s3 3 0 7 = nI (wnd (nwM σ t) k) := by rw [eF3]; exact pi7
          refine choose_sp hN (W := wnd (nwM σ t) k) (P := fun w => (tlS A0 B0 (nI c).toInt64 (wnd (nwM σ t) k) (wnd (nwM σ t) k - w)).1) (S := fun w => (tlS A0 B0 (nI c).toInt64 (wnd (nwM σ t) k) (wnd (nwM σ t) k - w)).2) (by omega) e37 (fun w hw => ?_) (fun w hw => ?_) (fun s4 al4 eF4 eB4 ow4 => ?_)
          · have q := (tl3 (wnd (nwM σ t) k - w) (by omega)).1
            rw [show wnd (nwM σ t) k - (wnd (nwM σ t) k - w) = w by omega] at q
            exact q
          · have q := (tl3 (wnd (nwM σ t) k - w) (by omega)).2
            rw [show wnd (nwM σ t) k - (wnd (nwM σ t) k - w) = w by omega] at q
            exact q
          · have al := al03.trans al4
            have q36 := (tl3 (wnd (nwM σ t) k) (Nat.le_refl _)).1
            have q37 := (tl3 (wnd (nwM σ t) k) (Nat.le_refl _)).2
            rw [Nat.sub_self] at q36 q37
            rw [← eB4] at q36 q37
            have e47 : sF s4 3 0 7 = nI (wnd (nwM σ t) k) := by rw [eF4]; exact e37
            obtain ⟨L0, hL0⟩ : ∃ x, x = (if (tlS A0 B0 (nI c).toInt64 (wnd (nwM σ t) k) (wnd (nwM σ t) k)).2 < (tlS A0 B0 (nI c).toInt64 (wnd (nwM σ t) k) (wnd (nwM σ t) k)).1 then (tlS A0 B0 (nI c).toInt64 (wnd (nwM σ t) k) (wnd (nwM σ t) k)).2 else (tlS A0 B0 (nI c).toInt64 (wnd (nwM σ t) k) (wnd (nwM σ t) k)).1) := ⟨_, Eq.refl _⟩
            unfold fX3_leastPrice
            refine ⟨vp_in_nI (n := 0) (N := 101) (by decide) (by decide), vp_in_nI (n := 0) (N := 101) (by decide) (by decide), ?_⟩
            rw [show (0 : Int32).toNatClampNeg = 0 from by decide, q36, q37, ← hL0]
            show fX11_isText N (setJ s4 10 0 13 L0) (nI t) _
            obtain ⟨s5, e5⟩ : ∃ s5, s5 = setJ s4 10 0 13 L0 := ⟨_, Eq.refl _⟩
            rw [← e5]
            have sm5 : SM σ s5 := by rw [e5]; exact ⟨by rw [sF_J]; exact al.sm.1, fun K h1 h2 => by rw [sA_J]; exact al.sm.2 K h1 h2⟩
            have e56 : sF s5 11 0 6 = nI n := by rw [sm5.1]; exact e6
            have e570 : sA s5 70 0 t = nI 0 := by rw [sm5.2 70 (by decide) (by decide)]; exact v
            have e575 : sA s5 75 0 t = nI (nwM σ t) := by rw [sm5.2 75 (by decide) (by decide)]; exact (g4 t ht).2.1.2.1
            have eW : nI (nwM σ t + k - 1) / nI k = nI (wnd (nwM σ t) k) := nI_div (by omega) (by omega) (by omega)
            simp only [it_y hn e56 ht]
            simp (disch := omega) only [li0, li1, li2, li3, li4, li5, li6, li12, li13, li14, li15, li16, li17, li32, li33, li39, li60, li65, li90, li91, li93, li97, li100, li122, li126, li200, li800, li1000, li1400, li2800, li3432, li9999, li10000000, ↓lm1, ↓lm2, ↓lm3, ↓lm4, ↓lm9, le_T, le_F, lt_T, lt_F, eq_F, eq_T, vp_T, mle_F, mle_T, mlt_F, mlt_T, meq_F, meq_F', mne, aR, mR, sR', nI_clamp, br_nT, br_nF, ex_s, true_implies, false_implies, not_true_eq_false, not_false_eq_true, true_and, and_true, forall_eq, implies_true, and_self, reduceIte, reduceCtorEq, Nat.reduceEqDiff, Nat.reduceAdd, Nat.reduceMul, Nat.reduceSub, ite_true, ite_false, if_true, if_false, eq_self, and_false, false_and, fa_s, fa_n, cfF, cfA, cfJ, cfB, cfR, mfF, mfA, mfJ, mfB, mfR, c_foundE, m_meetsE, nar_byte, byte_i, lg_gt, lg_eq, lg_lt, all_A, sF_F, sF_A, sF_J, sF_B, sF_R, sF_all, sA_F, sA_A, sA_J, sA_B, sA_R, sA_all, sJ_F, sJ_A, sJ_J, sJ_B, sJ_R, sJ_all, sB_F, sB_A, sB_J, sB_B, sB_R, sB_all, sR_F, sR_A, sR_J, sR_B, sR_R, sR_all, e570]
            refine mhand_sp (w := a) hN ct'.rt sm5 (fun M1 h1 h2 _ => ?_)
            have c1 : ¬ M1 = nI 0 := fun e => by rw [h1.mp e] at va; cases va
            refine mhand_sp (w := b) hN ct'.rt sm5 (fun M2 h1' h2' _ => ?_)
            have c2 : ¬ M2 = nI 0 := fun e => by rw [h1'.mp e] at vb; cases vb
            simp (disch := omega) only [li0, li1, li2, li3, li4, li5, li6, li12, li13, li14, li15, li16, li17, li32, li33, li39, li60, li65, li90, li91, li93, li97, li100, li122, li126, li200, li800, li1000, li1400, li2800, li3432, li9999, li10000000, ↓lm1, ↓lm2, ↓lm3, ↓lm4, ↓lm9, le_T, le_F, lt_T, lt_F, eq_F, eq_T, vp_T, mle_F, mle_T, mlt_F, mlt_T, meq_F, meq_F', mne, aR, mR, sR', nI_clamp, br_nT, br_nF, ex_s, true_implies, false_implies, not_true_eq_false, not_false_eq_true, true_and, and_true, forall_eq, implies_true, and_self, reduceIte, reduceCtorEq, Nat.reduceEqDiff, Nat.reduceAdd, Nat.reduceMul, Nat.reduceSub, ite_true, ite_false, if_true, if_false, eq_self, and_false, false_and, fa_s, fa_n, cfF, cfA, cfJ, cfB, cfR, mfF, mfA, mfJ, mfB, mfR, c_foundE, m_meetsE, nar_byte, byte_i, lg_gt, lg_eq, lg_lt, all_A, sF_F, sF_A, sF_J, sF_B, sF_R, sF_all, sA_F, sA_A, sA_J, sA_B, sA_R, sA_all, sJ_F, sJ_A, sJ_J, sJ_B, sJ_R, sJ_all, sB_F, sB_A, sB_J, sB_B, sB_R, sB_all, sR_F, sR_A, sR_J, sR_B, sR_R, sR_all, c1, c2]
            refine setCounts_sp hN (RT_c ct'.rt sm5) (fun G hG => ?_)
            simp (disch := omega) only [li0, li1, li2, li3, li4, li5, li6, li12, li13, li14, li15, li16, li17, li32, li33, li39, li60, li65, li90, li91, li93, li97, li100, li122, li126, li200, li800, li1000, li1400, li2800, li3432, li9999, li10000000, ↓lm1, ↓lm2, ↓lm3, ↓lm4, ↓lm9, le_T, le_F, lt_T, lt_F, eq_F, eq_T, vp_T, mle_F, mle_T, mlt_F, mlt_T, meq_F, meq_F', mne, aR, mR, sR', nI_clamp, br_nT, br_nF, ex_s, true_implies, false_implies, not_true_eq_false, not_false_eq_true, true_and, and_true, forall_eq, implies_true, and_self, reduceIte, reduceCtorEq, Nat.reduceEqDiff, Nat.reduceAdd, Nat.reduceMul, Nat.reduceSub, ite_true, ite_false, if_true, if_false, eq_self, and_false, false_and, fa_s, fa_n, cfF, cfA, cfJ, cfB, cfR, mfF, mfA, mfJ, mfB, mfR, c_foundE, m_meetsE, nar_byte, byte_i, lg_gt, lg_eq, lg_lt, all_A, sF_F, sF_A, sF_J, sF_B, sF_R, sF_all, sA_F, sA_A, sA_J, sA_B, sA_R, sA_all, sJ_F, sJ_A, sJ_J, sJ_B, sJ_R, sJ_all, sB_F, sB_A, sB_J, sB_B, sB_R, sB_all, sR_F, sR_A, sR_J, sR_B, sR_R, sR_all, e575, eW]
            rw [dn_0 (by omega)]
            generalize e7 : (setB (setB (setF (setAll s5 83 0 G) 11 0 25 (nI (wnd (nwM σ t) k))) 87 0 (wnd (nwM σ t) k) 0) 88 0 (wnd (nwM σ t) k) 0) = s7
            have z1 : sB s7 87 0 (wnd (nwM σ t) k) = 0 := by rw [← e7]; rw [sB_B, if_neg (by omega), sB_B, if_pos ⟨Eq.refl _, Eq.refl _, Eq.refl _⟩]
            have z2 : sB s7 88 0 (wnd (nwM σ t) k) = 0 := by rw [← e7]; rw [sB_B, if_pos ⟨Eq.refl _, Eq.refl _, Eq.refl _⟩]
            have zF : ∀ K i j, sF s7 K i j = if K = 11 ∧ i = 0 ∧ j = 25 then nI (wnd (nwM σ t) k) else sF s5 K i j := fun K i j => by rw [← e7, sF_B, sF_B, sF_F, sF_all]
            have zA : ∀ K, K ≠ 83 → sA s7 K = sA s5 K := fun K hK => by rw [← e7, sA_B, sA_B, sA_F, sLx hK]
            have zA83 : sA s7 83 = sA (setAll s5 83 0 G) 83 := by rw [← e7, sA_B, sA_B, sA_F]
            have zJ : sJ s7 = sJ s5 := by rw [← e7, sJ_B, sJ_B, sJ_F, sJ_all]
            have zR : sR s7 = sR s5 := by rw [← e7, sR_B, sR_B, sR_F, sR_all]
            clear e7
            have hA7 : ∀ K, 67 ≤ K → K ≤ 82 → sA s7 K = sA σ K := fun K h1 h2 => by rw [zA K (by omega)]; exact sm5.2 K h1 h2
            obtain ⟨rt7, ec7⟩ := RTz ct'.rt hA7 (by rw [zF, if_neg (by decide), sm5.1]) (by rw [zF, if_neg (by decide), sm5.1])
            have mr7 : MR σ s7 n m srt := ⟨rt7, CF_c hG zA83 (ec7.trans (sm5.trans SM_83).f.2.2.2.2.2.symm), hA7, by rw [zF, if_neg (by decide), sm5.1]; exact sr.2.2, sr.1⟩
            have z25 : sF s7 11 0 25 = nI (wnd (nwM σ t) k) := by rw [zF, if_pos ⟨Eq.refl _, Eq.refl _, Eq.refl _⟩]
            refine mtails_sp hN mr7 ht hk1 (by omega) (Eq.refl _) (by omega) (by omega) z25 h2 h2' z1 z2 (fun s8 eF8 eA8 eJ8 eR8 tl8 => ?_)
            rw [hA0, hB0] at tl8
            have q87 := (tl8 (wnd (nwM σ t) k) (Nat.le_refl _)).1
            have q88 := (tl8 (wnd (nwM σ t) k) (Nat.le_refl _)).2
            rw [Nat.sub_self] at q87 q88
            have fin : ∀ x, x = L0 → fX11_part_b322 N (nI t) (nI k) (nI a) (nI b) (nI c) (fun r23 σ22 => nI (ct (chg (ownr (fun w => (tlS A0 B0 (nI c).toInt64 (wnd (nwM σ t) k) (wnd (nwM σ t) k - w)).1) (fun w => (tlS A0 B0 (nI c).toInt64 (wnd (nwM σ t) k) (wnd (nwM σ t) k - w)).2) (nI a) (nI b) (nI c))) (wnd (nwM σ t) k)) = r23 ∧ Inv σ22 L) s8 x := by
              intro x ex
              unfold fX11_part_b322
              intro s9 e9
              rw [ex] at e9
              have b9 : sB s9 = sB s8 := by rw [e9, sB_J]
              have f9 : sF s9 = sF s8 := by rw [e9, sF_J]
              have a9 : sA s9 = sA s8 := by rw [e9, sA_J]
              have r9 : sR s9 = sR s8 := by rw [e9, sR_J]
              have j9 : sJ s9 11 0 2 = L0 ∧ sJ s9 10 0 13 = L0 := by
                rw [e9, sJ_J, sJ_J, if_pos ⟨Eq.refl _, Eq.refl _, Eq.refl _⟩, if_neg (by decide), eJ8, zJ, e5, sJ_J, if_pos ⟨Eq.refl _, Eq.refl _, Eq.refl _⟩]
                exact ⟨Eq.refl _, Eq.refl _⟩
              clear e9
              refine mchoose_sp hN (W := wnd (nwM σ t) k) (P := fun w => (tlS A0 B0 (nI c).toInt64 (wnd (nwM σ t) k) (wnd (nwM σ t) k - w)).1) (S := fun w => (tlS A0 B0 (nI c).toInt64 (wnd (nwM σ t) k) (wnd (nwM σ t) k - w)).2) (by omega) (by rw [f9, eF8]; exact z25) (fun w hw => ?_) (fun w hw => ?_) (fun F hF => ⟨Eq.refl _, ?_⟩)
              · have q := (tl8 (wnd (nwM σ t) k - w) (by omega)).1
                rw [show wnd (nwM σ t) k - (wnd (nwM σ t) k - w) = w by omega] at q
                rw [b9]; exact q
              · have q := (tl8 (wnd (nwM σ t) k - w) (by omega)).2
                rw [show wnd (nwM σ t) k - (wnd (nwM σ t) k - w) = w by omega] at q
                rw [b9]; exact q
              · have fz : sF s5 = sF s4 := by rw [e5, sF_J]
                have az : sA s5 = sA s4 := by rw [e5, sA_J]
                have rz : sR s5 = sR s4 := by rw [e5, sR_J]
                refine inv_part (W := wnd (nwM σ t) k) h al (fun K i j e => ?_) (fun K h1 h2 => ?_) ?_ ?_ (by omega) e47 ?_ (fun i hi => ?_)
                · rw [sF_all, f9, eF8, zF, if_neg (fun z => e ⟨z.1, z.2.2⟩), fz]
                · rw [sLx h2, a9, eA8, zA K h1, az]
                · rw [sR_all, r9, eR8, zR, rz]
                · rw [sJ_all]; exact j9.2.trans j9.1.symm
                · rw [sF_all, f9, eF8]; exact z25
                · rw [sLx (by decide), a9, eA8, zA 38 (by decide), az, ow4 i hi, sA_all, if_pos ⟨Eq.refl _, Eq.refl _⟩, hF i hi]
            rw [lgc, q87, q88]
            refine ⟨fun g => fin _ ?_, fun g => fin _ ?_⟩
            · rw [hL0, if_pos g]
            · rw [hL0, if_neg g]
        · have vF : hv σ n (nI t) b = false := by simpa using vb
          rw [if_neg vb]
          simp (disch := omega) only [li0, li1, li2, li3, li4, li5, li6, li12, li13, li14, li15, li16, li17, li32, li33, li39, li60, li65, li90, li91, li93, li97, li100, li122, li126, li200, li800, li1000, li1400, li2800, li3432, li9999, li10000000, ↓lm1, ↓lm2, ↓lm3, ↓lm4, ↓lm9, le_T, le_F, lt_T, lt_F, eq_F, eq_T, vp_T, mle_F, mle_T, mlt_F, mlt_T, meq_F, meq_F', mne, aR, mR, sR', nI_clamp, br_nT, br_nF, ex_s, true_implies, false_implies, not_true_eq_false, not_false_eq_true, true_and, and_true, forall_eq, implies_true, and_self, reduceIte, reduceCtorEq, Nat.reduceEqDiff, Nat.reduceAdd, Nat.reduceMul, Nat.reduceSub, ite_true, ite_false, if_true, if_false, eq_self, and_false, false_and, fa_s, fa_n, cfF, cfA, cfJ, cfB, cfR, mfF, mfA, mfJ, mfB, mfR, c_foundE, m_meetsE, nar_byte, byte_i, lg_gt, lg_eq, lg_lt, all_A, sF_F, sF_A, sF_J, sF_B, sF_R, sF_all, sA_F, sA_A, sA_J, sA_B, sA_R, sA_all, sJ_F, sJ_A, sJ_J, sJ_B, sJ_R, sJ_all, sB_F, sB_A, sB_J, sB_B, sB_R, sB_all, sR_F, sR_A, sR_J, sR_B, sR_R, sR_all]
          simp only [it_y hn f6 ht]
          simp (disch := omega) only [li0, li1, li2, li3, li4, li5, li6, li12, li13, li14, li15, li16, li17, li32, li33, li39, li60, li65, li90, li91, li93, li97, li100, li122, li126, li200, li800, li1000, li1400, li2800, li3432, li9999, li10000000, ↓lm1, ↓lm2, ↓lm3, ↓lm4, ↓lm9, le_T, le_F, lt_T, lt_F, eq_F, eq_T, vp_T, mle_F, mle_T, mlt_F, mlt_T, meq_F, meq_F', mne, aR, mR, sR', nI_clamp, br_nT, br_nF, ex_s, true_implies, false_implies, not_true_eq_false, not_false_eq_true, true_and, and_true, forall_eq, implies_true, and_self, reduceIte, reduceCtorEq, Nat.reduceEqDiff, Nat.reduceAdd, Nat.reduceMul, Nat.reduceSub, ite_true, ite_false, if_true, if_false, eq_self, and_false, false_and, fa_s, fa_n, cfF, cfA, cfJ, cfB, cfR, mfF, mfA, mfJ, mfB, mfR, c_foundE, m_meetsE, nar_byte, byte_i, lg_gt, lg_eq, lg_lt, all_A, sF_F, sF_A, sF_J, sF_B, sF_R, sF_all, sA_F, sA_A, sA_J, sA_B, sA_R, sA_all, sJ_F, sJ_A, sJ_J, sJ_B, sJ_R, sJ_all, sB_F, sB_A, sB_J, sB_B, sB_R, sB_all, sR_F, sR_A, sR_J, sR_B, sR_R, sR_all, f70']
          refine mhand_sp (w := a) hN ct'.rt (rs.sm.trans SM_cf) (fun M1 h1 h2 _ => ?_)
          have c1 : ¬ M1 = nI 0 := fun e => by rw [h1.mp e] at va; cases va
          refine mhand_sp (w := b) hN ct'.rt (rs.sm.trans SM_cf) (fun M2 h1' h2' _ => ?_)
          have c2 : M2 = nI 0 := h1'.mpr vF
          simp (disch := omega) only [li0, li1, li2, li3, li4, li5, li6, li12, li13, li14, li15, li16, li17, li32, li33, li39, li60, li65, li90, li91, li93, li97, li100, li122, li126, li200, li800, li1000, li1400, li2800, li3432, li9999, li10000000, ↓lm1, ↓lm2, ↓lm3, ↓lm4, ↓lm9, le_T, le_F, lt_T, lt_F, eq_F, eq_T, vp_T, mle_F, mle_T, mlt_F, mlt_T, meq_F, meq_F', mne, aR, mR, sR', nI_clamp, br_nT, br_nF, ex_s, true_implies, false_implies, not_true_eq_false, not_false_eq_true, true_and, and_true, forall_eq, implies_true, and_self, reduceIte, reduceCtorEq, Nat.reduceEqDiff, Nat.reduceAdd, Nat.reduceMul, Nat.reduceSub, ite_true, ite_false, if_true, if_false, eq_self, and_false, false_and, fa_s, fa_n, cfF, cfA, cfJ, cfB, cfR, mfF, mfA, mfJ, mfB, mfR, c_foundE, m_meetsE, nar_byte, byte_i, lg_gt, lg_eq, lg_lt, all_A, sF_F, sF_A, sF_J, sF_B, sF_R, sF_all, sA_F, sA_A, sA_J, sA_B, sA_R, sA_all, sJ_F, sJ_A, sJ_J, sJ_B, sJ_R, sJ_all, sB_F, sB_A, sB_J, sB_B, sB_R, sB_all, sR_F, sR_A, sR_J, sR_B, sR_R, sR_all, c1, c2]
          exact inv_cm (inv_same h kp.1) 4
      · have vF : hv σ n (nI t) a = false := by simpa using va
        rw [if_neg va]
        simp (disch := omega) only [li0, li1, li2, li3, li4, li5, li6, li12, li13, li14, li15, li16, li17, li32, li33, li39, li60, li65, li90, li91, li93, li97, li100, li122, li126, li200, li800, li1000, li1400, li2800, li3432, li9999, li10000000, ↓lm1, ↓lm2, ↓lm3, ↓lm4, ↓lm9, le_T, le_F, lt_T, lt_F, eq_F, eq_T, vp_T, mle_F, mle_T, mlt_F, mlt_T, meq_F, meq_F', mne, aR, mR, sR', nI_clamp, br_nT, br_nF, ex_s, true_implies, false_implies, not_true_eq_false, not_false_eq_true, true_and, and_true, forall_eq, implies_true, and_self, reduceIte, reduceCtorEq, Nat.reduceEqDiff, Nat.reduceAdd, Nat.reduceMul, Nat.reduceSub, ite_true, ite_false, if_true, if_false, eq_self, and_false, false_and, fa_s, fa_n, cfF, cfA, cfJ, cfB, cfR, mfF, mfA, mfJ, mfB, mfR, c_foundE, m_meetsE, nar_byte, byte_i, lg_gt, lg_eq, lg_lt, all_A, sF_F, sF_A, sF_J, sF_B, sF_R, sF_all, sA_F, sA_A, sA_J, sA_B, sA_R, sA_all, sJ_F, sJ_A, sJ_J, sJ_B, sJ_R, sJ_all, sB_F, sB_A, sB_J, sB_B, sB_R, sB_all, sR_F, sR_A, sR_J, sR_B, sR_R, sR_all]
        simp only [it_y hn f6 ht]
        simp (disch := omega) only [li0, li1, li2, li3, li4, li5, li6, li12, li13, li14, li15, li16, li17, li32, li33, li39, li60, li65, li90, li91, li93, li97, li100, li122, li126, li200, li800, li1000, li1400, li2800, li3432, li9999, li10000000, ↓lm1, ↓lm2, ↓lm3, ↓lm4, ↓lm9, le_T, le_F, lt_T, lt_F, eq_F, eq_T, vp_T, mle_F, mle_T, mlt_F, mlt_T, meq_F, meq_F', mne, aR, mR, sR', nI_clamp, br_nT, br_nF, ex_s, true_implies, false_implies, not_true_eq_false, not_false_eq_true, true_and, and_true, forall_eq, implies_true, and_self, reduceIte, reduceCtorEq, Nat.reduceEqDiff, Nat.reduceAdd, Nat.reduceMul, Nat.reduceSub, ite_true, ite_false, if_true, if_false, eq_self, and_false, false_and, fa_s, fa_n, cfF, cfA, cfJ, cfB, cfR, mfF, mfA, mfJ, mfB, mfR, c_foundE, m_meetsE, nar_byte, byte_i, lg_gt, lg_eq, lg_lt, all_A, sF_F, sF_A, sF_J, sF_B, sF_R, sF_all, sA_F, sA_A, sA_J, sA_B, sA_R, sA_all, sJ_F, sJ_A, sJ_J, sJ_B, sJ_R, sJ_all, sB_F, sB_A, sB_J, sB_B, sB_R, sB_all, sR_F, sR_A, sR_J, sR_B, sR_R, sR_all, f70']
        refine mhand_sp (w := a) hN ct'.rt (rs.sm.trans SM_cf) (fun M1 h1 h2 _ => ?_)
        have c1 : M1 = nI 0 := h1.mpr vF
        refine mhand_sp (w := b) hN ct'.rt (rs.sm.trans SM_cf) (fun M2 h1' h2' _ => ?_)
        simp (disch := omega) only [li0, li1, li2, li3, li4, li5, li6, li12, li13, li14, li15, li16, li17, li32, li33, li39, li60, li65, li90, li91, li93, li97, li100, li122, li126, li200, li800, li1000, li1400, li2800, li3432, li9999, li10000000, ↓lm1, ↓lm2, ↓lm3, ↓lm4, ↓lm9, le_T, le_F, lt_T, lt_F, eq_F, eq_T, vp_T, mle_F, mle_T, mlt_F, mlt_T, meq_F, meq_F', mne, aR, mR, sR', nI_clamp, br_nT, br_nF, ex_s, true_implies, false_implies, not_true_eq_false, not_false_eq_true, true_and, and_true, forall_eq, implies_true, and_self, reduceIte, reduceCtorEq, Nat.reduceEqDiff, Nat.reduceAdd, Nat.reduceMul, Nat.reduceSub, ite_true, ite_false, if_true, if_false, eq_self, and_false, false_and, fa_s, fa_n, cfF, cfA, cfJ, cfB, cfR, mfF, mfA, mfJ, mfB, mfR, c_foundE, m_meetsE, nar_byte, byte_i, lg_gt, lg_eq, lg_lt, all_A, sF_F, sF_A, sF_J, sF_B, sF_R, sF_all, sA_F, sA_A, sA_J, sA_B, sA_R, sA_all, sJ_F, sJ_A, sJ_J, sJ_B, sJ_R, sJ_all, sB_F, sB_A, sB_J, sB_B, sB_R, sB_all, sR_F, sR_A, sR_J, sR_B, sR_R, sR_all, c1]
        exact inv_cm (inv_same h kp.1) 4
    · have v : sA σ 70 0 t = nI 1 := v
      simp (disch := omega) only [li0, li1, li2, li3, li4, li5, li6, li12, li13, li14, li15, li16, li17, li32, li33, li39, li60, li65, li90, li91, li93, li97, li100, li122, li126, li200, li800, li1000, li1400, li2800, li3432, li9999, li10000000, ↓lm1, ↓lm2, ↓lm3, ↓lm4, ↓lm9, le_T, le_F, lt_T, lt_F, eq_F, eq_T, vp_T, mle_F, mle_T, mlt_F, mlt_T, meq_F, meq_F', mne, aR, mR, sR', nI_clamp, br_nT, br_nF, ex_s, true_implies, false_implies, not_true_eq_false, not_false_eq_true, true_and, and_true, forall_eq, implies_true, and_self, reduceIte, reduceCtorEq, Nat.reduceEqDiff, Nat.reduceAdd, Nat.reduceMul, Nat.reduceSub, ite_true, ite_false, if_true, if_false, eq_self, and_false, false_and, fa_s, fa_n, cfF, cfA, cfJ, cfB, cfR, mfF, mfA, mfJ, mfB, mfR, c_foundE, m_meetsE, nar_byte, byte_i, lg_gt, lg_eq, lg_lt, all_A, sF_F, sF_A, sF_J, sF_B, sF_R, sF_all, sA_F, sA_A, sA_J, sA_B, sA_R, sA_all, sJ_F, sJ_A, sJ_J, sJ_B, sJ_R, sJ_all, sB_F, sB_A, sB_J, sB_B, sB_R, sB_all, sR_F, sR_A, sR_J, sR_B, sR_R, sR_all, x5, v]
      simp only [it_y hn (show sF (cf σ 1) 11 0 6 = nI n by rw [SM_cf.1]; exact e6) ht]
      simp (disch := omega) only [li0, li1, li2, li3, li4, li5, li6, li12, li13, li14, li15, li16, li17, li32, li33, li39, li60, li65, li90, li91, li93, li97, li100, li122, li126, li200, li800, li1000, li1400, li2800, li3432, li9999, li10000000, ↓lm1, ↓lm2, ↓lm3, ↓lm4, ↓lm9, le_T, le_F, lt_T, lt_F, eq_F, eq_T, vp_T, mle_F, mle_T, mlt_F, mlt_T, meq_F, meq_F', mne, aR, mR, sR', nI_clamp, br_nT, br_nF, ex_s, true_implies, false_implies, not_true_eq_false, not_false_eq_true, true_and, and_true, forall_eq, implies_true, and_self, reduceIte, reduceCtorEq, Nat.reduceEqDiff, Nat.reduceAdd, Nat.reduceMul, Nat.reduceSub, ite_true, ite_false, if_true, if_false, eq_self, and_false, false_and, fa_s, fa_n, cfF, cfA, cfJ, cfB, cfR, mfF, mfA, mfJ, mfB, mfR, c_foundE, m_meetsE, nar_byte, byte_i, lg_gt, lg_eq, lg_lt, all_A, sF_F, sF_A, sF_J, sF_B, sF_R, sF_all, sA_F, sA_A, sA_J, sA_B, sA_R, sA_all, sJ_F, sJ_A, sJ_J, sJ_B, sJ_R, sJ_all, sB_F, sB_A, sB_J, sB_B, sB_R, sB_all, sR_F, sR_A, sR_J, sR_B, sR_R, sR_all, v]
      exact inv_cm h 1
