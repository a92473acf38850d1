theorem st8_3 {N n m u z : Nat} {σ : St} {L : List (Nat × Nat)} (hN : 1000 ≤ N) (h : Inv σ L) (hn : n ≤ 14) (hm : m < 12) (gl : GL n m L) (g1 : G1 n m σ) (g2 : G2 σ) (g3 : G3 σ) (g4 : G4 n σ) (g5 : G5 m σ) (g6 : G6 n m σ) (g7 : G7 σ) (g8 : G8 σ) (hu : u < 4) (hv : vl 3 (nI u) = true) (sy : ShY σ u z) : fX4_read N σ 14 u (fun (σ31 : St) => ((¬ (sF σ31 4 14 4) = 0 → fX10_feature_b75 N m L (nI 3) (nI u) (fun r σ1 L1 => fX11_feature N σ1 (nI 3) (nI u) (fun r2 σ2 => r = r2 ∧ Inv σ2 L1)) σ31) ∧ ((sF σ31 4 14 4) = 0 → fX10_found N σ31 (5 : Int32) (fun (r35 : Int32) (σ34 : St) => fX11_feature N σ34 (nI 3) (nI u) (fun r2 σ2 => r35 = r2 ∧ Inv σ2 L))))) := by
  obtain ⟨hz, y1, y2, y3⟩ := sy
  refine cread_sp (z := z) (g := fun i => sA σ 24 u i) hN hz y1 (fun i hi => ⟨rfl, (y3 i hi).2⟩) (fun y0 cc => ?_)
  obtain ⟨g, hg⟩ : ∃ g : Nat → Int32, g = fun i => sA σ 24 u i := ⟨_, rfl⟩
  rw [← hg] at cc
  have egb : ∀ i, i < z → fits .byte (.int (g i)) = true := fun i hi => by rw [hg]; exact (y3 i hi).2
  have eg64 : ∀ i, i < z → sA σ 64 0 (200 * u + i) = g i := fun i hi => by rw [hg]; exact (y3 i hi).1.symm
  obtain ⟨rx, c3, c4, c5, c6, c7, c25, cw⟩ := cc
  have b := rd_b (g := g) hz
  rw [c4]
  refine ⟨fun c => ?_, fun c => ?_⟩
  · have hnw : 1 ≤ rnw g z := by
      rcases Nat.eq_zero_or_pos (rnw g z) with q | q
      · exact absurd (by rw [q]; rfl) c
      · exact q
    have bl := b.2 0 hnw
    unfold fX10_feature_b75
    intro r10 e10
    rw [smallV_e] at e10
    subst e10
    unfold fX10_feature_t
    refine ⟨fun c => absurd rfl c, fun _ => ?_⟩
    obtain ⟨s0, hs0⟩ : ∃ s0, s0 = newFeat y0 m (nI 3) (smV (nI u)) := ⟨_, rfl⟩
    have nF : ∀ K i j, ¬ (K = 0 ∧ i = m) → sF s0 K i j = sF y0 K i j := fun K i j h => by rw [hs0]; exact if_neg (fun z => h ⟨z.2, z.1⟩)
    have nA : ∀ K i j, ¬ (K = 28 ∧ i = m) → sA s0 K i j = sA y0 K i j := fun K i j h => by rw [hs0]; exact if_neg (fun z => h ⟨z.2, z.1⟩)
    have nJ : sJ s0 = sJ y0 := by rw [hs0]; rfl
    have nR : sR s0 = sR y0 := by rw [hs0]; rfl
    have n0 : sF s0 0 m 0 = nI 3 := by rw [hs0]; show (if m = m ∧ 0 = 0 then (if 0 = 0 then nI 3 else if 0 = 1 then smV (nI u) else 0) else sF y0 0 m 0) = nI 3; simp
    have n1 : sF s0 0 m 1 = smV (nI u) := by rw [hs0]; show (if m = m ∧ 0 = 0 then (if 1 = 0 then nI 3 else if 1 = 1 then smV (nI u) else 0) else sF y0 0 m 1) = smV (nI u); simp
    rw [← hs0]
    clear hs0
    refine clearn_sp (g := g) (z := z) (a := wA g z 0) (l := wL g z 0) (nw := rnw g z) hN hz hnw b.1 bl.2 egb (by rw [nF 4 14 4 (by omega)]; exact c4) (by rw [nA 26 14 0 (by omega)]; exact (cw 0 hnw).1) (by rw [nA 27 14 0 (by omega)]; exact (cw 0 hnw).2) (fun j hj => by rw [nA 25 14 j (by omega)]; exact c25 j hj) (fun s1 q1 q2 q3 q4 q5 => ?_)
    have kF : ∀ K i j, ¬ (K = 0 ∧ i = m) → ¬ (K = 4 ∧ i = 14) → sF s1 K i j = sF σ K i j := fun K i j h1 h2 => by
      rw [q1, sF_F, if_neg (by omega), nF K i j h1, rx.1 K i j (by omega)]
    have kA : ∀ K i j, ¬ (K = 28 ∧ i = m) → ¬ ((K = 25 ∨ K = 26 ∨ K = 27) ∧ i = 14) → sA s1 K i j = sA σ K i j := fun K i j h1 h2 => by
      rw [q4 K i h1, nA K i j h1, rx.2.1 K i (by omega)]
    have f0 : sF s1 0 m 0 = nI 3 := by rw [q1, sF_F, if_neg (by omega)]; exact n0
    have f1 : sF s1 0 m 1 = smV (nI u) := by rw [q1, sF_F, if_neg (by omega)]; exact n1
    have f3 : sF s1 0 m 3 = nI (wL g z 0) := by rw [q1, sF_F, if_pos ⟨rfl, rfl, rfl⟩]
    have fz : FZ s1 (FR σ m 3 (smV (nI u)) (nI (wL g z 0)) (fun j => if j < wL g z 0 then rc g (wA g z 0 + j) else sA σ 82 0 (12 * m + j))) m := ⟨3, by decide, FR_79, f0, trivial, by rw [f1, FR_80], fun e => absurd e (by decide), fun _ => ⟨wL g z 0, bl.1, by omega, f3, FR_81, fun k hk => by
      rw [q5 k hk, FR_82 hk]
      exact ⟨fun c => by rw [if_pos c, if_pos c], fun c => by rw [if_neg (by omega)]; rfl⟩⟩⟩
    refine ctake_sp hN hn hm (show 3 < 4 by decide) g1 kF kA (by rw [q2, nJ, rx.2.2.1]) (by rw [q3, nR, rx.2.2.2.2]) f0 fz (pz_n hn g4 kF kA) (fun y yf => ?_)
    have e18 : sF y 11 0 18 = nI m := by rw [yf.1 11 0 18 (by omega) (by omega) (by omega)]; exact g1.2.2.2.1
    have y63 : sA y 63 0 u = nI z := by rw [yf.2.2.1 63 0 u (by omega) (by omega) (by omega)]; exact y2
    refine mfeat_0 (by decide) hv ⟨fun _ => ⟨fun c => absurd rfl c, fun _ => ⟨vp_in_nI hu (by decide), ?_⟩⟩, fun c => absurd ((nI_eq (by omega) (by decide)).mp (e18.symm.trans (show sF y 11 0 18 = nI 12 from c))) (by omega)⟩
    rw [nI_clamp (show u < 2 ^ 31 by omega), y63]
    refine ⟨fun _ => ?_, fun c => absurd (nI_le (Nat.zero_le z) (by omega)) c⟩
    show fX11_read N y (nI 14) (nI u) _
    refine mread_sp (g := g) hN (by decide) hu hz y63 (fun i hi => ⟨by rw [yf.2.2.1 64 0 _ (by omega) (by omega) (by omega)]; exact eg64 i hi, egb i hi⟩) (fun y2' cc => ?_)
    obtain ⟨mx, d71, d73, d74, d75, d72, dw⟩ := cc
    have g18 : sF y2' 11 0 18 = nI m := by rw [mx.1]; exact e18
    rw [show ((14 : Int32)).toNatClampNeg = 14 from by decide, show ((1400 : Int32)).toNatClampNeg = 1400 from by decide, d75, g18, nI_clamp (show m < 2 ^ 31 by omega)]
    refine ⟨vp_in_nI (n := 14) (by decide) (by decide), fun _ => ⟨vp_in_nI (n := 1400) (by decide) (by decide), vp_in_nI hm (by decide), fun s24 e24 => ?_⟩, fun c2 => absurd c2 c⟩
    have d77 : sA y2' 77 0 1400 = nI (wL g z 0) := (dw 0 hnw).2
    rw [d77] at e24
    have h24 : ∀ K i j, ¬ (K = 81 ∧ j = m) → sA s24 K i j = sA y2' K i j := fun K i j z => by rw [e24, sA_A, if_neg (by omega)]
    refine mlearn_sp (g := g) (z := z) (a := wA g z 0) (l := wL g z 0) hN hm hz bl.2 (by rw [e24]; exact g18) (by rw [e24, sA_A, if_pos ⟨rfl, rfl, rfl⟩]) (by rw [h24 76 0 1400 (by omega)]; exact (dw 0 hnw).1) (fun j hj => by rw [h24 72 0 _ (by omega)]; exact d72 j hj) (fun w w1 w2 w3 w4 w5 => ?_)
    refine b151_sp (by decide) hm (by rw [w1, e24]; exact g18) (fun e => absurd e (by decide)) ⟨rfl, ?_⟩
    refine feat_inv hn hm (by decide) gl g1 g2 g3 g4 g5 g6 g7 g8 yf (by rw [w1, e24, sF_A, mx.1]) (by rw [w2, e24, sJ_A, mx.2.1]) (by rw [w3, e24, sR_A, mx.2.2.2.1]) (fun K i j h1 h2 h3 h4 h5 => by rw [w4 K i j h2, h24 K i j h1, mx.2.2.2.2 K i j (by omega) (by omega) (by omega)]) (by rw [w4 81 0 m (by omega), e24, sA_A, if_pos ⟨rfl, rfl, rfl⟩]) (fun k hk => ?_)
    rw [w5 k hk, h24 82 0 _ (by omega), mx.2.2.2.2 82 0 _ (by omega) (by omega) (by omega), yf.2.2.1 82 0 _ (by omega) (by omega) (by omega)]
  · have hnw : rnw g z = 0 := (nI_eq (by omega) (by decide)).mp (show nI (rnw g z) = nI 0 from c)
    show fX10_found N y0 (nI 5) _
    rw [c_foundE (by decide) (by decide)]
    have e18 : sF (cf y0 5) 11 0 18 = nI m := by rw [cfF, if_neg (by omega), rx.1 11 0 18 (by omega)]; exact g1.2.2.2.1
    have y63 : sA (cf y0 5) 63 0 u = nI z := by rw [cfA, if_neg (by omega), rx.2.1 63 0 (by omega)]; exact y2
    refine mfeat_0 (by decide) hv ⟨fun _ => ⟨fun c => absurd rfl c, fun _ => ⟨vp_in_nI hu (by decide), ?_⟩⟩, fun c => absurd ((nI_eq (by omega) (by decide)).mp (e18.symm.trans (show sF (cf y0 5) 11 0 18 = nI 12 from c))) (by omega)⟩
    rw [nI_clamp (show u < 2 ^ 31 by omega), y63]
    refine ⟨fun _ => ?_, fun c => absurd (nI_le (Nat.zero_le z) (by omega)) c⟩
    show fX11_read N (cf y0 5) (nI 14) (nI u) _
    refine mread_sp (g := g) hN (by decide) hu hz y63 (fun i hi => ⟨by rw [cfA, if_neg (by omega), rx.2.1 64 0 (by omega)]; exact eg64 i hi, egb i hi⟩) (fun y2' cc => ?_)
    obtain ⟨mx, d71, d73, d74, d75, d72, dw⟩ := cc
    rw [show ((14 : Int32)).toNatClampNeg = 14 from by decide, d75, hnw]
    refine ⟨vp_in_nI (n := 14) (by decide) (by decide), fun c2 => absurd rfl c2, fun _ => ?_⟩
    show fX11_meets N y2' (nI 5) _
    rw [m_meetsE (by decide)]
    refine ⟨rfl, inv_14 (inv_cm h 5) (fun K i j h1 => ?_) (fun K i j h1 h2 h3 h4 => ?_) ?_ ?_⟩
    · rw [mfF, mfF, mx.1, cfF, cfF, rx.1 K i j (by omega)]
    · have q : ∀ K i j, ¬ ((K = 25 ∨ K = 26 ∨ K = 27) ∧ i = 14) → ¬ (67 ≤ K ∧ K ≤ 75 ∧ K ≠ 72 ∧ K ≠ 70 ∧ j = 14) → ¬ (K = 72 ∧ 2800 ≤ j ∧ j < 3000) → ¬ ((K = 76 ∨ K = 77) ∧ 1400 ≤ j ∧ j < 1500) → sA y2' K i j = sA (cf σ 5) K i j := fun K i j h1 h2 h3 h4 => by
        rw [mx.2.2.2.2 K i j (by omega) (by omega) (by omega), cfA, cfA, rx.2.1 K i (by omega), rx.2.1 22 0 (by omega)]
      rw [mfA, mfA, q K i j h1 h2 h3 h4, q 61 0 5 (by omega) (by omega) (by omega) (by omega)]
    · rw [mfJ, mfJ, mx.2.1, cfJ, cfJ, rx.2.2.1]
    · rw [mfR, mfR, mx.2.2.2.1, cfR, cfR, rx.2.2.2.2]
theorem st8 {N : Nat} {σ : St} {L : List (Nat × Nat)} (hN : 1000 ≤ N) (h : Inv σ L) : S8 N Inv σ L := by
  obtain ⟨n, m, hn, hm, gl, g1, g2, g3, g4, g5, g6, g7, g8⟩ := id h
  have htt : ∃ tt : Nat, (∀ z ∈ idsF tt, z ∉ L) ∧ (m < 12 → tt = m) := by
    by_cases c : m < 12
    · exact ⟨m, gl.2.2 m (Nat.le_refl m) c, fun _ => rfl⟩
    · obtain ⟨tt, ht⟩ := newId L
      exact ⟨tt, fun z hz hq => by have := (ids_F hz).1; have := ht z hq; omega, fun q => absurd q c⟩
  obtain ⟨tt, h1, h2⟩ := htt
  refine ⟨tt, h1, fun a1 a2 => ?_⟩
  have e2 := g1.2.2.1
  have e18 := g1.2.2.2.1
  unfold fX10_feature
  rcases pk3 a1 4 (by decide) with hb | ⟨k, hk, rfl⟩
  · unfold fX10_isFeatureValue
    have fin : fX11_feature N σ a1 a2 (fun r2 σ2 => -1 = r2 ∧ Inv σ2 L) := by
      unfold fX11_feature
      exact (m_in_n (bad4 hb)).mpr ⟨fun _ => ⟨rfl, h⟩, fun z => absurd rfl z⟩
    refine ⟨fun e => ?_, fun e => ?_, fun e => ?_, fun e => ?_, fun _ _ _ _ => ⟨fun z => absurd rfl z, fun _ => fin⟩⟩
    · rw [e] at hb; exact absurd hb (by decide)
    · rw [e] at hb; exact absurd hb (by decide)
    · rw [e] at hb; exact absurd hb (by decide)
    · rw [e] at hb; exact absurd hb (by decide)
  · rw [cVal hk]
    by_cases hv : vl k a2 = true
    · rw [if_pos hv]
      refine ⟨fun _ => ?_, fun z => absurd z (by decide)⟩
      unfold fX2_isFull
      rw [e2]
      refine ⟨fun c => ⟨fun _ => ?_, fun z => absurd rfl z⟩, fun c => ⟨fun z => absurd z (by decide), fun _ => ?_⟩⟩
      · have hm' : m < 12 := by
          rcases Nat.lt_or_ge m 12 with q | q
          · exact q
          · exact absurd c (nI_nlt q (by omega))
        obtain rfl := h2 hm'
        refine ⟨fun c3 => ?_, fun c3 => ?_⟩
        · have hk3 : k < 3 := by
            rcases Nat.lt_or_ge k 3 with q | q
            · exact q
            · exact absurd (by rw [show k = 3 by omega]; rfl) c3
          exact st8_n hN hn hm' gl g1 g2 g3 g4 g5 g6 g7 g8 hk3 hv
        · have hk3 : k = 3 := (nI_eq (by omega) (by decide)).mp (show nI k = nI 3 from c3)
          subst hk3
          have ha : ∃ u, u < 4 ∧ a2 = nI u := by
            rcases pk3 a2 4 (by decide) with hb | hb
            · rw [vl_3] at hv
              have q := of_decide_eq_true hv
              exact absurd hb (fun z => z.elim q.1 q.2)
            · exact hb
          obtain ⟨u, hu, rfl⟩ := ha
          have r : sR σ 20 0 u = some u := by rw [g1.2.2.2.2.1 u, if_pos hu]
          have sa : ∀ Q : Option Nat → St → Prop, fX10_sheetAt N σ (nI u) Q = Q (some u) σ := by
            intro Q
            simp (disch := omega) only [li0, li1, li2, li3, li4, li5, li6, li12, li13, li14, li15, li16, li17, li32, li33, li39, li60, li65, li90, li91, li93, li97, li100, li122, li126, li200, li800, li1000, li1400, li2800, li3432, li9999, li10000000, ↓lm1, ↓lm2, ↓lm3, ↓lm4, ↓lm9, le_T, le_F, lt_T, lt_F, eq_F, eq_T, vp_T, mle_F, mle_T, mlt_F, mlt_T, meq_F, meq_F', mne, aR, mR, sR', nI_clamp, br_nT, br_nF, ex_s, true_implies, false_implies, not_true_eq_false, not_false_eq_true, true_and, and_true, forall_eq, implies_true, and_self, reduceIte, reduceCtorEq, Nat.reduceEqDiff, Nat.reduceAdd, Nat.reduceMul, Nat.reduceSub, ite_true, ite_false, if_true, if_false, eq_self, and_false, false_and, fa_s, fa_n, cfF, cfA, cfJ, cfB, cfR, mfF, mfA, mfJ, mfB, mfR, c_foundE, m_meetsE, fX11_isSheet, fX11_in, fX10_sheetAt, fX10_sheetAt_b22, fX10_textAt, fX10_textAt_b22, fX11_isText, fX2_has, fX11_isFeature, nar_byte, byte_i, lg_gt, lg_eq, lg_lt, all_A, sF_F, sF_A, sF_J, sF_B, sF_R, sF_all, sA_F, sA_A, sA_J, sA_B, sA_R, sA_all, sJ_F, sJ_A, sJ_J, sJ_B, sJ_R, sJ_all, sB_F, sB_A, sB_J, sB_B, sB_R, sB_all, sR_F, sR_A, sR_J, sR_B, sR_R, sR_all, r]
          rw [sa]
          refine ⟨fun e => (by cases e), fun i ei => ?_⟩
          obtain rfl := Option.some.inj ei
          unfold fX5_isMissing
          rcases g2 u hu with ⟨s1, s2⟩ | ⟨z, sy⟩
          · rw [s1]
            refine ⟨fun c => absurd c (by decide), fun _ => ⟨fun z => absurd z (by decide), fun _ => ?_⟩⟩
            unfold fX10_feature_b45
            show fX10_found N σ (nI 1) _
            rw [c_foundE (by decide) (by decide)]
            refine mfeat_0 (by decide) hv ⟨fun _ => ⟨fun c => absurd rfl c, fun _ => ⟨vp_in_nI hu (by decide), ?_⟩⟩, fun c => absurd ((nI_eq (by omega) (by decide)).mp (e18.symm.trans (show sF σ 11 0 18 = nI 12 from c))) (by omega)⟩
            rw [nI_clamp (show u < 2 ^ 31 by omega), cfA, if_neg (by omega), s2]
            refine ⟨fun c => absurd c (by decide), fun _ => ?_⟩
            show fX11_meets N (cf σ 1) (nI 1) _
            rw [m_meetsE (by decide)]
            exact ⟨rfl, inv_cm h 1⟩
          · rw [sy.2.1]
            exact ⟨fun _ => ⟨fun _ => st8_3 hN h hn hm' gl g1 g2 g3 g4 g5 g6 g7 g8 hu hv sy, fun z => absurd rfl z⟩, fun c => absurd (nI_le (Nat.zero_le z) (by have := sy.1; omega)) c⟩
      · have hm' : m = 12 := by
          rcases Nat.lt_or_ge m 12 with q | q
          · exact absurd (nI_lt q (by decide)) c
          · omega
        subst hm'
        exact mfeat_0 hk hv ⟨fun c => absurd e18 c, fun _ => ⟨rfl, h⟩⟩
    · rw [if_neg hv]
      refine ⟨fun z => absurd rfl z, fun _ => ?_⟩
      unfold fX11_feature
      refine (m_in_y (nI_nlt (Nat.zero_le k) (by omega)) (nI_nlt (show k ≤ 3 by omega) (by decide))).mpr ⟨fun z => absurd z (by decide), fun _ => ?_⟩
      rw [mVal hk, if_neg hv]
      exact ⟨fun z => absurd rfl z, fun _ => ⟨rfl, h⟩⟩
