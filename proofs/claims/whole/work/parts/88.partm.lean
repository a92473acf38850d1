def mk11 (σ s : St) : St := (fun K i j => if K = 11 then sF σ K i j else sF s K i j, sA s, sJ s, sB s, sR s)
theorem SMz {σ s : St} (hA : ∀ K, 67 ≤ K → K ≤ 82 → sA s K = sA σ K) : SM σ (mk11 σ s) := ⟨by funext i j; rfl, hA⟩
/-- the reference where a parting is reckoned -/
def MR (σ s : St) (n m srt : Nat) : Prop := RT s n m ∧ CF s n m ∧ (∀ K, 67 ≤ K → K ≤ 82 → sA s K = sA σ K) ∧ sF s 11 0 24 = nI srt ∧ srt < 2
theorem mr_r {σ s : St} {n m srt : Nat} (h : MR σ s n m srt) : rtM s = rtM σ ∧ lk s = lk σ ∧ nwM s = nwM σ := by
  have sm := SMz h.2.2.1
  exact ⟨show rtM (mk11 σ s) = rtM σ from SM_rtM sm, show lk (mk11 σ s) = lk σ from lk_c sm, show nwM (mk11 σ s) = nwM σ from sm.f.2.2.1⟩
theorem mr_c {σ s y : St} {n m srt : Nat} (h : MR σ s n m srt) (e1 : sF y = sF s) (e2 : sA y = sA s) : MR σ y n m srt := by
  have sm : SM s y := ⟨by rw [e1], fun K _ _ => by rw [e2]⟩
  exact ⟨RT_c h.1 sm, CF_c h.2.1 (by rw [e2]) sm.f.2.2.2.2.2, fun K h1 h2 => by rw [e2]; exact h.2.2.1 K h1 h2, by rw [e1]; exact h.2.2.2.1, h.2.2.2.2⟩
theorem mwfar_sp {N n m t k i w srt : Nat} {σ s : St} {M : Int32} {Q : Int32 → St → Prop} (hN : 1000 ≤ N) (mr : MR σ s n m srt) (ht : t < n) (hk1 : 1 ≤ k) (hk : k ≤ 60) (hi : k * i < nwM σ t) (hM : ∀ f, rtM σ n M f = rtH σ n (hp σ (nI w) (nI t)) f) (h : Q (wfr σ n m srt t k w i) s) : fX11_windowFar N s (nI t) (nI (k * i)) (nI (k * i + k)) M Q := by
  obtain ⟨er, el, en⟩ := mr_r mr
  obtain ⟨rt, cf', hA, e24, hs⟩ := mr
  obtain ⟨hn, hm, e6, e18, tt, ff⟩ := id rt
  have mt := (tt t ht).1
  have bn : nwM σ t ≤ 100 := by rw [← en]; exact mt.2.1
  have e75 : sA s 75 0 t = nI (nwM σ t) := by rw [mt.2.2.2.1, en]
  unfold fX11_windowFar
  refine lpU (fun q j (y : Int32) => fX11_windowFar_l6 N (nI t) (nI (k * i)) (nI (k * i + k)) M Q _ q s y (nI j)) (fun j y => y = nI (sb (nzs σ) (fun f => dN srt (pr1 σ t k i f) (rtH σ n (hp σ (nI w) (nI t)) f)) j)) m N ?_ ?_ 0 (nI 0) (by omega) (by omega) rfl
  · rintro q y rfl
    simp (disch := omega) only [li0, li1, li2, li3, li4, li5, li6, li12, li13, li14, li15, li16, li17, li32, li33, li39, li60, li65, li90, li91, li93, li97, li100, li122, li126, li200, li800, li1000, li1400, li2800, li3432, li9999, li10000000, ↓lm1, ↓lm2, ↓lm3, ↓lm4, ↓lm9, le_T, le_F, lt_T, lt_F, eq_F, eq_T, vp_T, mle_F, mle_T, mlt_F, mlt_T, meq_F, meq_F', mne, aR, mR, sR', nI_clamp, br_nT, br_nF, ex_s, true_implies, false_implies, not_true_eq_false, not_false_eq_true, true_and, and_true, forall_eq, implies_true, and_self, reduceIte, reduceCtorEq, Nat.reduceEqDiff, Nat.reduceAdd, Nat.reduceMul, Nat.reduceSub, ite_true, ite_false, if_true, if_false, eq_self, and_false, false_and, fa_s, fa_n, cfF, cfA, cfJ, cfB, cfR, mfF, mfA, mfJ, mfB, mfR, c_foundE, m_meetsE, fX11_isSheet, fX11_in, fX10_sheetAt, fX10_sheetAt_b22, fX10_textAt, fX10_textAt_b22, fX11_isText, fX2_has, fX11_isFeature, nar_byte, byte_i, lg_gt, lg_eq, lg_lt, all_A, sF_F, sF_A, sF_J, sF_B, sF_R, sF_all, sA_F, sA_A, sA_J, sA_B, sA_R, sA_all, sJ_F, sJ_A, sJ_J, sJ_B, sJ_R, sJ_all, sB_F, sB_A, sB_J, sB_B, sB_R, sB_all, sR_F, sR_A, sR_J, sR_B, sR_R, sR_all, fX11_windowFar_l6, e18]
    exact h
  · rintro q j y hj rfl K
    have K := K _ rfl
    rw [sb_s] at K
    obtain ⟨so, hso, es⟩ := ff j hj
    have es' : sA σ 79 0 j = nI so := by rw [← hA 79 (by decide) (by decide)]; exact es
    by_cases c : so = 0
    · subst c
      rw [if_neg (by unfold nzs; rw [es']; simp)] at K
      simp (disch := omega) only [li0, li1, li2, li3, li4, li5, li6, li12, li13, li14, li15, li16, li17, li32, li33, li39, li60, li65, li90, li91, li93, li97, li100, li122, li126, li200, li800, li1000, li1400, li2800, li3432, li9999, li10000000, ↓lm1, ↓lm2, ↓lm3, ↓lm4, ↓lm9, le_T, le_F, lt_T, lt_F, eq_F, eq_T, vp_T, mle_F, mle_T, mlt_F, mlt_T, meq_F, meq_F', mne, aR, mR, sR', nI_clamp, br_nT, br_nF, ex_s, true_implies, false_implies, not_true_eq_false, not_false_eq_true, true_and, and_true, forall_eq, implies_true, and_self, reduceIte, reduceCtorEq, Nat.reduceEqDiff, Nat.reduceAdd, Nat.reduceMul, Nat.reduceSub, ite_true, ite_false, if_true, if_false, eq_self, and_false, false_and, fa_s, fa_n, cfF, cfA, cfJ, cfB, cfR, mfF, mfA, mfJ, mfB, mfR, c_foundE, m_meetsE, fX11_isSheet, fX11_in, fX10_sheetAt, fX10_sheetAt_b22, fX10_textAt, fX10_textAt_b22, fX11_isText, fX2_has, fX11_isFeature, nar_byte, byte_i, lg_gt, lg_eq, lg_lt, all_A, sF_F, sF_A, sF_J, sF_B, sF_R, sF_all, sA_F, sA_A, sA_J, sA_B, sA_R, sA_all, sJ_F, sJ_A, sJ_J, sJ_B, sJ_R, sJ_all, sB_F, sB_A, sB_J, sB_B, sB_R, sB_all, sR_F, sR_A, sR_J, sR_B, sR_R, sR_all, fX11_windowFar_l6, fX11_windowFar_b82_6, e18, es]
      exact K
    · have nz : ¬ sA σ 79 0 j = nI 0 := by rw [es']; exact fun e => c ((nI_eq (by omega) (by decide)).mp e)
      rw [if_pos (show nzs σ j = true from decide_eq_true nz)] at K
      have e1 : wct σ t (k * i) (wen σ t k i) j ≤ 100 := Nat.le_trans wct_le (by unfold wen; omega)
      have hw1 : k * i < wen σ t k i ∧ wen σ t k i ≤ 100 := by
        unfold wen; omega
      have fin : ∀ t0, t0 = nI (wen σ t k i) → fX11_windowFar_b45_6 N (nI t) (nI (k * i)) (nI (k * i + k)) M Q (fun (σ : St) (w5 : Int32) (w6 : Int32) => fX11_windowFar_l6 N (nI t) (nI (k * i)) (nI (k * i + k)) M Q (fun (σ13 : St) (u88_5 : Int32) => Q u88_5 σ13) q σ w5 w6) (fun (σ13 : St) (u88_5 : Int32) => Q u88_5 σ13) s (nI (sb (nzs σ) (fun f => dN srt (pr1 σ t k i f) (rtH σ n (hp σ (nI w) (nI t)) f)) j)) (nI j) t0 := by
        intro t0 e0
        subst e0
        unfold fX11_windowFar_b45_6
        refine countIn_sp hN (by omega) (by omega) mt (ff j hj) (by omega) (by omega) ?_
        rw [el, en]
        have ew : min (k * i + k) (nwM σ t) - k * i = wen σ t k i - k * i := rfl
        have ep : 1000 * (ct (fun q => lk σ j t (k * i + q)) (wen σ t k i - k * i)) / (wen σ t k i - k * i) = pr1 σ t k i j := by
          unfold pr1 rvN
          rw [if_neg nz, if_neg (by omega)]
        have cl := ct_le (fun q => lk σ j t (k * i + q)) (wen σ t k i - k * i)
        rw [ew, sR' (by omega)]
        refine ⟨by rw [show (0 : Int32) = nI 0 from rfl, eq_F (by omega) (by omega) (by decide)]; exact id, ?_⟩
        refine rateIn_sp2 hN rt cf' hj ?_
        rw [er, hM j, show (1000 : Int32) = nI 1000 from rfl, mR, nI_div (by omega) (by omega) (by omega), ep]
        refine differing_sp e24 hs (pr1_le bn) ?_ ?_
        · rw [← hM j, ← er]; have := rtM_le (f := j) (x := M) rt; omega
        · unfold fX11_windowFar_b82_6
          rw [nI_add, show nI j + 1 = nI (j + 1) from nI_add j 1]
          exact K
      have nso : ¬ nI so ≤ nI 0 := nI_ge (by omega) (by omega)
      by_cases d : nwM σ t ≤ k * i + k
      · have fin := fin (nI (nwM σ t)) (by unfold wen; rw [Nat.min_eq_right d])
        simp (disch := omega) only [li0, li1, li2, li3, li4, li5, li6, li12, li13, li14, li15, li16, li17, li32, li33, li39, li60, li65, li90, li91, li93, li97, li100, li122, li126, li200, li800, li1000, li1400, li2800, li3432, li9999, li10000000, ↓lm1, ↓lm2, ↓lm3, ↓lm4, ↓lm9, le_T, le_F, lt_T, lt_F, eq_F, eq_T, vp_T, mle_F, mle_T, mlt_F, mlt_T, meq_F, meq_F', mne, aR, mR, sR', nI_clamp, br_nT, br_nF, ex_s, true_implies, false_implies, not_true_eq_false, not_false_eq_true, true_and, and_true, forall_eq, implies_true, and_self, reduceIte, reduceCtorEq, Nat.reduceEqDiff, Nat.reduceAdd, Nat.reduceMul, Nat.reduceSub, ite_true, ite_false, if_true, if_false, eq_self, and_false, false_and, fa_s, fa_n, cfF, cfA, cfJ, cfB, cfR, mfF, mfA, mfJ, mfB, mfR, c_foundE, m_meetsE, fX11_isSheet, fX11_in, fX10_sheetAt, fX10_sheetAt_b22, fX10_textAt, fX10_textAt_b22, fX11_isText, fX2_has, fX11_isFeature, nar_byte, byte_i, lg_gt, lg_eq, lg_lt, all_A, sF_F, sF_A, sF_J, sF_B, sF_R, sF_all, sA_F, sA_A, sA_J, sA_B, sA_R, sA_all, sJ_F, sJ_A, sJ_J, sJ_B, sJ_R, sJ_all, sB_F, sB_A, sB_J, sB_B, sB_R, sB_all, sR_F, sR_A, sR_J, sR_B, sR_R, sR_all, fX11_windowFar_l6, e18, es, e75]
        exact fin
      · have fin := fin (nI (k * i + k)) (by unfold wen; rw [Nat.min_eq_left (by omega)])
        simp (disch := omega) only [li0, li1, li2, li3, li4, li5, li6, li12, li13, li14, li15, li16, li17, li32, li33, li39, li60, li65, li90, li91, li93, li97, li100, li122, li126, li200, li800, li1000, li1400, li2800, li3432, li9999, li10000000, ↓lm1, ↓lm2, ↓lm3, ↓lm4, ↓lm9, le_T, le_F, lt_T, lt_F, eq_F, eq_T, vp_T, mle_F, mle_T, mlt_F, mlt_T, meq_F, meq_F', mne, aR, mR, sR', nI_clamp, br_nT, br_nF, ex_s, true_implies, false_implies, not_true_eq_false, not_false_eq_true, true_and, and_true, forall_eq, implies_true, and_self, reduceIte, reduceCtorEq, Nat.reduceEqDiff, Nat.reduceAdd, Nat.reduceMul, Nat.reduceSub, ite_true, ite_false, if_true, if_false, eq_self, and_false, false_and, fa_s, fa_n, cfF, cfA, cfJ, cfB, cfR, mfF, mfA, mfJ, mfB, mfR, c_foundE, m_meetsE, fX11_isSheet, fX11_in, fX10_sheetAt, fX10_sheetAt_b22, fX10_textAt, fX10_textAt_b22, fX11_isText, fX2_has, fX11_isFeature, nar_byte, byte_i, lg_gt, lg_eq, lg_lt, all_A, sF_F, sF_A, sF_J, sF_B, sF_R, sF_all, sA_F, sA_A, sA_J, sA_B, sA_R, sA_all, sJ_F, sJ_A, sJ_J, sJ_B, sJ_R, sJ_all, sB_F, sB_A, sB_J, sB_B, sB_R, sB_all, sR_F, sR_A, sR_J, sR_B, sR_R, sR_all, fX11_windowFar_l6, e18, es, e75]
        exact fin
theorem min64 (x y : Int64) : (if x < y then x else y) = (if y < x then y else x) := by
  by_cases c : x < y
  · rw [if_pos c, if_neg]
    rw [Int64.lt_iff_toInt_lt] at c ⊢; omega
  · rw [if_neg c]
    by_cases d : y < x
    · rw [if_pos d]
    · rw [if_neg d]
      apply Int64.toInt_inj.mp
      rw [Int64.lt_iff_toInt_lt] at c d
      omega
theorem mstep62 {N n m t k a b j srt : Nat} {σ s : St} {c ch M1 M2 : Int32} {X Y : Int64} {Q : Int32 → St → Prop} {Kh : St → Int32 → Int32 → Int32 → Prop} {Kx : St → Prop} (hN : 1000 ≤ N) (mr : MR σ s n m srt) (ht : t < n) (hk1 : 1 ≤ k) (hk : k ≤ 60) (hj : j < 100) (hi : k * j < nwM σ t) (hM1 : ∀ f, rtM σ n M1 f = rtH σ n (hp σ (nI a) (nI t)) f) (hM2 : ∀ f, rtM σ n M2 f = rtH σ n (hp σ (nI b) (nI t)) f) {p1 p2 : Int64} (e1 : sB s 87 0 (j + 1) = p1) (e2 : sB s 88 0 (j + 1) = p2) (hX : (wfr σ n m srt t k a j).toInt64 + (if p2 + ch.toInt64 < p1 then p2 + ch.toInt64 else p1) = X) (hY : (wfr σ n m srt t k b j).toInt64 + (if p2 < p1 + ch.toInt64 then p2 else p1 + ch.toInt64) = Y) (h : Kh (setB (setB s 87 0 j X) 88 0 j Y) M1 M2 (nI j + mI 1)) : fX11_part_b162_140 N (nI t) (nI k) (nI a) (nI b) c Q Kh Kx s M1 M2 (nI j) ch := by
  have v1 : vp_in (nI j + 1) 101 := by
    rw [show nI j + 1 = nI (j + 1) from nI_add j 1]; exact vp_in_nI (by omega) (by decide)
  have v2 : vp_in (nI j) 101 := vp_in_nI (by omega) (by decide)
  have c1 : (nI j + 1).toNatClampNeg = j + 1 := by
    rw [show nI j + 1 = nI (j + 1) from nI_add j 1, nI_clamp (by omega)]
  have bn : nwM σ t ≤ 100 := by rw [← (mr_r mr).2.2]; exact (mr.1.2.2.2.2.1 t ht).1.2.1
  have mr1 : ∀ z, MR σ (setB s 87 0 j z) n m srt := fun z => mr_c mr (Eq.refl _) (Eq.refl _)
  have ek : nI k * nI j = nI (k * j) := mR
  unfold fX11_part_b162_140
  refine ⟨v1, v1, ?_⟩
  rw [ek, nI_add]
  refine mwfar_sp (w := a) hN mr ht hk1 hk hi hM1 ?_
  have go : ∀ z, (wfr σ n m srt t k a j).toInt64 + z = X → fX11_part_b233_140 N (nI t) (nI k) (nI a) (nI b) c Q Kh Kx s M1 M2 (nI j) ch p1 p2 z (wfr σ n m srt t k a j).toInt64 (nI j) 0 := by
    intro z ez
    unfold fX11_part_b233_140
    refine ⟨v2, fun s4 e4 => ?_⟩
    rw [nI_clamp (by omega), ez] at e4
    rw [ek, nI_add]
    have mr4 : MR σ s4 n m srt := by rw [e4]; exact mr1 X
    refine mwfar_sp (w := b) hN mr4 ht hk1 hk hi hM2 ?_
    unfold fX11_part_b282_140
    have fin : ∀ z, (wfr σ n m srt t k b j).toInt64 + z = Y → ∀ s5, s5 = setB s4 88 0 (nI j).toNatClampNeg ((wfr σ n m srt t k b j).toInt64 + z) → Kh s5 M1 M2 (nI j + -1) := by
      intro z2 ez2 s5 e5
      rw [nI_clamp (by omega), ez2, e4] at e5
      rw [e5]
      exact h
    rw [show (0 : Int32) = nI 0 from rfl, lgc]
    refine ⟨fun g => ⟨v2, fin _ ?_⟩, fun g => ⟨v2, fin _ ?_⟩⟩
    · rw [if_pos g] at hY; exact hY
    · rw [if_neg g] at hY; exact hY
  rw [c1, e1, e2, show (0 : Int32) = nI 0 from rfl, lgc]
  refine ⟨fun g => go _ ?_, fun g => go _ ?_⟩
  · rw [if_pos g] at hX; exact hX
  · rw [if_neg g] at hX; exact hX
