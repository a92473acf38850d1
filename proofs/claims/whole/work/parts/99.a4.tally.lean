-- ===== a text's tally, in the class =====
theorem PZ_s {s y ρ : St} {t : Nat} (h : PZ s ρ t) (e : sF y 4 t = sF s 4 t) (e5 : sA y 25 t = sA s 25 t) (e6 : sA y 26 t = sA s 26 t) (e7 : sA y 27 t = sA s 27 t) : PZ y ρ t := by
  unfold PZ; rw [e, e5, e6, e7]; exact h
theorem FZ_s {s y ρ : St} {f : Nat} (h : FZ s ρ f) (e : sF y 0 f = sF s 0 f) (e8 : sA y 28 f = sA s 28 f) : FZ y ρ f := by
  unfold FZ; rw [e, e8]; exact h
def YT (t : Nat) (s y : St) : Prop := sF y = sF s ∧ sJ y = sJ s ∧ sB y = sB s ∧ sR y = sR s ∧ ∀ K i, ¬ (K = 29 ∧ i = t) → sA y K i = sA s K i
theorem ctal_sp {N m t a b : Nat} {s ρ : St} {Q : St → Prop} (hN : 1000 ≤ N) (hm : m ≤ 12) (e2 : sF s 2 0 2 = nI m) (er : ∀ p, p < m → sR s 30 0 p = some p) (en : sF s 4 t 4 = nI a) (em : sF s 4 t 6 = nI b) (fs : ∀ f, f < m → FZ s ρ f) (ps : PZ s ρ t) (h : ∀ y, YT t (setF (setF s 7 t 1 (nI a)) 7 t 2 (nI b)) y → (∀ f, f < m → sA y 29 t f = nI (cnt ρ f t)) → Q y) : fX2_tallyText N s t Q := by
  unfold fX2_tallyText
  intro s1 e1 s2 e3
  have h2 : s2 = setF (setF s 7 t 1 (nI a)) 7 t 2 (nI b) := by
    rw [e3, e1, en, show sF (setF s 7 t 1 (nI a)) 4 t 6 = sF s 4 t 6 from by rw [sF_F, if_neg (by omega)], em]
  clear e1 e3
  rw [← h2] at h
  have k4 : sF s2 4 = sF s 4 := by funext i j; rw [h2, sF_F, if_neg (by omega), sF_F, if_neg (by omega)]
  have k0 : sF s2 0 = sF s 0 := by funext i j; rw [h2, sF_F, if_neg (by omega), sF_F, if_neg (by omega)]
  have k2 : sF s2 2 = sF s 2 := by funext i j; rw [h2, sF_F, if_neg (by omega), sF_F, if_neg (by omega)]
  have kA : sA s2 = sA s := by rw [h2]; rfl
  have kR : sR s2 = sR s := by rw [h2]; rfl
  refine lpU (fun k i (y : St) => fX2_tallyText_l30 N t Q _ k y (nI i)) (fun i y => YT t s2 y ∧ ∀ f, f < i → sA y 29 t f = nI (cnt ρ f t)) m N ?_ ?_ 0 s2 (by omega) (by omega) ⟨⟨rfl, rfl, rfl, rfl, fun _ _ _ => rfl⟩, fun f hf => absurd hf (by omega)⟩
  · rintro k y ⟨yt, cf'⟩
    have e : sF y 2 0 2 = nI m := by rw [yt.1, k2]; exact e2
    simp only [fX2_tallyText_l30, e]
    exact ⟨fun _ => h y yt cf', fun c => absurd (nI_le (Nat.le_refl m) (by omega)) c⟩
  · rintro k i y hi ⟨yt, cf'⟩ K
    have e : sF y 2 0 2 = nI m := by rw [yt.1, k2]; exact e2
    have r : sR y 30 0 i = some i := by rw [yt.2.2.2.1, kR]; exact er i hi
    have fa : ∀ Q : Option Nat → St → Prop, fX2_featureAt N y (nI i) Q = Q (some i) y := by
      intro Q
      simp (disch := omega) only [li0, li1, li2, li3, li4, li5, li6, li12, li13, li14, li15, li16, li17, li32, li33, li39, li60, li65, li90, li91, li93, li97, li100, li122, li126, li200, li800, li1000, li1400, li2800, li3432, li9999, li10000000, ↓lm1, ↓lm2, ↓lm3, ↓lm4, ↓lm9, le_T, le_F, lt_T, lt_F, eq_F, eq_T, vp_T, mle_F, mle_T, mlt_F, mlt_T, meq_F, meq_F', mne, aR, mR, sR', nI_clamp, br_nT, br_nF, ex_s, true_implies, false_implies, not_true_eq_false, not_false_eq_true, true_and, and_true, forall_eq, implies_true, and_self, reduceIte, reduceCtorEq, Nat.reduceEqDiff, Nat.reduceAdd, Nat.reduceMul, Nat.reduceSub, ite_true, ite_false, if_true, if_false, eq_self, and_false, false_and, fa_s, fa_n, cfF, cfA, cfJ, cfB, cfR, mfF, mfA, mfJ, mfB, mfR, c_foundE, m_meetsE, nar_byte, byte_i, lg_gt, lg_eq, lg_lt, all_A, sF_F, sF_A, sF_J, sF_B, sF_R, sF_all, sA_F, sA_A, sA_J, sA_B, sA_R, sA_all, sJ_F, sJ_A, sJ_J, sJ_B, sJ_R, sJ_all, sB_F, sB_A, sB_J, sB_B, sB_R, sB_all, sR_F, sR_A, sR_J, sR_B, sR_R, sR_all, fX2_featureAt, r]
    have sc : ∀ (c : Int32) (Q : St → Prop), fX7_setCount N y t (nI i) c Q = Q (setA y 29 t i c) := by
      intro c Q
      simp (disch := omega) only [li0, li1, li2, li3, li4, li5, li6, li12, li13, li14, li15, li16, li17, li32, li33, li39, li60, li65, li90, li91, li93, li97, li100, li122, li126, li200, li800, li1000, li1400, li2800, li3432, li9999, li10000000, ↓lm1, ↓lm2, ↓lm3, ↓lm4, ↓lm9, le_T, le_F, lt_T, lt_F, eq_F, eq_T, vp_T, mle_F, mle_T, mlt_F, mlt_T, meq_F, meq_F', mne, aR, mR, sR', nI_clamp, br_nT, br_nF, ex_s, true_implies, false_implies, not_true_eq_false, not_false_eq_true, true_and, and_true, forall_eq, implies_true, and_self, reduceIte, reduceCtorEq, Nat.reduceEqDiff, Nat.reduceAdd, Nat.reduceMul, Nat.reduceSub, ite_true, ite_false, if_true, if_false, eq_self, and_false, false_and, fa_s, fa_n, cfF, cfA, cfJ, cfB, cfR, mfF, mfA, mfJ, mfB, mfR, c_foundE, m_meetsE, nar_byte, byte_i, lg_gt, lg_eq, lg_lt, all_A, sF_F, sF_A, sF_J, sF_B, sF_R, sF_all, sA_F, sA_A, sA_J, sA_B, sA_R, sA_all, sJ_F, sJ_A, sJ_J, sJ_B, sJ_R, sJ_all, sB_F, sB_A, sB_J, sB_B, sB_R, sB_all, sR_F, sR_A, sR_J, sR_B, sR_R, sR_all, fX7_setCount]
    simp only [fX2_tallyText_l30, fX2_tallyText_b64_30, e, fa]
    refine ⟨fun c => absurd c (nI_ge hi (by omega)), fun _ => ⟨fun z => (by cases z), fun i10 ei => ?_⟩⟩
    obtain rfl := Option.some.inj ei
    refine ccOf_sp2 hN (FZ_s (fs i hi) (by rw [yt.1, k0]) (by rw [yt.2.2.2.2 28 i (by omega), kA])) (PZ_s ps (by rw [yt.1, k4]) (by rw [yt.2.2.2.2 25 t (by omega), kA]) (by rw [yt.2.2.2.2 26 t (by omega), kA]) (by rw [yt.2.2.2.2 27 t (by omega), kA])) ?_
    rw [sc, show nI i + 1 = nI (i + 1) from nI_add i 1]
    refine K _ ⟨⟨yt.1, yt.2.1, yt.2.2.1, yt.2.2.2.1, fun K' i' z => ?_⟩, fun f hf => ?_⟩
    · rw [← yt.2.2.2.2 K' i' z]
      funext j
      rw [sA_A, if_neg (fun q => z ⟨q.1, q.2.1⟩)]
    · rw [sA_A]
      by_cases c : f = i
      · subst c; rw [if_pos ⟨rfl, rfl, rfl⟩]
      · rw [if_neg (fun q => c q.2.2)]; exact cf' f (by omega)
/-- a state that holds what the reference will hold of a text -/
def TRd (σ : St) (t z : Nat) (g : Nat → Int32) : St := (sF σ, fun K i j => if K = 71 ∧ j = t then nI z else if K = 75 ∧ j = t then nI (rnw g z) else if K = 72 ∧ 200 * t ≤ j ∧ j < 200 * t + 200 then rc g (j - 200 * t) else if K = 76 ∧ 100 * t ≤ j ∧ j < 100 * t + 100 then nI (wA g z (j - 100 * t)) else if K = 77 ∧ 100 * t ≤ j ∧ j < 100 * t + 100 then nI (wL g z (j - 100 * t)) else sA σ K i j, sJ σ, sB σ, sR σ)
theorem TRd_x {σ : St} {t z K : Nat} {g : Nat → Int32} (h : ¬ (K = 71 ∨ K = 75 ∨ K = 72 ∨ K = 76 ∨ K = 77)) : sA (TRd σ t z g) K = sA σ K := by
  funext i j
  show (if K = 71 ∧ j = t then nI z else if K = 75 ∧ j = t then nI (rnw g z) else if K = 72 ∧ 200 * t ≤ j ∧ j < 200 * t + 200 then rc g (j - 200 * t) else if K = 76 ∧ 100 * t ≤ j ∧ j < 100 * t + 100 then nI (wA g z (j - 100 * t)) else if K = 77 ∧ 100 * t ≤ j ∧ j < 100 * t + 100 then nI (wL g z (j - 100 * t)) else sA σ K i j) = sA σ K i j
  rw [if_neg (by omega), if_neg (by omega), if_neg (by omega), if_neg (by omega), if_neg (by omega)]
theorem TRd_71 {σ : St} {t z : Nat} {g : Nat → Int32} : sA (TRd σ t z g) 71 0 t = nI z := if_pos ⟨rfl, rfl⟩
theorem TRd_75 {σ : St} {t z : Nat} {g : Nat → Int32} : sA (TRd σ t z g) 75 0 t = nI (rnw g z) := by
  show (if 75 = 71 ∧ t = t then nI z else if 75 = 75 ∧ t = t then nI (rnw g z) else _) = nI (rnw g z)
  rw [if_neg (by omega), if_pos ⟨rfl, rfl⟩]
theorem TRd_72 {σ : St} {t z i : Nat} {g : Nat → Int32} (h : i < 200) : sA (TRd σ t z g) 72 0 (200 * t + i) = rc g i := by
  show (if 72 = 71 ∧ 200 * t + i = t then nI z else if 72 = 75 ∧ 200 * t + i = t then nI (rnw g z) else if 72 = 72 ∧ 200 * t ≤ 200 * t + i ∧ 200 * t + i < 200 * t + 200 then rc g (200 * t + i - 200 * t) else _) = rc g i
  rw [if_neg (by omega), if_neg (by omega), if_pos (by omega), Nat.add_sub_cancel_left]
theorem TRd_76 {σ : St} {t z w : Nat} {g : Nat → Int32} (h : w < 100) : sA (TRd σ t z g) 76 0 (100 * t + w) = nI (wA g z w) := by
  show (if 76 = 71 ∧ 100 * t + w = t then nI z else if 76 = 75 ∧ 100 * t + w = t then nI (rnw g z) else if 76 = 72 ∧ 200 * t ≤ 100 * t + w ∧ 100 * t + w < 200 * t + 200 then rc g (100 * t + w - 200 * t) else if 76 = 76 ∧ 100 * t ≤ 100 * t + w ∧ 100 * t + w < 100 * t + 100 then nI (wA g z (100 * t + w - 100 * t)) else _) = nI (wA g z w)
  rw [if_neg (by omega), if_neg (by omega), if_neg (by omega), if_pos (by omega), Nat.add_sub_cancel_left]
theorem TRd_77 {σ : St} {t z w : Nat} {g : Nat → Int32} (h : w < 100) : sA (TRd σ t z g) 77 0 (100 * t + w) = nI (wL g z w) := by
  show (if 77 = 71 ∧ 100 * t + w = t then nI z else if 77 = 75 ∧ 100 * t + w = t then nI (rnw g z) else if 77 = 72 ∧ 200 * t ≤ 100 * t + w ∧ 100 * t + w < 200 * t + 200 then rc g (100 * t + w - 200 * t) else if 77 = 76 ∧ 100 * t ≤ 100 * t + w ∧ 100 * t + w < 100 * t + 100 then nI (wA g z (100 * t + w - 100 * t)) else if 77 = 77 ∧ 100 * t ≤ 100 * t + w ∧ 100 * t + w < 100 * t + 100 then nI (wL g z (100 * t + w - 100 * t)) else _) = nI (wL g z w)
  rw [if_neg (by omega), if_neg (by omega), if_neg (by omega), if_neg (by omega), if_pos (by omega), Nat.add_sub_cancel_left]
/-- what the reference holds of a text that was read -/
def Rdd (ρ : St) (t z : Nat) (g : Nat → Int32) : Prop := sA ρ 71 0 t = nI z ∧ sA ρ 75 0 t = nI (rnw g z) ∧ (∀ i, i < z → sA ρ 72 0 (200 * t + i) = rc g i) ∧ ∀ w, w < rnw g z → sA ρ 76 0 (100 * t + w) = nI (wA g z w) ∧ sA ρ 77 0 (100 * t + w) = nI (wL g z w)
theorem rd_b {g : Nat → Int32} {z : Nat} (hz : z ≤ 200) : rnw g z ≤ 100 ∧ ∀ w, w < rnw g z → 1 ≤ wL g z w ∧ wA g z w + wL g z w ≤ z := by
  have ri := RI_all g z
  exact ⟨by have := ri.1; omega, ri.2.2.2.1⟩
theorem rd_ln {ρ : St} {t z : Nat} {g : Nat → Int32} (hz : z ≤ 200) (h : Rdd ρ t z g) : lnM ρ t = z ∧ nwM ρ t = rnw g z ∧ ∀ w, w < rnw g z → waM ρ t w = wA g z w ∧ wlM ρ t w = wL g z w := by
  have b := rd_b (g := g) hz
  refine ⟨?_, ?_, fun w hw => ⟨?_, ?_⟩⟩
  · unfold lnM; rw [h.1, nI_clamp (by omega)]
  · unfold nwM; rw [h.2.1, nI_clamp (by omega)]
  · have := b.2 w hw
    unfold waM; rw [(h.2.2.2 w hw).1, nI_clamp (by omega)]
  · have := b.2 w hw
    unfold wlM; rw [(h.2.2.2 w hw).2, nI_clamp (by omega)]
theorem rd_TR {σ : St} {t z : Nat} {g : Nat → Int32} (hz : z ≤ 200) : Rdd (TRd σ t z g) t z g := by
  have b := rd_b (g := g) hz
  exact ⟨TRd_71, TRd_75, fun i hi => TRd_72 (by omega), fun w hw => ⟨TRd_76 (by omega), TRd_77 (by omega)⟩⟩
/-- the class's prose beside it -/
theorem PZ_rd {y ρ : St} {t z : Nat} {g : Nat → Int32} (hz : z ≤ 200) (h : Rdd ρ t z g) (e3 : sF y 4 t 3 = nI z) (e4 : sF y 4 t 4 = nI (rnw g z)) (e5 : ∀ j, j < z → sA y 25 t j = rc g j) (ew : ∀ w, w < rnw g z → sA y 26 t w = nI (wA g z w) ∧ sA y 27 t w = nI (wL g z w)) : PZ y ρ t := by
  have b := rd_b (g := g) hz
  obtain ⟨q1, q2, q3⟩ := rd_ln hz h
  unfold PZ
  rw [q1, q2]
  refine ⟨⟨hz, b.1⟩, ⟨h.1, h.2.1⟩, ⟨e3, e4⟩, fun i hi => by rw [e5 i hi, h.2.2.1 i hi], fun w hw => ?_⟩
  rw [(q3 w hw).1, (q3 w hw).2]
  exact ⟨(ew w hw).1, (h.2.2.2 w hw).1, (ew w hw).2, (h.2.2.2 w hw).2, (b.2 w hw).1, (b.2 w hw).2⟩
theorem cnt_rd {ρ ρ' : St} {f t z : Nat} {g : Nat → Int32} (hz : z ≤ 200) (h : Rdd ρ t z g) (h' : Rdd ρ' t z g) (hf : FQ ρ ρ' f) : cnt ρ' f t = cnt ρ f t := by
  have b := rd_b (g := g) hz
  obtain ⟨q1, q2, q3⟩ := rd_ln hz h
  obtain ⟨p1, p2, p3⟩ := rd_ln hz h'
  unfold cnt
  rw [hf.1, hf.2.1, p1, p2, q1, q2]
  have el : ∀ w, w < rnw g z → lk ρ' f t w = lk ρ f t w := by
    intro w hw
    have bw := b.2 w hw
    unfold lk
    rw [(p3 w hw).1, (p3 w hw).2, (q3 w hw).1, (q3 w hw).2, hf.1, hf.2.1, hf.2.2.1, (h.2.2.2 w hw).2, (h'.2.2.2 w hw).2]
    have e1 : sA ρ' 72 0 (200 * t + wA g z w + wL g z w - 1) = sA ρ 72 0 (200 * t + wA g z w + wL g z w - 1) := by
      rw [show 200 * t + wA g z w + wL g z w - 1 = 200 * t + (wA g z w + wL g z w - 1) by omega, h.2.2.1 _ (by omega), h'.2.2.1 _ (by omega)]
    rw [e1]
    have e2 : ((List.range 12).all (fun k => decide (k < wL g z w → sA ρ' 72 0 (200 * t + wA g z w + k) = sA ρ' 82 0 (12 * f + k)))) = ((List.range 12).all (fun k => decide (k < wL g z w → sA ρ 72 0 (200 * t + wA g z w + k) = sA ρ 82 0 (12 * f + k)))) := by
      rw [Bool.eq_iff_iff]
      simp only [List.all_eq_true, List.mem_range, decide_eq_true_eq]
      have e : ∀ k, k < 12 → k < wL g z w → (sA ρ' 72 0 (200 * t + wA g z w + k) = sA ρ' 82 0 (12 * f + k) ↔ sA ρ 72 0 (200 * t + wA g z w + k) = sA ρ 82 0 (12 * f + k)) := by
        intro k hk hk2
        rw [hf.2.2.2 k hk, show 200 * t + wA g z w + k = 200 * t + (wA g z w + k) by omega, h.2.2.1 _ (by omega), h'.2.2.1 _ (by omega)]
      exact ⟨fun h k hk hk2 => (e k hk hk2).mp (h k hk hk2), fun h k hk hk2 => (e k hk hk2).mpr (h k hk hk2)⟩
    rw [e2]
  rw [ct_c (p := lk ρ' f t) (q := lk ρ f t) (rnw g z) el]
  rw [ct_c (p := fun i => decide (sA ρ' 72 0 (200 * t + i) = sA ρ 80 0 f)) (q := fun i => decide (sA ρ 72 0 (200 * t + i) = sA ρ 80 0 f)) z (fun i hi => by rw [h.2.2.1 i hi, h'.2.2.1 i hi])]
