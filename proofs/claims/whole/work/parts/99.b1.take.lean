-- ===== a feature is taken, in the class =====
/-- a state that holds what the reference will hold of a feature -/
def FR (σ : St) (m so : Nat) (v len : Int32) (ls : Nat → Int32) : St := (sF σ, fun K i j => if K = 79 ∧ j = m then nI so else if K = 80 ∧ j = m then v else if K = 81 ∧ j = m then len else if K = 82 ∧ 12 * m ≤ j ∧ j < 12 * m + 12 then ls (j - 12 * m) else sA σ K i j, sJ σ, sB σ, sR σ)
theorem FR_x {σ : St} {m so K i j : Nat} {v len : Int32} {ls : Nat → Int32} (h : ¬ ((K = 79 ∨ K = 80 ∨ K = 81) ∧ j = m)) (h2 : ¬ (K = 82 ∧ 12 * m ≤ j ∧ j < 12 * m + 12)) : sA (FR σ m so v len ls) K i j = sA σ K i j := by
  show (if K = 79 ∧ j = m then nI so else if K = 80 ∧ j = m then v else if K = 81 ∧ j = m then len else if K = 82 ∧ 12 * m ≤ j ∧ j < 12 * m + 12 then ls (j - 12 * m) else sA σ K i j) = sA σ K i j
  rw [if_neg (by omega), if_neg (by omega), if_neg (by omega), if_neg h2]
theorem FR_K {σ : St} {m so K : Nat} {v len : Int32} {ls : Nat → Int32} (h : ¬ (K = 79 ∨ K = 80 ∨ K = 81 ∨ K = 82)) : sA (FR σ m so v len ls) K = sA σ K := funext fun i => funext fun j => FR_x (by omega) (by omega)
theorem FR_79 {σ : St} {m so : Nat} {v len : Int32} {ls : Nat → Int32} : sA (FR σ m so v len ls) 79 0 m = nI so := if_pos ⟨rfl, rfl⟩
theorem FR_80 {σ : St} {m so : Nat} {v len : Int32} {ls : Nat → Int32} : sA (FR σ m so v len ls) 80 0 m = v := by
  show (if 80 = 79 ∧ m = m then nI so else if 80 = 80 ∧ m = m then v else _) = v
  rw [if_neg (by omega), if_pos ⟨rfl, rfl⟩]
theorem FR_81 {σ : St} {m so : Nat} {v len : Int32} {ls : Nat → Int32} : sA (FR σ m so v len ls) 81 0 m = len := by
  show (if 81 = 79 ∧ m = m then nI so else if 81 = 80 ∧ m = m then v else if 81 = 81 ∧ m = m then len else _) = len
  rw [if_neg (by omega), if_neg (by omega), if_pos ⟨rfl, rfl⟩]
theorem FR_82 {σ : St} {m so k : Nat} {v len : Int32} {ls : Nat → Int32} (h : k < 12) : sA (FR σ m so v len ls) 82 0 (12 * m + k) = ls k := by
  show (if 82 = 79 ∧ 12 * m + k = m then nI so else if 82 = 80 ∧ 12 * m + k = m then v else if 82 = 81 ∧ 12 * m + k = m then len else if 82 = 82 ∧ 12 * m ≤ 12 * m + k ∧ 12 * m + k < 12 * m + 12 then ls (12 * m + k - 12 * m) else _) = ls k
  rw [if_neg (by omega), if_neg (by omega), if_neg (by omega), if_pos (by omega), Nat.add_sub_cancel_left]
/-- after the class took it -/
def YF (n m so : Nat) (σ ρ y : St) : Prop := (∀ K i j, ¬ (K = 2 ∧ j = 2) → ¬ (K = 0 ∧ i = m) → ¬ (K = 4 ∧ i = 14) → sF y K i j = sF σ K i j) ∧ sF y 2 0 2 = nI (m + 1) ∧ (∀ K i j, ¬ (K = 28 ∧ i = m) → ¬ ((K = 31 ∨ K = 29) ∧ j = m) → ¬ ((K = 25 ∨ K = 26 ∨ K = 27) ∧ i = 14) → sA y K i j = sA σ K i j) ∧ sJ y = sJ σ ∧ (∀ K i j, sR y K i j = if K = 30 ∧ i = 0 ∧ j = m then some m else sR σ K i j) ∧ FZ y ρ m ∧ sA y 31 0 m = (if so = 0 then 1 else 0) ∧ ∀ t, t < n → sA y 29 t m = nI (cnt ρ m t)
theorem ctake_sp {N n m so : Nat} {σ s ρ : St} {Q : Int32 → St → Prop} (hN : 1000 ≤ N) (hn : n ≤ 14) (hm : m < 12) (hso : so < 4) (g1 : G1 n m σ) (kF : ∀ K i j, ¬ (K = 0 ∧ i = m) → ¬ (K = 4 ∧ i = 14) → sF s K i j = sF σ K i j) (kA : ∀ K i j, ¬ (K = 28 ∧ i = m) → ¬ ((K = 25 ∨ K = 26 ∨ K = 27) ∧ i = 14) → sA s K i j = sA σ K i j) (kJ : sJ s = sJ σ) (kR : sR s = sR σ) (e0 : sF s 0 m 0 = nI so) (fz : FZ s ρ m) (pz : ∀ t, t < n → PZ s ρ t) (h : ∀ y, YF n m so σ ρ y → Q (nI m) y) : fX2_take N s m Q := by
  have e2 : sF s 2 0 2 = nI m := by rw [kF 2 0 2 (by omega) (by omega)]; exact g1.2.2.1
  unfold fX2_take fX2_isFull
  rw [e2]
  refine ⟨fun _ => ⟨fun _ => ?_, fun z => absurd rfl z⟩, fun c => absurd (nI_lt hm (by decide)) c⟩
  rw [e2, nI_clamp (show m < 2 ^ 31 by omega)]
  refine ⟨vp_in_nI hm (by decide), fun s5 e5 => ?_⟩
  have f5 : sF s5 = sF s := by rw [e5]; rfl
  rw [f5, e0, e2]
  have b40 : ∀ x : Nat, x < 2 → x = (if so = 0 then 1 else 0) → fX2_take_b40 N m Q s5 (nI x) (nI m) 0 := by
    intro x hx ex
    unfold fX2_take_b40
    rw [nI_clamp (show m < 2 ^ 31 by omega)]
    refine ⟨vp_in_nI hm (by decide), fun s8 e8 => ?_⟩
    have en : vp_nar .boolean (nI x) = nI x := by
      rcases (show x = 0 ∨ x = 1 by omega) with rfl | rfl <;> decide
    rw [en] at e8
    have f8 : sF s8 = sF s := by rw [e8, sF_A, f5]
    have a8 : ∀ K i, K ≠ 31 → sA s8 K i = sA s K i := fun K i hK => by rw [e8, sAx hK, e5]; rfl
    have r8 : ∀ K i j, sR s8 K i j = if K = 30 ∧ i = 0 ∧ j = m then some m else sR σ K i j := fun K i j => by
      rw [e8, sR_A, e5, sR_R, kR]
    refine lpU (fun k i (y : St) => fX2_take_l43 N m Q _ k y (nI i)) (fun i y => sF y = sF s ∧ sJ y = sJ s ∧ sR y = sR s8 ∧ (∀ K i j, ¬ (K = 29 ∧ j = m) → sA y K i j = sA s8 K i j) ∧ ∀ t, t < i → t < n → sA y 29 t m = nI (cnt ρ m t)) 14 N ?_ ?_ 0 s8 (by omega) (by omega) ⟨f8, by rw [e8, sJ_A, e5, sJ_R], rfl, fun _ _ _ _ => rfl, fun t ht => absurd ht (Nat.not_lt_zero _)⟩
    · rintro k y ⟨q1, q2, q3, q4, q5⟩
      simp only [fX2_take_l43]
      refine ⟨fun _ s19 e19 => ?_, fun c => absurd (nI_le (Nat.le_refl 14) (by decide)) c⟩
      have y2 : sF y 2 0 2 = nI m := by rw [q1]; exact e2
      rw [y2, show nI m + 1 = nI (m + 1) from nI_add m 1] at e19
      rw [y2]
      have a19 : ∀ K i j, ¬ (K = 29 ∧ j = m) → K ≠ 31 → sA s19 K i j = sA s K i j := fun K i j h1 h2 => by
        rw [e19, sA_F, q4 K i j h1, a8 K i h2]
      have f19 : sF s19 0 = sF s 0 := by
        funext i j; rw [e19, sF_F, if_neg (by omega), q1]
      refine h s19 ⟨fun K i j h1 h2 h3 => ?_, ?_, fun K i j h1 h2 h3 => ?_, ?_, fun K i j => ?_, FZ_s fz (by rw [f19]) (funext fun j => a19 28 m j (by omega) (by decide)), ?_, fun t ht => ?_⟩
      · rw [e19, sF_F, if_neg (by omega), q1, kF K i j h2 h3]
      · rw [e19, sF_F, if_pos ⟨rfl, rfl, rfl⟩]
      · by_cases c : K = 31
        · subst c
          rw [e19, sA_F, q4 31 i j (by omega), e8, sA_A, if_neg (by omega), e5, sA_R, kA 31 i j (by omega) (by omega)]
        · rw [a19 K i j (by omega) c, kA K i j h1 h3]
      · rw [e19, sJ_F, q2, kJ]
      · rw [e19, sR_F, q3, r8]
      · rw [e19, sA_F, q4 31 0 m (by omega), e8, sA_A, if_pos ⟨rfl, rfl, rfl⟩, ex]
        by_cases c : so = 0
        · rw [if_pos c, if_pos c]; rfl
        · rw [if_neg c, if_neg c]; rfl
      · rw [e19, sA_F]; exact q5 t (by omega) ht
    · rintro k i y hi ⟨q1, q2, q3, q4, q5⟩ K
      have gr := g1.2.2.2.2.2.1 i
      have er : sR y 21 0 i = if i < n then some i else none := by
        rw [q3, r8, if_neg (by omega)]; exact gr
      simp only [fX2_take_l43, fX2_take_b80_43, nI_clamp (show i < 2 ^ 31 by omega), er]
      refine ⟨fun c => absurd c (nI_ge hi (by decide)), fun _ => ⟨vp_in_nI hi (by decide), fun c => ?_, fun i11 ei => ?_⟩⟩
      · have c' : ¬ i < n := fun z => by rw [if_pos z] at c; cases c
        rw [show nI i + 1 = nI (i + 1) from nI_add i 1]
        exact K y ⟨q1, q2, q3, q4, fun t ht htn => q5 t (by omega) htn⟩
      · have c' : i < n := by
          rcases Nat.lt_or_ge i n with z | z
          · exact z
          · rw [if_neg (by omega)] at ei; cases ei
        rw [if_pos c'] at ei
        obtain rfl := Option.some.inj ei
        have sc : ∀ (c : Int32) (Q : St → Prop), fX7_setCount N y i (nI m) c Q = Q (setA y 29 i m c) := by
          intro c Q
          simp (disch := omega) only [li0, li1, li2, li3, li4, li5, li6, li12, li13, li14, li15, li16, li17, li32, li33, li39, li60, li65, li90, li91, li93, li97, li100, li122, li126, li200, li800, li1000, li1400, li2800, li3432, li9999, li10000000, ↓lm1, ↓lm2, ↓lm3, ↓lm4, ↓lm9, le_T, le_F, lt_T, lt_F, eq_F, eq_T, vp_T, mle_F, mle_T, mlt_F, mlt_T, meq_F, meq_F', mne, aR, mR, sR', nI_clamp, br_nT, br_nF, ex_s, true_implies, false_implies, not_true_eq_false, not_false_eq_true, true_and, and_true, forall_eq, implies_true, and_self, reduceIte, reduceCtorEq, Nat.reduceEqDiff, Nat.reduceAdd, Nat.reduceMul, Nat.reduceSub, ite_true, ite_false, if_true, if_false, eq_self, and_false, false_and, fa_s, fa_n, cfF, cfA, cfJ, cfB, cfR, mfF, mfA, mfJ, mfB, mfR, c_foundE, m_meetsE, nar_byte, byte_i, lg_gt, lg_eq, lg_lt, all_A, sF_F, sF_A, sF_J, sF_B, sF_R, sF_all, sA_F, sA_A, sA_J, sA_B, sA_R, sA_all, sJ_F, sJ_A, sJ_J, sJ_B, sJ_R, sJ_all, sB_F, sB_A, sB_J, sB_B, sB_R, sB_all, sR_F, sR_A, sR_J, sR_B, sR_R, sR_all, fX7_setCount]
        have ya : ∀ K i', K ≠ 29 → K ≠ 31 → sA y K i' = sA s K i' := fun K i' h1 h2 => funext fun j => by rw [q4 K i' j (by omega), a8 K i' h2]
        have y2 : sF y 2 0 2 = nI m := by rw [q1]; exact e2
        refine ccOf_sp2 hN (FZ_s fz (by rw [q1]) (by rw [ya 28 m (by decide) (by decide)])) (PZ_s (pz i c') (by rw [q1]) (by rw [ya 25 i (by decide) (by decide)]) (by rw [ya 26 i (by decide) (by decide)]) (by rw [ya 27 i (by decide) (by decide)])) ?_
        rw [y2, sc, show nI i + 1 = nI (i + 1) from nI_add i 1]
        refine K _ ⟨q1, q2, q3, fun K' i' j' z => ?_, fun t ht htn => ?_⟩
        · rw [sA_A, if_neg (by omega)]; exact q4 K' i' j' z
        · rw [sA_A]
          by_cases c : t = i
          · subst c; rw [if_pos ⟨rfl, rfl, rfl⟩]
          · rw [if_neg (fun q => c q.2.1)]; exact q5 t (by omega) htn
  refine ⟨fun c => b40 0 (by decide) (by rw [if_neg]; intro z; rw [z] at c; exact c rfl), fun c => b40 1 (by decide) (by rw [if_pos]; exact (nI_eq (by omega) (by decide)).mp (show nI so = nI 0 from c))⟩
theorem rc_nar {g : Nat → Int32} {i : Nat} (h : fits .byte (.int (g i)) = true) : vp_nar .byte ((rc g i).toInt8.toInt32) = rc g i := by
  rw [nar_byte, byte_i]
  unfold rc
  split
  · decide
  · obtain ⟨k, hk, e⟩ := byte_e h
    rw [e]; exact sm_b k hk
/-- the class learns a word's letters -/
theorem clearn_sp {N m z a l nw : Nat} {s : St} {g : Nat → Int32} {Q : St → Prop} (hN : 1000 ≤ N) (hz : z ≤ 200) (hn : 1 ≤ nw) (hn2 : nw ≤ 100) (hal : a + l ≤ z) (eg : ∀ i, i < z → fits .byte (.int (g i)) = true) (e4 : sF s 4 14 4 = nI nw) (e26 : sA s 26 14 0 = nI a) (e27 : sA s 27 14 0 = nI l) (e25 : ∀ j, j < z → sA s 25 14 j = rc g j) (h : ∀ y, sF y = sF (setF s 0 m 3 (nI l)) → sJ y = sJ s → sR y = sR s → (∀ K i, ¬ (K = 28 ∧ i = m) → sA y K i = sA s K i) → (∀ k, k < 12 → sA y 28 m k = if k < l then rc g (a + k) else nI 32) → Q y) : fX0_learnWord N s m 14 (0 : Int32) Q := by
  unfold fX0_learnWord
  have el : ∀ Q : Int32 → St → Prop, fX4_lengthOf N s 14 (0 : Int32) Q = Q (nI l) s := by
    intro Q
    simp (disch := omega) only [li0, li1, li2, li3, li4, li5, li6, li12, li13, li14, li15, li16, li17, li32, li33, li39, li60, li65, li90, li91, li93, li97, li100, li122, li126, li200, li800, li1000, li1400, li2800, li3432, li9999, li10000000, ↓lm1, ↓lm2, ↓lm3, ↓lm4, ↓lm9, le_T, le_F, lt_T, lt_F, eq_F, eq_T, vp_T, mle_F, mle_T, mlt_F, mlt_T, meq_F, meq_F', mne, aR, mR, sR', nI_clamp, br_nT, br_nF, ex_s, true_implies, false_implies, not_true_eq_false, not_false_eq_true, true_and, and_true, forall_eq, implies_true, and_self, reduceIte, reduceCtorEq, Nat.reduceEqDiff, Nat.reduceAdd, Nat.reduceMul, Nat.reduceSub, ite_true, ite_false, if_true, if_false, eq_self, and_false, false_and, fa_s, fa_n, cfF, cfA, cfJ, cfB, cfR, mfF, mfA, mfJ, mfB, mfR, c_foundE, m_meetsE, nar_byte, byte_i, lg_gt, lg_eq, lg_lt, all_A, sF_F, sF_A, sF_J, sF_B, sF_R, sF_all, sA_F, sA_A, sA_J, sA_B, sA_R, sA_all, sJ_F, sJ_A, sJ_J, sJ_B, sJ_R, sJ_all, sB_F, sB_A, sB_J, sB_B, sB_R, sB_all, sR_F, sR_A, sR_J, sR_B, sR_R, sR_all, fX4_lengthOf, e4, e27]
  rw [el]
  intro s3 e3
  have f3 : sF s3 = sF (setF s 0 m 3 (nI l)) := by rw [e3]
  refine lpU (fun k i (y : St) => fX0_learnWord_l11 N m 14 (0 : Int32) Q _ k y (nI i)) (fun i y => sF y = sF (setF s 0 m 3 (nI l)) ∧ sJ y = sJ s ∧ sR y = sR s ∧ (∀ K i, ¬ (K = 28 ∧ i = m) → sA y K i = sA s K i) ∧ ∀ k, k < i → sA y 28 m k = if k < l then rc g (a + k) else nI 32) 12 N ?_ ?_ 0 s3 (by omega) (by omega) ⟨f3, by rw [e3, sJ_F], by rw [e3, sR_F], fun _ _ _ => by rw [e3, sA_F], fun k hk => absurd hk (Nat.not_lt_zero _)⟩
  · rintro k y ⟨q1, q2, q3, q4, q5⟩
    simp only [fX0_learnWord_l11]
    exact ⟨fun _ => h y q1 q2 q3 q4 q5, fun c => absurd (nI_le (Nat.le_refl 12) (by decide)) c⟩
  · rintro k i y hi ⟨q1, q2, q3, q4, q5⟩ K
    have y4 : sF y 4 14 4 = nI nw := by rw [q1, sF_F, if_neg (by omega)]; exact e4
    have y26 : sA y 26 14 0 = nI a := by rw [q4 26 14 (by omega)]; exact e26
    have y27 : sA y 27 14 0 = nI l := by rw [q4 27 14 (by omega)]; exact e27
    have ex : ∀ x : Int32, x = (if i < l then rc g (a + i) else nI 32) → vp_nar .byte (x.toInt8.toInt32) = x := by
      intro x e
      by_cases c : i < l
      · rw [if_pos c] at e; rw [e]; exact rc_nar (eg _ (by omega))
      · rw [if_neg c] at e; rw [e]; decide
    have lo : ∀ Q : Int32 → St → Prop, fX4_letterOf N y 14 (0 : Int32) (nI i) Q = Q (if i < l then rc g (a + i) else nI 32) y := by
      intro Q
      by_cases c : i < l
      · have y25 : sA y 25 14 (a + i) = rc g (a + i) := by rw [q4 25 14 (by omega)]; exact e25 _ (by omega)
        rw [if_pos c]
        simp (disch := omega) only [li0, li1, li2, li3, li4, li5, li6, li12, li13, li14, li15, li16, li17, li32, li33, li39, li60, li65, li90, li91, li93, li97, li100, li122, li126, li200, li800, li1000, li1400, li2800, li3432, li9999, li10000000, ↓lm1, ↓lm2, ↓lm3, ↓lm4, ↓lm9, le_T, le_F, lt_T, lt_F, eq_F, eq_T, vp_T, mle_F, mle_T, mlt_F, mlt_T, meq_F, meq_F', mne, aR, mR, sR', nI_clamp, br_nT, br_nF, ex_s, true_implies, false_implies, not_true_eq_false, not_false_eq_true, true_and, and_true, forall_eq, implies_true, and_self, reduceIte, reduceCtorEq, Nat.reduceEqDiff, Nat.reduceAdd, Nat.reduceMul, Nat.reduceSub, ite_true, ite_false, if_true, if_false, eq_self, and_false, false_and, fa_s, fa_n, cfF, cfA, cfJ, cfB, cfR, mfF, mfA, mfJ, mfB, mfR, c_foundE, m_meetsE, nar_byte, byte_i, lg_gt, lg_eq, lg_lt, all_A, sF_F, sF_A, sF_J, sF_B, sF_R, sF_all, sA_F, sA_A, sA_J, sA_B, sA_R, sA_all, sJ_F, sJ_A, sJ_J, sJ_B, sJ_R, sJ_all, sB_F, sB_A, sB_J, sB_B, sB_R, sB_all, sR_F, sR_A, sR_J, sR_B, sR_R, sR_all, fX4_letterOf, y4, y26, y27, y25]
      · rw [if_neg c]
        simp (disch := omega) only [li0, li1, li2, li3, li4, li5, li6, li12, li13, li14, li15, li16, li17, li32, li33, li39, li60, li65, li90, li91, li93, li97, li100, li122, li126, li200, li800, li1000, li1400, li2800, li3432, li9999, li10000000, ↓lm1, ↓lm2, ↓lm3, ↓lm4, ↓lm9, le_T, le_F, lt_T, lt_F, eq_F, eq_T, vp_T, mle_F, mle_T, mlt_F, mlt_T, meq_F, meq_F', mne, aR, mR, sR', nI_clamp, br_nT, br_nF, ex_s, true_implies, false_implies, not_true_eq_false, not_false_eq_true, true_and, and_true, forall_eq, implies_true, and_self, reduceIte, reduceCtorEq, Nat.reduceEqDiff, Nat.reduceAdd, Nat.reduceMul, Nat.reduceSub, ite_true, ite_false, if_true, if_false, eq_self, and_false, false_and, fa_s, fa_n, cfF, cfA, cfJ, cfB, cfR, mfF, mfA, mfJ, mfB, mfR, c_foundE, m_meetsE, nar_byte, byte_i, lg_gt, lg_eq, lg_lt, all_A, sF_F, sF_A, sF_J, sF_B, sF_R, sF_all, sA_F, sA_A, sA_J, sA_B, sA_R, sA_all, sJ_F, sJ_A, sJ_J, sJ_B, sJ_R, sJ_all, sB_F, sB_A, sB_J, sB_B, sB_R, sB_all, sR_F, sR_A, sR_J, sR_B, sR_R, sR_all, fX4_letterOf, y4, y26, y27]
    simp only [fX0_learnWord_l11, lo, nI_clamp (show i < 2 ^ 31 by omega)]
    refine ⟨fun c => absurd c (nI_ge hi (by decide)), fun _ => ⟨vp_in_nI hi (by decide), fun s9 e9 => ?_⟩⟩
    rw [ex _ rfl] at e9
    rw [show nI i + 1 = nI (i + 1) from nI_add i 1]
    refine K s9 ⟨by rw [e9, sF_A]; exact q1, by rw [e9, sJ_A]; exact q2, by rw [e9, sR_A]; exact q3, fun K' i' z => ?_, fun k hk => ?_⟩
    · rw [← q4 K' i' z, e9]
      funext j
      rw [sA_A, if_neg (fun q => z ⟨q.1, q.2.1⟩)]
    · rw [e9, sA_A]
      by_cases c : k = i
      · subst c; rw [if_pos ⟨rfl, rfl, rfl⟩]
      · rw [if_neg (fun q => c q.2.2)]; exact q5 k (by omega)
