def s1L : List (Nat × Nat) → Nat
  | [] => 0
  | x :: l => x.1 + s1L l
def s2L : List (Nat × Nat) → Nat
  | [] => 0
  | x :: l => x.2 + s2L l
theorem s1L_a (l : List (Nat × Nat)) (x : Nat × Nat) : s1L (l ++ [x]) = s1L l + x.1 := by
  induction l with
  | nil => show x.1 + 0 = 0 + x.1; omega
  | cons y l ih => show y.1 + s1L (l ++ [x]) = y.1 + s1L l + x.1; rw [ih]; omega
theorem s2L_a (l : List (Nat × Nat)) (x : Nat × Nat) : s2L (l ++ [x]) = s2L l + x.2 := by
  induction l with
  | nil => show x.2 + 0 = 0 + x.2; omega
  | cons y l ih => show y.2 + s2L (l ++ [x]) = y.2 + s2L l + x.2; rw [ih]; omega
/-- all but the shuffles' own is kept -/
def XR (σ s : St) : Prop := (∀ K, K ≠ 6 → sF s K = sF σ K) ∧ (∀ K, (K < 45 ∨ 49 < K) → sA s K = sA σ K) ∧ sJ s = sJ σ ∧ sB s = sB σ ∧ sR s = sR σ ∧ sA s 48 0 0 = sA σ 48 0 0 ∧ sA s 49 0 0 = sA σ 49 0 0
theorem XR.rfl' {σ : St} : XR σ σ := ⟨fun _ _ => rfl, fun _ _ => rfl, rfl, rfl, rfl, rfl, rfl⟩
theorem XR.trans {a b c : St} (h1 : XR a b) (h2 : XR b c) : XR a c := ⟨fun K e => (h2.1 K e).trans (h1.1 K e), fun K e => (h2.2.1 K e).trans (h1.2.1 K e), h2.2.2.1.trans h1.2.2.1, h2.2.2.2.1.trans h1.2.2.2.1, h2.2.2.2.2.1.trans h1.2.2.2.2.1, h2.2.2.2.2.2.1.trans h1.2.2.2.2.2.1, h2.2.2.2.2.2.2.trans h1.2.2.2.2.2.2⟩
theorem xr_F {s : St} {i j : Nat} {x : Int32} : XR s (setF s 6 i j x) := ⟨fun K e => sFx e, fun _ _ => rfl, rfl, rfl, rfl, rfl, rfl⟩
theorem xr_A {s : St} {K j : Nat} {x : Int32} (h : 45 ≤ K) (h2 : K ≤ 49) (h3 : K < 48 ∨ j ≠ 0) : XR s (setA s K 0 j x) := by
  refine ⟨fun _ _ => rfl, fun K' e => sAx (by omega), rfl, rfl, rfl, ?_, ?_⟩
  · rw [sA_A, if_neg (fun z => by omega)]
  · rw [sA_A, if_neg (fun z => by omega)]
theorem XR.sm {a b : St} (h : XR a b) : SM a b := ⟨h.1 11 (by decide), fun K h1 h2 => h.2.1 K (by omega)⟩
theorem CT_x {σ s : St} {n m : Nat} (h : CT σ n m) (x : XR σ s) : CT s n m := by
  obtain ⟨hn, hm, g1, g4, g5, g6⟩ := h
  obtain ⟨kF, kA, eJ, eB, eR, -⟩ := x
  have a := fun (K : Nat) (e : decide (K < 45 ∨ 49 < K) = true) => kA K (of_decide_eq_true e)
  exact ⟨hn, hm, G1_c g1 (by rw [kF 10 (by decide)]) (by rw [kF 11 (by decide)]) (by rw [kF 2 (by decide)]) (by rw [kF 11 (by decide)]) eR (a _ rfl), G4_c g4 (kF _ (by decide)) (kF _ (by decide)) (kF _ (by decide)) (a _ rfl) (a _ rfl) (a _ rfl) (a _ rfl) (a _ rfl) (a _ rfl) (a _ rfl) (a _ rfl) (a _ rfl) (a _ rfl) (a _ rfl) (a _ rfl) (a _ rfl) (a _ rfl), G5_c g5 (kF _ (by decide)) (a _ rfl) (a _ rfl) (a _ rfl) (a _ rfl) (a _ rfl) (a _ rfl), G6_c g6 (fun _ _ => by rw [a 29 rfl]) (a _ rfl) (a _ rfl) (a _ rfl) (a _ rfl) (a _ rfl) (a _ rfl) (a _ rfl) (a _ rfl) (a _ rfl)⟩
theorem inv_x {σ s : St} {L : List (Nat × Nat)} (h : Inv σ L) (x : XR σ s) : Inv s L := by
  obtain ⟨n, m, hn, hm, gl, g1, g2, g3, g4, g5, g6, g7, g8⟩ := h
  obtain ⟨-, -, c1, c4, c5, c6⟩ := CT_x ⟨hn, hm, g1, g4, g5, g6⟩ x
  obtain ⟨kF, kA, eJ, eB, eR, e48, e49⟩ := x
  have a := fun (K : Nat) (e : decide (K < 45 ∨ 49 < K) = true) => kA K (of_decide_eq_true e)
  exact ⟨n, m, hn, hm, gl, c1, G2_c g2 (fun _ => by rw [kF 5 (by decide)]) (a _ rfl) (a _ rfl) (a _ rfl), ⟨by rw [kF 10 (by decide), kF 11 (by decide)]; exact g3.1, fun f => by rw [a 22 rfl, a 61 rfl]; exact g3.2.1 f, by rw [kF 2 (by decide), kF 11 (by decide)]; exact g3.2.2.1, by rw [kF 11 (by decide)]; exact g3.2.2.2.1, by rw [eJ]; exact g3.2.2.2.2⟩, c4, c5, c6, G7_c g7 (by rw [kF 3 (by decide)]) (by rw [kF 11 (by decide)]) (a _ rfl) (a _ rfl), G8_c g8 (by rw [kF 9 (by decide)]) (by rw [kF 11 (by decide)]) (a _ rfl) (a _ rfl) (a _ rfl) (a _ rfl) e48 e49⟩
/-- the texts that were added -/
def CL (s : St) (l : List (Nat × Nat)) : Prop := l.length ≤ 14 ∧ sF s 6 0 5 = nI l.length ∧ (∀ j y, l[j]? = some y → sA s 45 0 j = nI y.1 ∧ sA s 46 0 j = nI y.2) ∧ sF s 6 0 7 = nI (s1L l) ∧ sF s 6 0 8 = nI (s2L l)
theorem whole_sp {N n m f t : Nat} {σ s : St} {Q : Int32 → St → Prop} (hm : m ≤ 12) (hf : f < m) (ht : t < n) (ct' : CT σ n m) (sm : SM σ s) (cs : CT s n m) (h : Q (nI (wh σ f t)) s) : fX2_wholeOf N s t (nI f) Q := by
  obtain ⟨so, hso, es, s0, e31, -⟩ := cs.2.2.2.2.1 f hf
  have tx := cs.2.2.2.1 t ht
  have t1 := tx.2.2.2.1.1
  have t2 := tx.2.2.2.1.2
  have es' : sA σ 79 0 f = nI so := by rw [← sm.2 79 (by decide) (by decide)]; exact es
  unfold wh at h
  rw [es', ← sm.f.2.1, ← sm.f.2.2.1] at h
  by_cases c : so = 0
  · subst c
    rw [if_pos rfl] at h e31
    simp (disch := omega) only [li0, li1, li2, li3, li4, li5, li6, li12, li13, li14, li15, li16, li17, li32, li33, li39, li60, li65, li90, li91, li93, li97, li100, li122, li126, li200, li800, li1000, li1400, li2800, li3432, li9999, li10000000, ↓lm1, ↓lm2, ↓lm3, ↓lm4, ↓lm9, le_T, le_F, lt_T, lt_F, eq_F, eq_T, vp_T, mle_F, mle_T, mlt_F, mlt_T, meq_F, meq_F', mne, aR, mR, sR', nI_clamp, br_nT, br_nF, ex_s, true_implies, false_implies, not_true_eq_false, not_false_eq_true, true_and, and_true, forall_eq, implies_true, and_self, reduceIte, reduceCtorEq, Nat.reduceEqDiff, Nat.reduceAdd, Nat.reduceMul, Nat.reduceSub, ite_true, ite_false, if_true, if_false, eq_self, and_false, false_and, fa_s, fa_n, cfF, cfA, cfJ, cfB, cfR, mfF, mfA, mfJ, mfB, mfR, c_foundE, m_meetsE, fX11_isSheet, fX11_in, fX10_sheetAt, fX10_sheetAt_b22, fX10_textAt, fX10_textAt_b22, fX11_isText, fX2_has, fX11_isFeature, nar_byte, byte_i, lg_gt, lg_eq, lg_lt, all_A, sF_F, sF_A, sF_J, sF_B, sF_R, sF_all, sA_F, sA_A, sA_J, sA_B, sA_R, sA_all, sJ_F, sJ_A, sJ_J, sJ_B, sJ_R, sJ_all, sB_F, sB_A, sB_J, sB_B, sB_R, sB_all, sR_F, sR_A, sR_J, sR_B, sR_R, sR_all, fX2_wholeOf, fX2_wholeOf_b29, e31, t2]
    exact h
  · have nz : ¬ nI so = nI 0 := fun e => c ((nI_eq (by omega) (by decide)).mp e)
    rw [if_neg nz] at h
    rw [if_neg c] at e31
    simp (disch := omega) only [li0, li1, li2, li3, li4, li5, li6, li12, li13, li14, li15, li16, li17, li32, li33, li39, li60, li65, li90, li91, li93, li97, li100, li122, li126, li200, li800, li1000, li1400, li2800, li3432, li9999, li10000000, ↓lm1, ↓lm2, ↓lm3, ↓lm4, ↓lm9, le_T, le_F, lt_T, lt_F, eq_F, eq_T, vp_T, mle_F, mle_T, mlt_F, mlt_T, meq_F, meq_F', mne, aR, mR, sR', nI_clamp, br_nT, br_nF, ex_s, true_implies, false_implies, not_true_eq_false, not_false_eq_true, true_and, and_true, forall_eq, implies_true, and_self, reduceIte, reduceCtorEq, Nat.reduceEqDiff, Nat.reduceAdd, Nat.reduceMul, Nat.reduceSub, ite_true, ite_false, if_true, if_false, eq_self, and_false, false_and, fa_s, fa_n, cfF, cfA, cfJ, cfB, cfR, mfF, mfA, mfJ, mfB, mfR, c_foundE, m_meetsE, fX11_isSheet, fX11_in, fX10_sheetAt, fX10_sheetAt_b22, fX10_textAt, fX10_textAt_b22, fX11_isText, fX2_has, fX11_isFeature, nar_byte, byte_i, lg_gt, lg_eq, lg_lt, all_A, sF_F, sF_A, sF_J, sF_B, sF_R, sF_all, sA_F, sA_A, sA_J, sA_B, sA_R, sA_all, sJ_F, sJ_A, sJ_J, sJ_B, sJ_R, sJ_all, sB_F, sB_A, sB_J, sB_B, sB_R, sB_all, sR_F, sR_A, sR_J, sR_B, sR_R, sR_all, fX2_wholeOf, fX2_wholeOf_b29, e31, t1]
    exact h
theorem ct_mono {p : Nat → Bool} {i n : Nat} (h : i ≤ n) : ct p i ≤ ct p n := by
  induction n with
  | zero => rw [show i = 0 by omega]; exact Nat.le_refl _
  | succ n ih =>
    by_cases e : i = n + 1
    · subst e; exact Nat.le_refl _
    · have := ih (by omega)
      rw [ct_s]; omega
def byW (σ : St) (w t : Nat) : Bool := decide (sA σ 70 0 t = nI 0 ∧ sA σ 68 0 t = nI w)
def gx (σ : St) (f t : Nat) : Nat × Nat := (cnt σ f t, wh σ f t)
theorem add6_sp {N : Nat} {σ s : St} {l : List (Nat × Nat)} {y : Nat × Nat} {Q : St → Prop} (xr : XR σ s) (cl : CL s l) (hl : l.length < 14) (h : ∀ s', XR σ s' → CL s' (l ++ [y]) → Q s') : fX6_add N s (nI y.1) (nI y.2) Q := by
  obtain ⟨c1, c2, c3, c4, c5⟩ := cl
  simp (disch := omega) only [li0, li1, li2, li3, li4, li5, li6, li12, li13, li14, li15, li16, li17, li32, li33, li39, li60, li65, li90, li91, li93, li97, li100, li122, li126, li200, li800, li1000, li1400, li2800, li3432, li9999, li10000000, ↓lm1, ↓lm2, ↓lm3, ↓lm4, ↓lm9, le_T, le_F, lt_T, lt_F, eq_F, eq_T, vp_T, mle_F, mle_T, mlt_F, mlt_T, meq_F, meq_F', mne, aR, mR, sR', nI_clamp, br_nT, br_nF, ex_s, true_implies, false_implies, not_true_eq_false, not_false_eq_true, true_and, and_true, forall_eq, implies_true, and_self, reduceIte, reduceCtorEq, Nat.reduceEqDiff, Nat.reduceAdd, Nat.reduceMul, Nat.reduceSub, ite_true, ite_false, if_true, if_false, eq_self, and_false, false_and, fa_s, fa_n, cfF, cfA, cfJ, cfB, cfR, mfF, mfA, mfJ, mfB, mfR, c_foundE, m_meetsE, fX11_isSheet, fX11_in, fX10_sheetAt, fX10_sheetAt_b22, fX10_textAt, fX10_textAt_b22, fX11_isText, fX2_has, fX11_isFeature, nar_byte, byte_i, lg_gt, lg_eq, lg_lt, all_A, sF_F, sF_A, sF_J, sF_B, sF_R, sF_all, sA_F, sA_A, sA_J, sA_B, sA_R, sA_all, sJ_F, sJ_A, sJ_J, sJ_B, sJ_R, sJ_all, sB_F, sB_A, sB_J, sB_B, sB_R, sB_all, sR_F, sR_A, sR_J, sR_B, sR_R, sR_all, fX6_add, c2, c4, c5]
  refine h _ (xr.trans ((xr_A (by decide) (by decide) (Or.inl (by decide))).trans ((xr_A (by decide) (by decide) (Or.inl (by decide))).trans (xr_F.trans (xr_F.trans xr_F))))) ?_
  refine ⟨by rw [List.length_append]; show l.length + 1 ≤ 14; omega, ?_, fun j z hz => ?_, ?_, ?_⟩
  · rw [List.length_append]; simp [sF_F, sF_A, sF_J, sF_B, sF_R, sF_all, sA_F, sA_A, sA_J, sA_B, sA_R, sA_all, sJ_F, sJ_A, sJ_J, sJ_B, sJ_R, sJ_all, sB_F, sB_A, sB_J, sB_B, sB_R, sB_all, sR_F, sR_A, sR_J, sR_B, sR_R, sR_all]
  · simp only [sF_F, sF_A, sF_J, sF_B, sF_R, sF_all, sA_F, sA_A, sA_J, sA_B, sA_R, sA_all, sJ_F, sJ_A, sJ_J, sJ_B, sJ_R, sJ_all, sB_F, sB_A, sB_J, sB_B, sB_R, sB_all, sR_F, sR_A, sR_J, sR_B, sR_R, sR_all]
    simp only [reduceCtorEq, Nat.reduceEqDiff, false_and, ite_false, true_and]
    by_cases e : j = l.length
    · subst e
      rw [List.getElem?_append_right (Nat.le_refl _), Nat.sub_self] at hz
      have hz : y = z := Option.some.inj hz
      subst hz
      rw [if_pos rfl, if_pos rfl]; exact ⟨rfl, rfl⟩
    · by_cases e2 : j < l.length
      · rw [List.getElem?_append_left e2] at hz
        rw [if_neg e, if_neg e]; exact c3 j z hz
      · rw [List.getElem?_eq_none (by rw [List.length_append]; show l.length + 1 ≤ j; omega)] at hz; cases hz
  · rw [s1L_a]; simp [sF_F, sF_A, sF_J, sF_B, sF_R, sF_all, sA_F, sA_A, sA_J, sA_B, sA_R, sA_all, sJ_F, sJ_A, sJ_J, sJ_B, sJ_R, sJ_all, sB_F, sB_A, sB_J, sB_B, sB_R, sB_all, sR_F, sR_A, sR_J, sR_B, sR_R, sR_all]
  · rw [s2L_a]; simp [sF_F, sF_A, sF_J, sF_B, sF_R, sF_all, sA_F, sA_A, sA_J, sA_B, sA_R, sA_all, sJ_F, sJ_A, sJ_J, sJ_B, sJ_R, sJ_all, sB_F, sB_A, sB_J, sB_B, sB_R, sB_all, sR_F, sR_A, sR_J, sR_B, sR_R, sR_all]
theorem cadd_sp {N n m f w : Nat} {σ s : St} {l : List (Nat × Nat)} {Q : Int32 → St → Prop} (hN : 1000 ≤ N) (ct' : CT σ n m) (hf : f < m) (hw : w < 6) (xr : XR σ s) (cl : CL s l) (hl : l.length + ct (byW σ w) n ≤ 14) (h : ∀ s', XR σ s' → CL s' (l ++ LO (byW σ w) (gx σ f) n) → Q (nI (ct (byW σ w) n)) s') : fX10_addToShuffles N s (nI f) (nI w) Q := by
  have hn := ct'.1
  have hm := ct'.2.1
  unfold fX10_addToShuffles
  refine lpU (fun k i (y : St × Int32) => fX10_addToShuffles_l5 N (nI f) (nI w) Q _ k y.1 y.2 (nI i)) (fun i y => XR σ y.1 ∧ CL y.1 (l ++ LO (byW σ w) (gx σ f) (min i n)) ∧ y.2 = nI (ct (byW σ w) (min i n))) 14 N ?_ ?_ 0 (s, nI 0) (by omega) (by omega) ⟨xr, by rw [show min 0 n = 0 by omega]; show CL s (l ++ []); rw [List.append_nil]; exact cl, by rw [show min 0 n = 0 by omega]; rfl⟩
  · rintro k ⟨y, v⟩ ⟨y1, y2, y3⟩
    have y3 : v = _ := y3
    rw [show min 14 n = n by omega] at y2 y3
    subst y3
    have q := h y y1 y2
    simp (disch := omega) only [li0, li1, li2, li3, li4, li5, li6, li12, li13, li14, li15, li16, li17, li32, li33, li39, li60, li65, li90, li91, li93, li97, li100, li122, li126, li200, li800, li1000, li1400, li2800, li3432, li9999, li10000000, ↓lm1, ↓lm2, ↓lm3, ↓lm4, ↓lm9, le_T, le_F, lt_T, lt_F, eq_F, eq_T, vp_T, mle_F, mle_T, mlt_F, mlt_T, meq_F, meq_F', mne, aR, mR, sR', nI_clamp, br_nT, br_nF, ex_s, true_implies, false_implies, not_true_eq_false, not_false_eq_true, true_and, and_true, forall_eq, implies_true, and_self, reduceIte, reduceCtorEq, Nat.reduceEqDiff, Nat.reduceAdd, Nat.reduceMul, Nat.reduceSub, ite_true, ite_false, if_true, if_false, eq_self, and_false, false_and, fa_s, fa_n, cfF, cfA, cfJ, cfB, cfR, mfF, mfA, mfJ, mfB, mfR, c_foundE, m_meetsE, fX11_isSheet, fX11_in, fX10_sheetAt, fX10_sheetAt_b22, fX10_textAt, fX10_textAt_b22, fX11_isText, fX2_has, fX11_isFeature, nar_byte, byte_i, lg_gt, lg_eq, lg_lt, all_A, sF_F, sF_A, sF_J, sF_B, sF_R, sF_all, sA_F, sA_A, sA_J, sA_B, sA_R, sA_all, sJ_F, sJ_A, sJ_J, sJ_B, sJ_R, sJ_all, sB_F, sB_A, sB_J, sB_B, sB_R, sB_all, sR_F, sR_A, sR_J, sR_B, sR_R, sR_all, fX10_addToShuffles_l5]
    exact q
  · rintro k i ⟨y, v⟩ hi ⟨y1, y2, y3⟩ K
    have y1 : XR σ y := y1
    have y2 : CL y (l ++ LO (byW σ w) (gx σ f) (min i n)) := y2
    have y3 : v = nI (ct (byW σ w) (min i n)) := y3
    have cs := CT_x ct' y1
    have gr := cs.2.2.1.2.2.2.2.2.1 i
    by_cases c : i < n
    · rw [if_pos c] at gr
      rw [show min i n = i by omega] at y2 y3
      have tx := cs.2.2.2.1 i c
      have gc := cs.2.2.2.2.2 f i hf c
      rw [y1.sm.f.2.2.2.2.2] at gc
      simp (disch := omega) only [li0, li1, li2, li3, li4, li5, li6, li12, li13, li14, li15, li16, li17, li32, li33, li39, li60, li65, li90, li91, li93, li97, li100, li122, li126, li200, li800, li1000, li1400, li2800, li3432, li9999, li10000000, ↓lm1, ↓lm2, ↓lm3, ↓lm4, ↓lm9, le_T, le_F, lt_T, lt_F, eq_F, eq_T, vp_T, mle_F, mle_T, mlt_F, mlt_T, meq_F, meq_F', mne, aR, mR, sR', nI_clamp, br_nT, br_nF, ex_s, true_implies, false_implies, not_true_eq_false, not_false_eq_true, true_and, and_true, forall_eq, implies_true, and_self, reduceIte, reduceCtorEq, Nat.reduceEqDiff, Nat.reduceAdd, Nat.reduceMul, Nat.reduceSub, ite_true, ite_false, if_true, if_false, eq_self, and_false, false_and, fa_s, fa_n, cfF, cfA, cfJ, cfB, cfR, mfF, mfA, mfJ, mfB, mfR, c_foundE, m_meetsE, fX11_isSheet, fX11_in, fX10_sheetAt, fX10_sheetAt_b22, fX10_textAt, fX10_textAt_b22, fX11_isText, fX2_has, fX11_isFeature, nar_byte, byte_i, lg_gt, lg_eq, lg_lt, all_A, sF_F, sF_A, sF_J, sF_B, sF_R, sF_all, sA_F, sA_A, sA_J, sA_B, sA_R, sA_all, sJ_F, sJ_A, sJ_J, sJ_B, sJ_R, sJ_all, sB_F, sB_A, sB_J, sB_B, sB_R, sB_all, sR_F, sR_A, sR_J, sR_B, sR_R, sR_all, fX10_addToShuffles_l5, fX10_addToShuffles_b73_5, gr]
      refine isBy_sp tx hw ?_
      rw [y1.sm.2 70 (by decide) (by decide), y1.sm.2 68 (by decide) (by decide)]
      by_cases b : sA σ 70 0 i = nI 0 ∧ sA σ 68 0 i = nI w
      · rw [if_pos b]
        have eb : byW σ w i = true := decide_eq_true b
        have cm := ct_mono (p := byW σ w) (show i + 1 ≤ n by omega)
        rw [ct_s, if_pos eb] at cm
        simp (disch := omega) only [li0, li1, li2, li3, li4, li5, li6, li12, li13, li14, li15, li16, li17, li32, li33, li39, li60, li65, li90, li91, li93, li97, li100, li122, li126, li200, li800, li1000, li1400, li2800, li3432, li9999, li10000000, ↓lm1, ↓lm2, ↓lm3, ↓lm4, ↓lm9, le_T, le_F, lt_T, lt_F, eq_F, eq_T, vp_T, mle_F, mle_T, mlt_F, mlt_T, meq_F, meq_F', mne, aR, mR, sR', nI_clamp, br_nT, br_nF, ex_s, true_implies, false_implies, not_true_eq_false, not_false_eq_true, true_and, and_true, forall_eq, implies_true, and_self, reduceIte, reduceCtorEq, Nat.reduceEqDiff, Nat.reduceAdd, Nat.reduceMul, Nat.reduceSub, ite_true, ite_false, if_true, if_false, eq_self, and_false, false_and, fa_s, fa_n, cfF, cfA, cfJ, cfB, cfR, mfF, mfA, mfJ, mfB, mfR, c_foundE, m_meetsE, fX11_isSheet, fX11_in, fX10_sheetAt, fX10_sheetAt_b22, fX10_textAt, fX10_textAt_b22, fX11_isText, fX2_has, fX11_isFeature, nar_byte, byte_i, lg_gt, lg_eq, lg_lt, all_A, sF_F, sF_A, sF_J, sF_B, sF_R, sF_all, sA_F, sA_A, sA_J, sA_B, sA_R, sA_all, sJ_F, sJ_A, sJ_J, sJ_B, sJ_R, sJ_all, sB_F, sB_A, sB_J, sB_B, sB_R, sB_all, sR_F, sR_A, sR_J, sR_B, sR_R, sR_all, fX7_countOf, gc]
        refine whole_sp hm hf c ct' y1.sm cs ?_
        refine add6_sp (y := gx σ f i) y1 y2 (by rw [List.length_append, LO_len]; omega) (fun s' x1 x2 => ?_)
        have K := K (s', v + nI 1) ⟨x1, by
          rw [show min (i + 1) n = i + 1 by omega]
          show CL s' (l ++ (if byW σ w i = true then LO (byW σ w) (gx σ f) i ++ [gx σ f i] else LO (byW σ w) (gx σ f) i))
          rw [if_pos eb, ← List.append_assoc]; exact x2, by
          rw [show min (i + 1) n = i + 1 by omega, ct_s, if_pos eb, y3]; exact nI_add _ _⟩
        try simp (disch := omega) only [li0, li1, li2, li3, li4, li5, li6, li12, li13, li14, li15, li16, li17, li32, li33, li39, li60, li65, li90, li91, li93, li97, li100, li122, li126, li200, li800, li1000, li1400, li2800, li3432, li9999, li10000000, ↓lm1, ↓lm2, ↓lm3, ↓lm4, ↓lm9, le_T, le_F, lt_T, lt_F, eq_F, eq_T, vp_T, mle_F, mle_T, mlt_F, mlt_T, meq_F, meq_F', mne, aR, mR, sR', nI_clamp, br_nT, br_nF, ex_s, true_implies, false_implies, not_true_eq_false, not_false_eq_true, true_and, and_true, forall_eq, implies_true, and_self, reduceIte, reduceCtorEq, Nat.reduceEqDiff, Nat.reduceAdd, Nat.reduceMul, Nat.reduceSub, ite_true, ite_false, if_true, if_false, eq_self, and_false, false_and, fa_s, fa_n, cfF, cfA, cfJ, cfB, cfR, mfF, mfA, mfJ, mfB, mfR, c_foundE, m_meetsE, fX11_isSheet, fX11_in, fX10_sheetAt, fX10_sheetAt_b22, fX10_textAt, fX10_textAt_b22, fX11_isText, fX2_has, fX11_isFeature, nar_byte, byte_i, lg_gt, lg_eq, lg_lt, all_A, sF_F, sF_A, sF_J, sF_B, sF_R, sF_all, sA_F, sA_A, sA_J, sA_B, sA_R, sA_all, sJ_F, sJ_A, sJ_J, sJ_B, sJ_R, sJ_all, sB_F, sB_A, sB_J, sB_B, sB_R, sB_all, sR_F, sR_A, sR_J, sR_B, sR_R, sR_all]
        exact K
      · rw [if_neg b]
        have eb : ¬ byW σ w i = true := fun z => b (of_decide_eq_true z)
        have K := K (y, v) ⟨y1, by
          rw [show min (i + 1) n = i + 1 by omega]
          show CL y (l ++ (if byW σ w i = true then LO (byW σ w) (gx σ f) i ++ [gx σ f i] else LO (byW σ w) (gx σ f) i))
          rw [if_neg eb]; exact y2, by
          rw [show min (i + 1) n = i + 1 by omega, ct_s, if_neg eb]; exact y3⟩
        simp (disch := omega) only [li0, li1, li2, li3, li4, li5, li6, li12, li13, li14, li15, li16, li17, li32, li33, li39, li60, li65, li90, li91, li93, li97, li100, li122, li126, li200, li800, li1000, li1400, li2800, li3432, li9999, li10000000, ↓lm1, ↓lm2, ↓lm3, ↓lm4, ↓lm9, le_T, le_F, lt_T, lt_F, eq_F, eq_T, vp_T, mle_F, mle_T, mlt_F, mlt_T, meq_F, meq_F', mne, aR, mR, sR', nI_clamp, br_nT, br_nF, ex_s, true_implies, false_implies, not_true_eq_false, not_false_eq_true, true_and, and_true, forall_eq, implies_true, and_self, reduceIte, reduceCtorEq, Nat.reduceEqDiff, Nat.reduceAdd, Nat.reduceMul, Nat.reduceSub, ite_true, ite_false, if_true, if_false, eq_self, and_false, false_and, fa_s, fa_n, cfF, cfA, cfJ, cfB, cfR, mfF, mfA, mfJ, mfB, mfR, c_foundE, m_meetsE, fX11_isSheet, fX11_in, fX10_sheetAt, fX10_sheetAt_b22, fX10_textAt, fX10_textAt_b22, fX11_isText, fX2_has, fX11_isFeature, nar_byte, byte_i, lg_gt, lg_eq, lg_lt, all_A, sF_F, sF_A, sF_J, sF_B, sF_R, sF_all, sA_F, sA_A, sA_J, sA_B, sA_R, sA_all, sJ_F, sJ_A, sJ_J, sJ_B, sJ_R, sJ_all, sB_F, sB_A, sB_J, sB_B, sB_R, sB_all, sR_F, sR_A, sR_J, sR_B, sR_R, sR_all]
        exact K
    · rw [if_neg c] at gr
      rw [show min i n = n by omega] at y2 y3
      have K := K (y, v) ⟨y1, by rw [show min (i + 1) n = n by omega]; exact y2, by rw [show min (i + 1) n = n by omega]; exact y3⟩
      simp (disch := omega) only [li0, li1, li2, li3, li4, li5, li6, li12, li13, li14, li15, li16, li17, li32, li33, li39, li60, li65, li90, li91, li93, li97, li100, li122, li126, li200, li800, li1000, li1400, li2800, li3432, li9999, li10000000, ↓lm1, ↓lm2, ↓lm3, ↓lm4, ↓lm9, le_T, le_F, lt_T, lt_F, eq_F, eq_T, vp_T, mle_F, mle_T, mlt_F, mlt_T, meq_F, meq_F', mne, aR, mR, sR', nI_clamp, br_nT, br_nF, ex_s, true_implies, false_implies, not_true_eq_false, not_false_eq_true, true_and, and_true, forall_eq, implies_true, and_self, reduceIte, reduceCtorEq, Nat.reduceEqDiff, Nat.reduceAdd, Nat.reduceMul, Nat.reduceSub, ite_true, ite_false, if_true, if_false, eq_self, and_false, false_and, fa_s, fa_n, cfF, cfA, cfJ, cfB, cfR, mfF, mfA, mfJ, mfB, mfR, c_foundE, m_meetsE, fX11_isSheet, fX11_in, fX10_sheetAt, fX10_sheetAt_b22, fX10_textAt, fX10_textAt_b22, fX11_isText, fX2_has, fX11_isFeature, nar_byte, byte_i, lg_gt, lg_eq, lg_lt, all_A, sF_F, sF_A, sF_J, sF_B, sF_R, sF_all, sA_F, sA_A, sA_J, sA_B, sA_R, sA_all, sJ_F, sJ_A, sJ_J, sJ_B, sJ_R, sJ_all, sB_F, sB_A, sB_J, sB_B, sB_R, sB_all, sR_F, sR_A, sR_J, sR_B, sR_R, sR_all, fX10_addToShuffles_l5, fX10_addToShuffles_b73_5, gr]
      exact K
-- ===== a way in the class =====
def ps1 (l : List (Nat × Nat)) (q : Nat) : Nat → Nat
  | 0 => 0
  | r + 1 => ps1 l q r + (l.getD (q + r) (0, 0)).1
def ps2 (l : List (Nat × Nat)) (q : Nat) : Nat → Nat
  | 0 => 0
  | r + 1 => ps2 l q r + (l.getD (q + r) (0, 0)).2
theorem get_y {l : List (Nat × Nat)} {q : Nat} (h : q < l.length) : l[q]? = some (l.getD q (0, 0)) := by
  rw [List.getElem?_eq_getElem h]; simp [List.getD, h]
theorem takeOn_sp {N k i q a b : Nat} {σ s : St} {l : List (Nat × Nat)} {Q : St → Prop} (hN : 1000 ≤ N) (xr : XR σ s) (cl : CL s l) (e6 : sF s 6 0 6 = nI k) (hk : k ≤ 14) (hi : i ≤ k) (hq : q + (k - i) ≤ l.length) (ea : sA s 48 0 i = nI a) (eb : sA s 49 0 i = nI b) (h : ∀ s', XR σ s' → CL s' l → sF s' = sF s → (∀ j, sA s' 47 0 j = if i ≤ j ∧ j < k then nI (q + (j - i)) else sA s 47 0 j) → (∀ j, sA s' 48 0 j = if i < j ∧ j ≤ k then nI (a + ps1 l q (j - i)) else sA s 48 0 j) → (∀ j, sA s' 49 0 j = if i < j ∧ j ≤ k then nI (b + ps2 l q (j - i)) else sA s 49 0 j) → Q s') : fX6_takeOn N s (nI i) (nI q) Q := by
  unfold fX6_takeOn
  refine lpU (fun n e (y : St) => fX6_takeOn_l5 N (nI i) (nI q) Q _ n y (nI (q + e)) (nI (i + e))) (fun e y => XR σ y ∧ CL y l ∧ sF y = sF s ∧ (∀ j, sA y 47 0 j = if i ≤ j ∧ j < i + e then nI (q + (j - i)) else sA s 47 0 j) ∧ (∀ j, sA y 48 0 j = if i < j ∧ j ≤ i + e then nI (a + ps1 l q (j - i)) else sA s 48 0 j) ∧ (∀ j, sA y 49 0 j = if i < j ∧ j ≤ i + e then nI (b + ps2 l q (j - i)) else sA s 49 0 j)) (k - i) N ?_ ?_ 0 s (by omega) (by omega) ⟨xr, cl, rfl, fun j => by rw [if_neg (by omega)], fun j => by rw [if_neg (by omega)], fun j => by rw [if_neg (by omega)]⟩
  · rintro n y ⟨y1, y2, y3, y4, y5, y6⟩
    have e6y : sF y 6 0 6 = nI k := by rw [y3]; exact e6
    rw [show i + (k - i) = k by omega] at y4 y5 y6
    have q' := h y y1 y2 y3 y4 y5 y6
    have ek : i + (k - i) = k := by omega
    simp (disch := omega) only [li0, li1, li2, li3, li4, li5, li6, li12, li13, li14, li15, li16, li17, li32, li33, li39, li60, li65, li90, li91, li93, li97, li100, li122, li126, li200, li800, li1000, li1400, li2800, li3432, li9999, li10000000, ↓lm1, ↓lm2, ↓lm3, ↓lm4, ↓lm9, le_T, le_F, lt_T, lt_F, eq_F, eq_T, vp_T, mle_F, mle_T, mlt_F, mlt_T, meq_F, meq_F', mne, aR, mR, sR', nI_clamp, br_nT, br_nF, ex_s, true_implies, false_implies, not_true_eq_false, not_false_eq_true, true_and, and_true, forall_eq, implies_true, and_self, reduceIte, reduceCtorEq, Nat.reduceEqDiff, Nat.reduceAdd, Nat.reduceMul, Nat.reduceSub, ite_true, ite_false, if_true, if_false, eq_self, and_false, false_and, fa_s, fa_n, cfF, cfA, cfJ, cfB, cfR, mfF, mfA, mfJ, mfB, mfR, c_foundE, m_meetsE, fX11_isSheet, fX11_in, fX10_sheetAt, fX10_sheetAt_b22, fX10_textAt, fX10_textAt_b22, fX11_isText, fX2_has, fX11_isFeature, nar_byte, byte_i, lg_gt, lg_eq, lg_lt, all_A, sF_F, sF_A, sF_J, sF_B, sF_R, sF_all, sA_F, sA_A, sA_J, sA_B, sA_R, sA_all, sJ_F, sJ_A, sJ_J, sJ_B, sJ_R, sJ_all, sB_F, sB_A, sB_J, sB_B, sB_R, sB_all, sR_F, sR_A, sR_J, sR_B, sR_R, sR_all, fX6_takeOn_l5, e6y, ek]
    exact q'
  · rintro n e y he ⟨y1, y2, y3, y4, y5, y6⟩ K
    have e6y : sF y 6 0 6 = nI k := by rw [y3]; exact e6
    obtain ⟨c1, c2, c3, c4, c5⟩ := id y2
    obtain ⟨d1, d2⟩ := c3 (q + e) _ (get_y (show q + e < l.length by omega))
    have v8 : sA y 48 0 (i + e) = nI (a + ps1 l q e) := by
      rw [y5]
      rcases Nat.eq_zero_or_pos e with rfl | h0
      · rw [if_neg (by omega), Nat.add_zero, ea]; rfl
      · rw [if_pos (by omega), show i + e - i = e by omega]
    have v9 : sA y 49 0 (i + e) = nI (b + ps2 l q e) := by
      rw [y6]
      rcases Nat.eq_zero_or_pos e with rfl | h0
      · rw [if_neg (by omega), Nat.add_zero, eb]; rfl
      · rw [if_pos (by omega), show i + e - i = e by omega]
    have p1 : a + ps1 l q e + (l.getD (q + e) (0, 0)).1 = a + ps1 l q (e + 1) := by
      show _ = a + (ps1 l q e + _); omega
    have p2 : b + ps2 l q e + (l.getD (q + e) (0, 0)).2 = b + ps2 l q (e + 1) := by
      show _ = b + (ps2 l q e + _); omega
    have xw : ∀ u v w : Int32, XR y (setA (setA (setA y 47 0 (i + e) u) 48 0 (i + e + 1) v) 49 0 (i + e + 1) w) := fun u v w => (xr_A (by decide) (by decide) (Or.inl (by decide))).trans ((xr_A (by decide) (by decide) (Or.inr (by omega))).trans (xr_A (by decide) (by decide) (Or.inr (by omega))))
    have K := K (setA (setA (setA y 47 0 (i + e) (nI (q + e))) 48 0 (i + e + 1) (nI (a + ps1 l q (e + 1)))) 49 0 (i + e + 1) (nI (b + ps2 l q (e + 1)))) ⟨y1.trans (xw _ _ _), ⟨c1, c2, fun j z hz => by
        rw [sAx (by decide), sAx (by decide), sAx (by decide), sAx (by decide), sAx (by decide), sAx (by decide)]; exact c3 j z hz, c4, c5⟩, y3, fun j => by
        rw [sAx (by decide), sAx (by decide), sA_A]
        by_cases c : j = i + e
        · subst c; rw [if_pos ⟨rfl, rfl, rfl⟩, if_pos (by omega), show i + e - i = e by omega]
        · rw [if_neg (fun z => c z.2.2), y4 j]
          by_cases c2 : i ≤ j ∧ j < i + e
          · rw [if_pos c2, if_pos (by omega)]
          · rw [if_neg c2, if_neg (by omega)], fun j => by
        rw [sAx (by decide), sA_A]
        by_cases c : j = i + e + 1
        · subst c; rw [if_pos ⟨rfl, rfl, rfl⟩, if_pos (by omega), show i + e + 1 - i = e + 1 by omega]
        · rw [if_neg (fun z => c z.2.2), sAx (by decide), y5 j]
          by_cases c2 : i < j ∧ j ≤ i + e
          · rw [if_pos c2, if_pos (by omega)]
          · rw [if_neg c2, if_neg (by omega)], fun j => by
        rw [sA_A]
        by_cases c : j = i + e + 1
        · subst c; rw [if_pos ⟨rfl, rfl, rfl⟩, if_pos (by omega), show i + e + 1 - i = e + 1 by omega]
        · rw [if_neg (fun z => c z.2.2), sAx (by decide), sAx (by decide), y6 j]
          by_cases c2 : i < j ∧ j ≤ i + e
          · rw [if_pos c2, if_pos (by omega)]
          · rw [if_neg c2, if_neg (by omega)]⟩
    have K : fX6_takeOn_l5 N (nI i) (nI q) Q (fun (σ14 : St) => Q σ14) n (setA (setA (setA y 47 0 (i + e) (nI (q + e))) 48 0 (i + e + 1) (nI (a + ps1 l q (e + 1)))) 49 0 (i + e + 1) (nI (b + ps2 l q (e + 1)))) (nI (q + e + 1)) (nI (i + e + 1)) := K
    simp (disch := omega) only [li0, li1, li2, li3, li4, li5, li6, li12, li13, li14, li15, li16, li17, li32, li33, li39, li60, li65, li90, li91, li93, li97, li100, li122, li126, li200, li800, li1000, li1400, li2800, li3432, li9999, li10000000, ↓lm1, ↓lm2, ↓lm3, ↓lm4, ↓lm9, le_T, le_F, lt_T, lt_F, eq_F, eq_T, vp_T, mle_F, mle_T, mlt_F, mlt_T, meq_F, meq_F', mne, aR, mR, sR', nI_clamp, br_nT, br_nF, ex_s, true_implies, false_implies, not_true_eq_false, not_false_eq_true, true_and, and_true, forall_eq, implies_true, and_self, reduceIte, reduceCtorEq, Nat.reduceEqDiff, Nat.reduceAdd, Nat.reduceMul, Nat.reduceSub, ite_true, ite_false, if_true, if_false, eq_self, and_false, false_and, fa_s, fa_n, cfF, cfA, cfJ, cfB, cfR, mfF, mfA, mfJ, mfB, mfR, c_foundE, m_meetsE, fX11_isSheet, fX11_in, fX10_sheetAt, fX10_sheetAt_b22, fX10_textAt, fX10_textAt_b22, fX11_isText, fX2_has, fX11_isFeature, nar_byte, byte_i, lg_gt, lg_eq, lg_lt, all_A, sF_F, sF_A, sF_J, sF_B, sF_R, sF_all, sA_F, sA_A, sA_J, sA_B, sA_R, sA_all, sJ_F, sJ_A, sJ_J, sJ_B, sJ_R, sJ_all, sB_F, sB_A, sB_J, sB_B, sB_R, sB_all, sR_F, sR_A, sR_J, sR_B, sR_R, sR_all, fX6_takeOn_l5, e6y, c2, d1, d2, v8, v9, p1, p2]
    exact K
