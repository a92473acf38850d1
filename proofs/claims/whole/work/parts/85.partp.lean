-- ===== a parting, reckoned =====
/-- the end of window i -/
def wen (σ : St) (t k i : Nat) : Nat := min (k * i + k) (nwM σ t)
/-- a window's rate of a feature -/
def pr1 (σ : St) (t k i f : Nat) : Nat := if sA σ 79 0 f = nI 0 then 0 else rvN (ct (fun q => lk σ f t (k * i + q)) (wen σ t k i - k * i)) (wen σ t k i - k * i)
def nzs (σ : St) (f : Nat) : Bool := decide (¬ sA σ 79 0 f = nI 0)
/-- a window's price, by a hand -/
def wfr (σ : St) (n m srt t k : Nat) (w i : Nat) : Int32 := nI (sb (nzs σ) (fun f => dN srt (pr1 σ t k i f) (rtH σ n (hp σ (nI w) (nI t)) f)) m)
/-- tails of least price, from the end on -/
def tlS (A B : Nat → Int64) (c : Int64) (W : Nat) : Nat → Int64 × Int64
  | 0 => (0, 0)
  | j + 1 => (A (W - 1 - j) + (if (tlS A B c W j).2 + c < (tlS A B c W j).1 then (tlS A B c W j).2 + c else (tlS A B c W j).1), B (W - 1 - j) + (if (tlS A B c W j).1 + c < (tlS A B c W j).2 then (tlS A B c W j).1 + c else (tlS A B c W j).2))
/-- whose a window is, behind one of bf -/
def ow1 (P S : Nat → Int64) (a b c : Int32) (w : Nat) (bf : Int32) : Int32 := if S w + (if bf = a then c else nI 0).toInt64 < P w + (if bf = b then c else nI 0).toInt64 then b else a
def ownr (P S : Nat → Int64) (a b c : Int32) : Nat → Int32
  | 0 => ow1 P S a b c 0 (mI 9)
  | w + 1 => ow1 P S a b c (w + 1) (ownr P S a b c w)
/-- how many windows -/
def wnd (nw k : Nat) : Nat := (nw + k - 1) / k
theorem wnd_lt {nw k i : Nat} (hk : 1 ≤ k) : i < wnd nw k ↔ k * i < nw := by
  unfold wnd
  rw [Nat.lt_div_iff_mul_lt (by omega)]
  constructor
  · intro h; rw [Nat.mul_comm]; omega
  · intro h; rw [Nat.mul_comm] at h; omega
theorem wnd_le {nw k : Nat} (hk : 1 ≤ k) : wnd nw k ≤ nw := by
  by_cases c : wnd nw k ≤ nw
  · exact c
  · have h := (wnd_lt (nw := nw) (i := nw) hk).mp (by omega)
    have h2 : nw ≤ k * nw := Nat.le_mul_of_pos_left nw hk
    omega
theorem lgc {x y : Int64} : (nI 0 < lg_cmp x y) = (y < x) := by
  unfold lg_cmp
  by_cases c : y < x
  · rw [if_pos (show x > y from c)]; simp only [c]; decide
  · rw [if_neg (show ¬ x > y from c)]
    have e : (y < x) = False := eq_false c
    rw [e]
    split <;> decide
/-- all but what a parting holds is kept -/
def AL (σ s : St) : Prop := (∀ K i j, trF K i = true → K ≠ 3 → sF s K i j = sF σ K i j) ∧ (∀ K i j, trA K i = true → K ≠ 38 → sA s K i j = sA σ K i j) ∧ sJ s = sJ σ ∧ sR s = sR σ ∧ sF s 11 = sF σ 11 ∧ (∀ K, 60 ≤ K → sA s K = sA σ K) ∧ sF s 10 = sF σ 10
theorem AL.rfl' {σ : St} : AL σ σ := ⟨fun _ _ _ _ _ => rfl, fun _ _ _ _ _ => rfl, rfl, rfl, rfl, fun _ _ => rfl, rfl⟩
theorem AL.trans {a b c : St} (h1 : AL a b) (h2 : AL b c) : AL a c := ⟨fun K i j t e => (h2.1 K i j t e).trans (h1.1 K i j t e), fun K i j t e => (h2.2.1 K i j t e).trans (h1.2.1 K i j t e), h2.2.2.1.trans h1.2.2.1, h2.2.2.2.1.trans h1.2.2.2.1, h2.2.2.2.2.1.trans h1.2.2.2.2.1, fun K h => (h2.2.2.2.2.2.1 K h).trans (h1.2.2.2.2.2.1 K h), h2.2.2.2.2.2.2.trans h1.2.2.2.2.2.2⟩
theorem al_kp {a b : St} (h : KP a b) : AL a b := ⟨fun K i j t _ => h.1.1 K i j t, fun K i j t _ => h.1.2.1 K i j t, h.1.2.2.1, h.1.2.2.2, h.2.1, h.2.2.1, h.2.2.2.1⟩
theorem al_A38 {s : St} {i j : Nat} {x : Int32} : AL s (setA s 38 i j x) := ⟨fun _ _ _ _ _ => rfl, fun K i' j' t e => by rw [sA_A, if_neg (fun z => e z.1)], rfl, rfl, rfl, fun K h => sAx (by omega), rfl⟩
theorem al_F3 {s : St} {i j : Nat} {x : Int32} : AL s (setF s 3 i j x) := ⟨fun K i' j' t e => by rw [sF_F, if_neg (fun z => e z.1)], fun _ _ _ _ _ => rfl, rfl, rfl, sFx (by decide), fun K h => rfl, sFx (by decide)⟩
theorem al_B {s : St} {K i j : Nat} {x : Int64} : AL s (setB s K i j x) := ⟨fun _ _ _ _ _ => rfl, fun _ _ _ _ _ => rfl, rfl, rfl, rfl, fun _ _ => rfl, rfl⟩
theorem AL.sm {a b : St} (h : AL a b) : SM a b := ⟨h.2.2.2.2.1, fun K k _ => h.2.2.2.2.2.1 K (by omega)⟩
theorem CT_a {σ σ' : St} {n m : Nat} (h : CT σ n m) (s : AL σ σ') : CT σ' n m := by
  obtain ⟨sf, sa, sj, sr, -⟩ := s
  have kA : ∀ K, (∀ i, trA K i = true) → K ≠ 38 → sA σ' K = sA σ K := fun K t e => funext fun i => funext fun j => sa K i j (t i) e
  have kA0 : ∀ K, trA K 0 = true → K ≠ 38 → sA σ' K 0 = sA σ K 0 := fun K t e => funext fun j => sa K 0 j t e
  have kF : ∀ K, (∀ i, trF K i = true) → K ≠ 3 → sF σ' K = sF σ K := fun K t e => funext fun i => funext fun j => sf K i j (t i) e
  obtain ⟨hn, hm, g1, g4, g5, g6⟩ := h
  have m10 := kF 10 (fun _ => rfl) (by decide)
  have m11 := kF 11 (fun _ => rfl) (by decide)
  have m2 := kF 2 (fun _ => rfl) (by decide)
  have m8 := kF 8 (fun _ => rfl) (by decide)
  have m0 := kF 0 (fun _ => rfl) (by decide)
  refine ⟨hn, hm, G1_c g1 (by rw [m10]) (by rw [m11]) (by rw [m2]) (by rw [m11]) sr (kA _ (fun _ => rfl) (by decide)), fun t ht => ?_, G5_c g5 m0 (kA _ (fun _ => rfl) (by decide)) (kA _ (fun _ => rfl) (by decide)) (kA _ (fun _ => rfl) (by decide)) (kA _ (fun _ => rfl) (by decide)) (kA _ (fun _ => rfl) (by decide)) (kA _ (fun _ => rfl) (by decide)), ?_⟩
  · have t4 : decide (t < 14) = true := decide_eq_true (by omega)
    refine Tx_c (g4 t ht) (funext fun j => sf 4 t j (by unfold trF; rw [t4]; rfl) (by decide)) (funext fun j => sf 7 t j (by unfold trF; rw [t4]; rfl) (by decide)) (by rw [m8]) (funext fun j => sa 25 t j (by unfold trA; rw [t4]; rfl) (by decide)) (funext fun j => sa 26 t j (by unfold trA; rw [t4]; rfl) (by decide)) (funext fun j => sa 27 t j (by unfold trA; rw [t4]; rfl) (by decide)) (fun K h1 h2 => kA0 K ?_ (by omega))
    rcases (show K = 67 ∨ K = 68 ∨ K = 69 ∨ K = 70 ∨ K = 71 ∨ K = 72 ∨ K = 73 ∨ K = 74 ∨ K = 75 ∨ K = 76 ∨ K = 77 by omega) with rfl | rfl | rfl | rfl | rfl | rfl | rfl | rfl | rfl | rfl | rfl <;> rfl
  · exact G6_c g6 (fun t ht => funext fun j => sa 29 t j (by unfold trA; rw [decide_eq_true (show t < 14 by omega)]; rfl) (by decide)) (kA _ (fun _ => rfl) (by decide)) (kA _ (fun _ => rfl) (by decide)) (kA _ (fun _ => rfl) (by decide)) (kA _ (fun _ => rfl) (by decide)) (kA _ (fun _ => rfl) (by decide)) (kA _ (fun _ => rfl) (by decide)) (kA _ (fun _ => rfl) (by decide)) (kA _ (fun _ => rfl) (by decide)) (kA _ (fun _ => rfl) (by decide))
/-- the class's hands are kept -/
def HK (s s' : St) : Prop := sA s' 33 = sA s 33 ∧ ∀ w, sA s' 23 (3 + w) = sA s 23 (3 + w)
theorem HK.trans {a b c : St} (h1 : HK a b) (h2 : HK b c) : HK a c := ⟨h2.1.trans h1.1, fun w => (h2.2 w).trans (h1.2 w)⟩
theorem hd_hk {σ s s' : St} {n m w : Nat} {x : Int32} (hk : HK s s') (h : Hd σ s n m x w) : Hd σ s' n m x w := by
  unfold Hd at h ⊢
  rw [hk.1, hk.2 w]; exact h
theorem hk_F {s : St} {K i j : Nat} {x : Int32} : HK s (setF s K i j x) := ⟨rfl, fun _ => rfl⟩
theorem hk_B {s : St} {K i j : Nat} {x : Int64} : HK s (setB s K i j x) := ⟨rfl, fun _ => rfl⟩
theorem hk_A {s : St} {K i j : Nat} {x : Int32} (h : K ≠ 33) (h2 : K ≠ 23) : HK s (setA s K i j x) := ⟨sAx (Ne.symm h), fun w => by rw [sAx (Ne.symm h2)]⟩
theorem hk_all {s : St} {K i : Nat} {F : Nat → Int32} (h : K ≠ 33) (h2 : ¬ (K = 23 ∧ 3 ≤ i)) : HK s (setAll s K i F) := ⟨sLx (Ne.symm h), fun w => by rw [sA_all, if_neg (fun z => h2 ⟨z.1.symm, by omega⟩)]⟩
/-- the features of words, as bits -/
theorem wfs_sp {N n m : Nat} {σ s : St} {Q : Int32 → St → Prop} (hN : 1000 ≤ N) (ct' : CT σ n m) (al : AL σ s) (h : ∀ z, (∀ f, f < m → bt z f = nzs σ f) → Q z s) : fX2_wordFeatures N s Q := by
  have hm := ct'.2.1
  have cs := CT_a ct' al
  have e2 := cs.2.2.1.2.2.1
  unfold fX2_wordFeatures
  refine lpU (fun k i (y : Int32) => fX2_wordFeatures_l4 N Q _ k s y (nI i)) (fun i y => (∀ f, f < i → bt y f = nzs σ f) ∧ ∀ f, i ≤ f → f < 32 → bt y f = false) m N ?_ ?_ 0 (nI 0) (by omega) (by omega) ⟨fun f hf => absurd hf (by omega), fun f _ _ => bt_0 f⟩
  · rintro k y ⟨h1, h2⟩
    have q := h y h1
    simp (disch := omega) only [li0, li1, li2, li3, li4, li5, li6, li12, li13, li14, li15, li16, li17, li32, li33, li39, li60, li65, li90, li91, li93, li97, li100, li122, li126, li200, li800, li1000, li1400, li2800, li3432, li9999, li10000000, ↓lm1, ↓lm2, ↓lm3, ↓lm4, ↓lm9, le_T, le_F, lt_T, lt_F, eq_F, eq_T, vp_T, mle_F, mle_T, mlt_F, mlt_T, meq_F, meq_F', mne, aR, mR, sR', nI_clamp, br_nT, br_nF, ex_s, true_implies, false_implies, not_true_eq_false, not_false_eq_true, true_and, and_true, forall_eq, implies_true, and_self, reduceIte, reduceCtorEq, Nat.reduceEqDiff, Nat.reduceAdd, Nat.reduceMul, Nat.reduceSub, ite_true, ite_false, if_true, if_false, eq_self, and_false, false_and, fa_s, fa_n, cfF, cfA, cfJ, cfB, cfR, mfF, mfA, mfJ, mfB, mfR, c_foundE, m_meetsE, fX11_isSheet, fX11_in, fX10_sheetAt, fX10_sheetAt_b22, fX10_textAt, fX10_textAt_b22, fX11_isText, fX2_has, fX11_isFeature, nar_byte, byte_i, lg_gt, lg_eq, lg_lt, all_A, sF_F, sF_A, sF_J, sF_B, sF_R, sF_all, sA_F, sA_A, sA_J, sA_B, sA_R, sA_all, sJ_F, sJ_A, sJ_J, sJ_B, sJ_R, sJ_all, sB_F, sB_A, sB_J, sB_B, sB_R, sB_all, sR_F, sR_A, sR_J, sR_B, sR_R, sR_all, fX2_wordFeatures_l4, e2]
    exact q
  · rintro k i y hi ⟨h1, h2⟩ K
    obtain ⟨so, hso, es, s0, e31, -⟩ := cs.2.2.2.2.1 i hi
    have es' : sA σ 79 0 i = nI so := by rw [← al.sm.2 79 (by decide) (by decide)]; exact es
    by_cases c : so = 0
    · subst c
      rw [if_pos rfl] at e31
      have K := K y ⟨fun f hf => by
        by_cases d : f = i
        · subst d; rw [h2 f (Nat.le_refl _) (by omega)]; unfold nzs; rw [es']; simp
        · exact h1 f (by omega), fun f h3 h4 => h2 f (by omega) h4⟩
      simp (disch := omega) only [li0, li1, li2, li3, li4, li5, li6, li12, li13, li14, li15, li16, li17, li32, li33, li39, li60, li65, li90, li91, li93, li97, li100, li122, li126, li200, li800, li1000, li1400, li2800, li3432, li9999, li10000000, ↓lm1, ↓lm2, ↓lm3, ↓lm4, ↓lm9, le_T, le_F, lt_T, lt_F, eq_F, eq_T, vp_T, mle_F, mle_T, mlt_F, mlt_T, meq_F, meq_F', mne, aR, mR, sR', nI_clamp, br_nT, br_nF, ex_s, true_implies, false_implies, not_true_eq_false, not_false_eq_true, true_and, and_true, forall_eq, implies_true, and_self, reduceIte, reduceCtorEq, Nat.reduceEqDiff, Nat.reduceAdd, Nat.reduceMul, Nat.reduceSub, ite_true, ite_false, if_true, if_false, eq_self, and_false, false_and, fa_s, fa_n, cfF, cfA, cfJ, cfB, cfR, mfF, mfA, mfJ, mfB, mfR, c_foundE, m_meetsE, fX11_isSheet, fX11_in, fX10_sheetAt, fX10_sheetAt_b22, fX10_textAt, fX10_textAt_b22, fX11_isText, fX2_has, fX11_isFeature, nar_byte, byte_i, lg_gt, lg_eq, lg_lt, all_A, sF_F, sF_A, sF_J, sF_B, sF_R, sF_all, sA_F, sA_A, sA_J, sA_B, sA_R, sA_all, sJ_F, sJ_A, sJ_J, sJ_B, sJ_R, sJ_all, sB_F, sB_A, sB_J, sB_B, sB_R, sB_all, sR_F, sR_A, sR_J, sR_B, sR_R, sR_all, fX2_wordFeatures_l4, fX2_wordFeatures_b36_4, e2, e31]
      exact K
    · rw [if_neg c] at e31
      have nz : ¬ nI so = nI 0 := fun e => c ((nI_eq (by omega) (by decide)).mp e)
      have K := K (y ||| (nI 1 <<< (nI i &&& 31))) ⟨fun f hf => by
        rw [bt_or, bt_shl i (by omega) f (by omega)]
        by_cases d : f = i
        · subst d; unfold nzs; rw [es', decide_eq_true nz]; simp
        · rw [decide_eq_false d, h1 f (by omega)]; simp, fun f h3 h4 => by
        rw [bt_or, bt_shl i (by omega) f h4, h2 f (by omega) h4, decide_eq_false (show ¬ f = i by omega)]; rfl⟩
      simp (disch := omega) only [li0, li1, li2, li3, li4, li5, li6, li12, li13, li14, li15, li16, li17, li32, li33, li39, li60, li65, li90, li91, li93, li97, li100, li122, li126, li200, li800, li1000, li1400, li2800, li3432, li9999, li10000000, ↓lm1, ↓lm2, ↓lm3, ↓lm4, ↓lm9, le_T, le_F, lt_T, lt_F, eq_F, eq_T, vp_T, mle_F, mle_T, mlt_F, mlt_T, meq_F, meq_F', mne, aR, mR, sR', nI_clamp, br_nT, br_nF, ex_s, true_implies, false_implies, not_true_eq_false, not_false_eq_true, true_and, and_true, forall_eq, implies_true, and_self, reduceIte, reduceCtorEq, Nat.reduceEqDiff, Nat.reduceAdd, Nat.reduceMul, Nat.reduceSub, ite_true, ite_false, if_true, if_false, eq_self, and_false, false_and, fa_s, fa_n, cfF, cfA, cfJ, cfB, cfR, mfF, mfA, mfJ, mfB, mfR, c_foundE, m_meetsE, fX11_isSheet, fX11_in, fX10_sheetAt, fX10_sheetAt_b22, fX10_textAt, fX10_textAt_b22, fX11_isText, fX2_has, fX11_isFeature, nar_byte, byte_i, lg_gt, lg_eq, lg_lt, all_A, sF_F, sF_A, sF_J, sF_B, sF_R, sF_all, sA_F, sA_A, sA_J, sA_B, sA_R, sA_all, sJ_F, sJ_A, sJ_J, sJ_B, sJ_R, sJ_all, sB_F, sB_A, sB_J, sB_B, sB_R, sB_all, sR_F, sR_A, sR_J, sR_B, sR_R, sR_all, fX2_wordFeatures_l4, fX2_wordFeatures_b36_4, e2, e31]
      exact K
