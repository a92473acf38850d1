/-- all but the tree's own rows is kept -/
def TR (σ s : St) : Prop := (∀ K i j, trF K i = true → K ≠ 9 → sF s K i j = sF σ K i j) ∧ (∀ K i j, trA K i = true → K ≠ 42 → K ≠ 43 → K ≠ 44 → sA s K i j = sA σ K i j) ∧ sJ s = sJ σ ∧ sR s = sR σ ∧ RS σ s
theorem TR.rfl' {σ : St} : TR σ σ := ⟨fun _ _ _ _ _ => rfl, fun _ _ _ _ _ _ _ => rfl, rfl, rfl, RS.rfl'⟩
theorem TR.trans {a b c : St} (h1 : TR a b) (h2 : TR b c) : TR a c := ⟨fun K i j t e => (h2.1 K i j t e).trans (h1.1 K i j t e), fun K i j t e1 e2 e3 => (h2.2.1 K i j t e1 e2 e3).trans (h1.2.1 K i j t e1 e2 e3), h2.2.2.1.trans h1.2.2.1, h2.2.2.2.1.trans h1.2.2.2.1, h1.2.2.2.2.trans h2.2.2.2.2⟩
theorem tr_kp {a b : St} (h : KP a b) : TR a b := ⟨fun K i j t _ => h.1.1 K i j t, fun K i j t _ _ _ => h.1.2.1 K i j t, h.1.2.2.1, h.1.2.2.2, h.2⟩
theorem tr_A4 {s : St} {K i j : Nat} {x : Int32} (h : K = 42 ∨ K = 43 ∨ K = 44) : TR s (setA s K i j x) := by
  refine ⟨fun _ _ _ _ _ => rfl, fun K' i' j' t e1 e2 e3 => ?_, rfl, rfl, rs_A (by omega)⟩
  rw [sA_A, if_neg (fun z => by omega)]
theorem tr_F9 {s : St} {i j : Nat} {x : Int32} : TR s (setF s 9 i j x) := by
  refine ⟨fun K' i' j' t e => ?_, fun _ _ _ _ _ _ _ => rfl, rfl, rfl, rs_F (by decide) (by decide)⟩
  rw [sF_F, if_neg (fun z => e z.1)]
theorem CT_t {σ σ' : St} {n m : Nat} (h : CT σ n m) (s : TR σ σ') : CT σ' n m := by
  obtain ⟨sf, sa, sj, sr, -⟩ := s
  have kA : ∀ K, (∀ i, trA K i = true) → K ≠ 42 → K ≠ 43 → K ≠ 44 → sA σ' K = sA σ K := fun K t e1 e2 e3 => funext fun i => funext fun j => sa K i j (t i) e1 e2 e3
  have kA0 : ∀ K, trA K 0 = true → K ≠ 42 → K ≠ 43 → K ≠ 44 → sA σ' K 0 = sA σ K 0 := fun K t e1 e2 e3 => funext fun j => sa K 0 j t e1 e2 e3
  have kF : ∀ K, (∀ i, trF K i = true) → K ≠ 9 → sF σ' K = sF σ K := fun K t e => funext fun i => funext fun j => sf K i j (t i) e
  obtain ⟨hn, hm, g1, g4, g5, g6⟩ := h
  have m10 := kF 10 (fun _ => rfl) (by decide)
  have m11 := kF 11 (fun _ => rfl) (by decide)
  have m2 := kF 2 (fun _ => rfl) (by decide)
  have m8 := kF 8 (fun _ => rfl) (by decide)
  have m0 := kF 0 (fun _ => rfl) (by decide)
  refine ⟨hn, hm, G1_c g1 (by rw [m10]) (by rw [m11]) (by rw [m2]) (by rw [m11]) sr (kA _ (fun _ => rfl) (by decide) (by decide) (by decide)), fun t ht => ?_, G5_c g5 m0 (kA _ (fun _ => rfl) (by decide) (by decide) (by decide)) (kA _ (fun _ => rfl) (by decide) (by decide) (by decide)) (kA _ (fun _ => rfl) (by decide) (by decide) (by decide)) (kA _ (fun _ => rfl) (by decide) (by decide) (by decide)) (kA _ (fun _ => rfl) (by decide) (by decide) (by decide)) (kA _ (fun _ => rfl) (by decide) (by decide) (by decide)), ?_⟩
  · have t4 : decide (t < 14) = true := decide_eq_true (by omega)
    refine Tx_c (g4 t ht) (funext fun j => sf 4 t j (by unfold trF; rw [t4]; rfl) (by decide)) (funext fun j => sf 7 t j (by unfold trF; rw [t4]; rfl) (by decide)) (by rw [m8]) (funext fun j => sa 25 t j (by unfold trA; rw [t4]; rfl) (by decide) (by decide) (by decide)) (funext fun j => sa 26 t j (by unfold trA; rw [t4]; rfl) (by decide) (by decide) (by decide)) (funext fun j => sa 27 t j (by unfold trA; rw [t4]; rfl) (by decide) (by decide) (by decide)) (fun K h1 h2 => kA0 K ?_ (by omega) (by omega) (by omega))
    rcases (show K = 67 ∨ K = 68 ∨ K = 69 ∨ K = 70 ∨ K = 71 ∨ K = 72 ∨ K = 73 ∨ K = 74 ∨ K = 75 ∨ K = 76 ∨ K = 77 by omega) with rfl | rfl | rfl | rfl | rfl | rfl | rfl | rfl | rfl | rfl | rfl <;> rfl
  · exact G6_c g6 (fun t ht => funext fun j => sa 29 t j (by unfold trA; rw [decide_eq_true (show t < 14 by omega)]; rfl) (by decide) (by decide) (by decide)) (kA _ (fun _ => rfl) (by decide) (by decide) (by decide)) (kA _ (fun _ => rfl) (by decide) (by decide) (by decide)) (kA _ (fun _ => rfl) (by decide) (by decide) (by decide)) (kA _ (fun _ => rfl) (by decide) (by decide) (by decide)) (kA _ (fun _ => rfl) (by decide) (by decide) (by decide)) (kA _ (fun _ => rfl) (by decide) (by decide) (by decide)) (kA _ (fun _ => rfl) (by decide) (by decide) (by decide)) (kA _ (fun _ => rfl) (by decide) (by decide) (by decide)) (kA _ (fun _ => rfl) (by decide) (by decide) (by decide))
/-- a tally holds the sums of a set -/
def GS (σ s : St) (n m T : Nat) (M : Int32) : Prop := (∀ f, f < m → sA s 29 T f = nI (sb (bt M) (cnt σ f) n)) ∧ sF s 7 T 1 = nI (sb (bt M) (nwM σ) n) ∧ sF s 7 T 2 = nI (sb (bt M) (mkM σ) n)
def GR (σ s : St) (n m row : Nat) (M : Int32) : Prop := ∀ f, f < m → sA s 23 row f = nI (rtM σ n M f)
/-- a group of the tree -/
def GH (σ s : St) (n m i : Nat) (M : Int32) : Prop := sA s 41 0 i = (if M = nI 0 then nI 0 else nI 1) ∧ (M ≠ nI 0 → GS σ s n m (16 + i) M ∧ GR σ s n m (9 + i) M)
theorem grp_rates {N n m T row : Nat} {σ s : St} {M : Int32} {Q : St → Prop} (hN : 1000 ≤ N) (ct' : CT σ n m) (tr : TR σ s) (gs : GS σ s n m T M) (h : ∀ F : Nat → Int32, (∀ f, f < m → F f = nI (rtM σ n M f)) → Q (setAll s 23 row F)) : fX2_readRates N s T row Q := by
  have rt := ct'.rt
  have hm := ct'.2.1
  have cs := CT_t ct' tr
  have sm1 := tr.2.2.2.2.sm
  refine readRates_sp hN hm cs.2.2.1.2.2.1 (r := rtM σ n M) (fun F f hf Q hq => ?_) h
  have ft := cs.2.2.2.2.1 f hf
  obtain ⟨so, hso, es, -⟩ := id ft
  have es' : sA σ 79 0 f = nI so := by rw [← sm1.2 79 (by decide) (by decide)]; exact es
  obtain ⟨b1, b2, b3⟩ := sm_bd rt (bt M)
  refine crate_sp (m := m) (so := so) (c := sb (bt M) (cnt σ f) n) (w1 := sb (bt M) (nwM σ) n) (w2 := sb (bt M) (mkM σ) n) hf hm (by have q : G5 m (setAll s 23 row F) := by { have g5 := cs.2.2.2.2.1; exact (G5_c g5 (by simp [sFx, sAx, sLx, sJx, sBx, sF_F, sF_A, sF_J, sF_B, sF_R, sF_all, sA_F, sA_A, sA_J, sA_B, sA_R, sA_all, sJ_F, sJ_A, sJ_J, sJ_B, sJ_R, sJ_all, sB_F, sB_A, sB_J, sB_B, sB_R, sB_all, sR_F, sR_A, sR_J, sR_B, sR_R, sR_all]) (by simp [sFx, sAx, sLx, sJx, sBx, sF_F, sF_A, sF_J, sF_B, sF_R, sF_all, sA_F, sA_A, sA_J, sA_B, sA_R, sA_all, sJ_F, sJ_A, sJ_J, sJ_B, sJ_R, sJ_all, sB_F, sB_A, sB_J, sB_B, sB_R, sB_all, sR_F, sR_A, sR_J, sR_B, sR_R, sR_all]) (by simp [sFx, sAx, sLx, sJx, sBx, sF_F, sF_A, sF_J, sF_B, sF_R, sF_all, sA_F, sA_A, sA_J, sA_B, sA_R, sA_all, sJ_F, sJ_A, sJ_J, sJ_B, sJ_R, sJ_all, sB_F, sB_A, sB_J, sB_B, sB_R, sB_all, sR_F, sR_A, sR_J, sR_B, sR_R, sR_all]) (by simp [sFx, sAx, sLx, sJx, sBx, sF_F, sF_A, sF_J, sF_B, sF_R, sF_all, sA_F, sA_A, sA_J, sA_B, sA_R, sA_all, sJ_F, sJ_A, sJ_J, sJ_B, sJ_R, sJ_all, sB_F, sB_A, sB_J, sB_B, sB_R, sB_all, sR_F, sR_A, sR_J, sR_B, sR_R, sR_all]) (by simp [sFx, sAx, sLx, sJx, sBx, sF_F, sF_A, sF_J, sF_B, sF_R, sF_all, sA_F, sA_A, sA_J, sA_B, sA_R, sA_all, sJ_F, sJ_A, sJ_J, sJ_B, sJ_R, sJ_all, sB_F, sB_A, sB_J, sB_B, sB_R, sB_all, sR_F, sR_A, sR_J, sR_B, sR_R, sR_all]) (by simp [sFx, sAx, sLx, sJx, sBx, sF_F, sF_A, sF_J, sF_B, sF_R, sF_all, sA_F, sA_A, sA_J, sA_B, sA_R, sA_all, sJ_F, sJ_A, sJ_J, sJ_B, sJ_R, sJ_all, sB_F, sB_A, sB_J, sB_B, sB_R, sB_all, sR_F, sR_A, sR_J, sR_B, sR_R, sR_all]) (by simp [sFx, sAx, sLx, sJx, sBx, sF_F, sF_A, sF_J, sF_B, sF_R, sF_all, sA_F, sA_A, sA_J, sA_B, sA_R, sA_all, sJ_F, sJ_A, sJ_J, sJ_B, sJ_R, sJ_all, sB_F, sB_A, sB_J, sB_B, sB_R, sB_all, sR_F, sR_A, sR_J, sR_B, sR_R, sR_all])) }; exact q f hf) (by simp only [sF_F, sF_A, sF_J, sF_B, sF_R, sF_all, sA_F, sA_A, sA_J, sA_B, sA_R, sA_all, sJ_F, sJ_A, sJ_J, sJ_B, sJ_R, sJ_all, sB_F, sB_A, sB_J, sB_B, sB_R, sB_all, sR_F, sR_A, sR_J, sR_B, sR_R, sR_all]; rw [if_neg (fun z => absurd z.1 (by decide))]; exact es) hso ?_ ?_ ?_ (by omega) (by omega) ?_
  · simp only [sF_F, sF_A, sF_J, sF_B, sF_R, sF_all, sA_F, sA_A, sA_J, sA_B, sA_R, sA_all, sJ_F, sJ_A, sJ_J, sJ_B, sJ_R, sJ_all, sB_F, sB_A, sB_J, sB_B, sB_R, sB_all, sR_F, sR_A, sR_J, sR_B, sR_R, sR_all]; rw [if_neg (fun z => absurd z.1 (by decide))]; exact gs.1 f hf
  · exact gs.2.1
  · exact gs.2.2
  · rw [← sb_wh es', rv_nI (by have := (b3 f).1; omega) (by have := (b3 f).2; omega)]
    exact hq
theorem add2_sp {N t T : Nat} {σ : St} {Q : St → Prop} (hN : 1000 ≤ N) (ht : t ≠ T) (h : ∀ F : Nat → Int32, (∀ f, f < 12 → F f = sA σ 29 T f + sA σ 29 t f) → Q (setF (setF (setAll σ 29 T F) 7 T 1 (sF σ 7 T 1 + sF σ 7 t 1)) 7 T 2 (sF σ 7 T 2 + sF σ 7 t 2))) : fX7_add N σ T t Q := by
  have ne : (t = T) = False := eq_false ht
  have key : ∀ Kc : St → Prop, (∀ F : Nat → Int32, (∀ f, f < 12 → F f = sA σ 29 T f + sA σ 29 t f) → Kc (setAll σ 29 T F)) → fX7_add_l2 N T t Q Kc N σ (nI 0) := by
   intro Kc h
   refine lpU (fun k i (x : St) => fX7_add_l2 N T t Q Kc k x (nI i)) (fun i x => ∃ F : Nat → Int32, x = setAll σ 29 T F ∧ ∀ f, F f = if f < i then sA σ 29 T f + sA σ 29 t f else sA σ 29 T f) 12 N ?_ ?_ 0 σ (by omega) (by omega) ⟨sA σ 29 T, (all_self σ 29 T).symm, fun f => by rw [if_neg (by omega)]⟩
   · rintro k x ⟨F, rfl, hF⟩
     have q := h F (fun f hf => by rw [hF f, if_pos hf])
     simp (disch := omega) only [li0, li1, li2, li3, li4, li5, li6, li12, li13, li14, li15, li16, li17, li32, li33, li39, li60, li65, li90, li91, li93, li97, li100, li122, li126, li200, li800, li1000, li1400, li2800, li3432, li9999, li10000000, ↓lm1, ↓lm2, ↓lm3, ↓lm4, ↓lm9, le_T, le_F, lt_T, lt_F, eq_F, eq_T, vp_T, mle_F, mle_T, mlt_F, mlt_T, meq_F, meq_F', mne, aR, mR, sR', nI_clamp, br_nT, br_nF, ex_s, true_implies, false_implies, not_true_eq_false, not_false_eq_true, true_and, and_true, forall_eq, implies_true, and_self, reduceIte, reduceCtorEq, Nat.reduceEqDiff, Nat.reduceAdd, Nat.reduceMul, Nat.reduceSub, ite_true, ite_false, if_true, if_false, eq_self, and_false, false_and, fa_s, fa_n, cfF, cfA, cfJ, cfB, cfR, mfF, mfA, mfJ, mfB, mfR, c_foundE, m_meetsE, fX11_isSheet, fX11_in, fX10_sheetAt, fX10_sheetAt_b22, fX10_textAt, fX10_textAt_b22, fX11_isText, fX2_has, fX11_isFeature, nar_byte, byte_i, lg_gt, lg_eq, lg_lt, all_A, sF_F, sF_A, sF_J, sF_B, sF_R, sF_all, sA_F, sA_A, sA_J, sA_B, sA_R, sA_all, sJ_F, sJ_A, sJ_J, sJ_B, sJ_R, sJ_all, sB_F, sB_A, sB_J, sB_B, sB_R, sB_all, sR_F, sR_A, sR_J, sR_B, sR_R, sR_all, fX7_add_l2, ne]
     exact q
   · rintro k i x hi ⟨F, rfl, hF⟩ K
     have e := hF i
     rw [if_neg (by omega)] at e
     simp (disch := omega) only [li0, li1, li2, li3, li4, li5, li6, li12, li13, li14, li15, li16, li17, li32, li33, li39, li60, li65, li90, li91, li93, li97, li100, li122, li126, li200, li800, li1000, li1400, li2800, li3432, li9999, li10000000, ↓lm1, ↓lm2, ↓lm3, ↓lm4, ↓lm9, le_T, le_F, lt_T, lt_F, eq_F, eq_T, vp_T, mle_F, mle_T, mlt_F, mlt_T, meq_F, meq_F', mne, aR, mR, sR', nI_clamp, br_nT, br_nF, ex_s, true_implies, false_implies, not_true_eq_false, not_false_eq_true, true_and, and_true, forall_eq, implies_true, and_self, reduceIte, reduceCtorEq, Nat.reduceEqDiff, Nat.reduceAdd, Nat.reduceMul, Nat.reduceSub, ite_true, ite_false, if_true, if_false, eq_self, and_false, false_and, fa_s, fa_n, cfF, cfA, cfJ, cfB, cfR, mfF, mfA, mfJ, mfB, mfR, c_foundE, m_meetsE, fX11_isSheet, fX11_in, fX10_sheetAt, fX10_sheetAt_b22, fX10_textAt, fX10_textAt_b22, fX11_isText, fX2_has, fX11_isFeature, nar_byte, byte_i, lg_gt, lg_eq, lg_lt, all_A, sF_F, sF_A, sF_J, sF_B, sF_R, sF_all, sA_F, sA_A, sA_J, sA_B, sA_R, sA_all, sJ_F, sJ_A, sJ_J, sJ_B, sJ_R, sJ_all, sB_F, sB_A, sB_J, sB_B, sB_R, sB_all, sR_F, sR_A, sR_J, sR_B, sR_R, sR_all, fX7_add_l2, ne, e]
     refine K _ ⟨_, rfl, fun f => ?_⟩
     unfold upd
     by_cases c : f = i
     · subst c; rw [if_pos rfl, if_pos (by omega)]
     · rw [if_neg c, hF f]
       by_cases c2 : f < i
       · rw [if_pos c2, if_pos (by omega)]
       · rw [if_neg c2, if_neg (by omega)]
  unfold fX7_add
  refine key _ (fun F hF => ?_)
  have q := h F hF
  simp (disch := omega) only [li0, li1, li2, li3, li4, li5, li6, li12, li13, li14, li15, li16, li17, li32, li33, li39, li60, li65, li90, li91, li93, li97, li100, li122, li126, li200, li800, li1000, li1400, li2800, li3432, li9999, li10000000, ↓lm1, ↓lm2, ↓lm3, ↓lm4, ↓lm9, le_T, le_F, lt_T, lt_F, eq_F, eq_T, vp_T, mle_F, mle_T, mlt_F, mlt_T, meq_F, meq_F', mne, aR, mR, sR', nI_clamp, br_nT, br_nF, ex_s, true_implies, false_implies, not_true_eq_false, not_false_eq_true, true_and, and_true, forall_eq, implies_true, and_self, reduceIte, reduceCtorEq, Nat.reduceEqDiff, Nat.reduceAdd, Nat.reduceMul, Nat.reduceSub, ite_true, ite_false, if_true, if_false, eq_self, and_false, false_and, fa_s, fa_n, cfF, cfA, cfJ, cfB, cfR, mfF, mfA, mfJ, mfB, mfR, c_foundE, m_meetsE, fX11_isSheet, fX11_in, fX10_sheetAt, fX10_sheetAt_b22, fX10_textAt, fX10_textAt_b22, fX11_isText, fX2_has, fX11_isFeature, nar_byte, byte_i, lg_gt, lg_eq, lg_lt, all_A, sF_F, sF_A, sF_J, sF_B, sF_R, sF_all, sA_F, sA_A, sA_J, sA_B, sA_R, sA_all, sJ_F, sJ_A, sJ_J, sJ_B, sJ_R, sJ_all, sB_F, sB_A, sB_J, sB_B, sB_R, sB_all, sR_F, sR_A, sR_J, sR_B, sR_R, sR_all, ne]
  exact q
/-- a change of the group g alone -/
def BG (g : Nat) (s s' : St) : Prop := TR s s' ∧ sF s' 9 = sF s 9 ∧ sA s' 42 = sA s 42 ∧ sA s' 43 = sA s 43 ∧ sA s' 44 = sA s 44 ∧ ∀ i, i ≠ g → sA s' 41 0 i = sA s 41 0 i ∧ sA s' 29 (16 + i) = sA s 29 (16 + i) ∧ sF s' 7 (16 + i) = sF s 7 (16 + i) ∧ sA s' 23 (9 + i) = sA s 23 (9 + i)
theorem BG.trans {g : Nat} {a b c : St} (h1 : BG g a b) (h2 : BG g b c) : BG g a c := ⟨h1.1.trans h2.1, h2.2.1.trans h1.2.1, h2.2.2.1.trans h1.2.2.1, h2.2.2.2.1.trans h1.2.2.2.1, h2.2.2.2.2.1.trans h1.2.2.2.2.1, fun i hi => ⟨(h2.2.2.2.2.2 i hi).1.trans (h1.2.2.2.2.2 i hi).1, (h2.2.2.2.2.2 i hi).2.1.trans (h1.2.2.2.2.2 i hi).2.1, (h2.2.2.2.2.2 i hi).2.2.1.trans (h1.2.2.2.2.2 i hi).2.2.1, (h2.2.2.2.2.2 i hi).2.2.2.trans (h1.2.2.2.2.2 i hi).2.2.2⟩⟩
theorem bg_41 {g : Nat} {s : St} {v : Int32} : BG g s (setA s 41 0 g v) := by
  refine ⟨tr_kp (kp_A (by decide) rfl), rfl, sAx (by decide), sAx (by decide), sAx (by decide), fun i hi => ⟨?_, ?_, rfl, ?_⟩⟩
  · rw [sA_A, if_neg (fun z => hi z.2.2)]
  · rw [sAx (by decide)]
  · rw [sAx (by decide)]
theorem bg_29 {g : Nat} {s : St} {F : Nat → Int32} : BG g s (setAll s 29 (16 + g) F) := by
  refine ⟨tr_kp (kp_all (by decide) (by unfold trA; rw [decide_eq_false (show ¬ 16 + g < 14 by omega)]; rfl)), rfl, sLx (by decide), sLx (by decide), sLx (by decide), fun i hi => ⟨?_, ?_, rfl, ?_⟩⟩
  · rw [sLx (by decide)]
  · rw [sA_all, if_neg (fun z => by omega)]
  · rw [sLx (by decide)]
theorem bg_23 {g : Nat} {s : St} {F : Nat → Int32} : BG g s (setAll s 23 (9 + g) F) := by
  refine ⟨tr_kp (kp_all (by decide) rfl), rfl, sLx (by decide), sLx (by decide), sLx (by decide), fun i hi => ⟨?_, ?_, rfl, ?_⟩⟩
  · rw [sLx (by decide)]
  · rw [sLx (by decide)]
  · rw [sA_all, if_neg (fun z => by omega)]
theorem bg_7 {g j : Nat} {s : St} {v : Int32} : BG g s (setF s 7 (16 + g) j v) := by
  refine ⟨tr_kp (kp_F (by decide) (by decide) (by unfold trF; rw [decide_eq_false (show ¬ 16 + g < 14 by omega)]; rfl)), sFx (by decide), rfl, rfl, rfl, fun i hi => ⟨rfl, rfl, ?_, rfl⟩⟩
  funext q; rw [sF_F, if_neg (fun z => by omega)]
theorem gh_keep {σ s s' : St} {n m g i : Nat} {M : Int32} (b : BG g s s') (hi : i ≠ g) (h : GH σ s n m i M) : GH σ s' n m i M := by
  obtain ⟨e1, e2, e3, e4⟩ := b.2.2.2.2.2 i hi
  unfold GH GS GR at h ⊢
  rw [e1, e2, e3, e4]; exact h
/-- the groups at first: each text alone -/
def ms0 (σ : St) (n i : Nat) : Int32 := if i < n ∧ sA σ 70 0 i = nI 0 then nI 1 <<< (nI i &&& 31) else nI 0
theorem shl_n0 {i : Nat} (hi : i < 14) : nI 1 <<< (nI i &&& 31) ≠ nI 0 := by
  intro e
  have q := bt_eq0.mp e i (by omega)
  rw [bt_shl i (by omega) i (by omega)] at q
  simp at q
theorem WM_0 {σ : St} {n : Nat} (hn : n ≤ 14) : WM (ms0 σ n) n := by
  refine ⟨fun i hi => if_neg (fun z => by omega), fun i j hij t ht => ?_⟩
  have z : bt (nI 0) t = false := bt_0 t
  unfold ms0
  by_cases c1 : i < n ∧ sA σ 70 0 i = nI 0
  · by_cases c2 : j < n ∧ sA σ 70 0 j = nI 0
    · rw [if_pos c1, if_pos c2, bt_shl i (by omega) t ht, bt_shl j (by omega) t ht]
      simp; omega
    · rw [if_neg c2, z]; simp
  · rw [if_neg c1, z]; simp
theorem lv_0 {σ : St} {n : Nat} (hn : n ≤ 14) : ct (lv (ms0 σ n)) n = ct (fun t => decide (sA σ 70 0 t = nI 0)) n := by
  refine ct_c n (fun i hi => ?_)
  unfold lv ms0
  by_cases c : sA σ 70 0 i = nI 0
  · rw [if_pos ⟨hi, c⟩, decide_eq_true (shl_n0 (by omega)), decide_eq_true c]
  · rw [if_neg (fun z => c z.2), decide_eq_false c]; simp
theorem sb_z {g : Nat → Nat} {n : Nat} : sb (bt (nI 0)) g n = 0 := sb_0 (fun i _ => bt_0 i)
theorem sb_one {g : Nat → Nat} {n t : Nat} (hn : n ≤ 14) (ht : t < n) : sb (bt (nI 1 <<< (nI t &&& 31))) g n = g t := by
  rw [sb_c (q := fun s => decide (s = t)) (k := g) (fun i hi => bt_shl t (by omega) i (by omega)) (fun _ _ => rfl), sb_1 ht]
theorem begin_sp {N n m g : Nat} {σ s : St} {Q : St → Prop} (hN : 1000 ≤ N) (ct' : CT σ n m) (tr : TR σ s) (hg : g < 14) (h : ∀ s', BG g s s' → GH σ s' n m g (ms0 σ n g) → Q s') : fX9_begin N s (nI g) (sR s 21 0 g) Q := by
  have hn := ct'.1
  have hm := ct'.2.1
  have cs := CT_t ct' tr
  have r21 := cs.2.2.1.2.2.2.2.2.1 g
  have r39 := cs.2.2.1.2.2.2.2.2.2.2.2.1 g
  have r40 := cs.2.2.1.2.2.2.2.2.2.2.2.2.1 g
  rw [if_pos hg] at r39 r40
  have gone : ms0 σ n g = nI 0 → fX7_clear N (setA s 41 0 g (nI 0)) (16 + g) (fun σ10 => fX9_begin_b57 N (nI g) none Q σ10) := by
    intro e0
    refine clear_sp hN (fun F hF => ?_)
    simp (disch := omega) only [li0, li1, li2, li3, li4, li5, li6, li12, li13, li14, li15, li16, li17, li32, li33, li39, li60, li65, li90, li91, li93, li97, li100, li122, li126, li200, li800, li1000, li1400, li2800, li3432, li9999, li10000000, ↓lm1, ↓lm2, ↓lm3, ↓lm4, ↓lm9, le_T, le_F, lt_T, lt_F, eq_F, eq_T, vp_T, mle_F, mle_T, mlt_F, mlt_T, meq_F, meq_F', mne, aR, mR, sR', nI_clamp, br_nT, br_nF, ex_s, true_implies, false_implies, not_true_eq_false, not_false_eq_true, true_and, and_true, forall_eq, implies_true, and_self, reduceIte, reduceCtorEq, Nat.reduceEqDiff, Nat.reduceAdd, Nat.reduceMul, Nat.reduceSub, ite_true, ite_false, if_true, if_false, eq_self, and_false, false_and, fa_s, fa_n, cfF, cfA, cfJ, cfB, cfR, mfF, mfA, mfJ, mfB, mfR, c_foundE, m_meetsE, fX11_isSheet, fX11_in, fX10_sheetAt, fX10_sheetAt_b22, fX10_textAt, fX10_textAt_b22, fX11_isText, fX2_has, fX11_isFeature, nar_byte, byte_i, lg_gt, lg_eq, lg_lt, all_A, sF_F, sF_A, sF_J, sF_B, sF_R, sF_all, sA_F, sA_A, sA_J, sA_B, sA_R, sA_all, sJ_F, sJ_A, sJ_J, sJ_B, sJ_R, sJ_all, sB_F, sB_A, sB_J, sB_B, sB_R, sB_all, sR_F, sR_A, sR_J, sR_B, sR_R, sR_all, fX9_begin_b57, r39, r40]
    have b1 : BG g s (setF (setF (setAll (setA s 41 0 g (nI 0)) 29 (16 + g) F) 7 (16 + g) 1 (nI 0)) 7 (16 + g) 2 (nI 0)) := ((bg_41.trans bg_29).trans bg_7).trans bg_7
    have gs : GS σ (setF (setF (setAll (setA s 41 0 g (nI 0)) 29 (16 + g) F) 7 (16 + g) 1 (nI 0)) 7 (16 + g) 2 (nI 0)) n m (16 + g) (nI 0) := by
      unfold GS
      refine ⟨fun f hf => ?_, ?_, ?_⟩
      · rw [sb_z]; simp only [sF_F, sF_A, sF_J, sF_B, sF_R, sF_all, sA_F, sA_A, sA_J, sA_B, sA_R, sA_all, sJ_F, sJ_A, sJ_J, sJ_B, sJ_R, sJ_all, sB_F, sB_A, sB_J, sB_B, sB_R, sB_all, sR_F, sR_A, sR_J, sR_B, sR_R, sR_all]; simp only [and_self, if_true]; exact hF f (by omega)
      · rw [sb_z]; simp [sF_F, sF_A, sF_J, sF_B, sF_R, sF_all, sA_F, sA_A, sA_J, sA_B, sA_R, sA_all, sJ_F, sJ_A, sJ_J, sJ_B, sJ_R, sJ_all, sB_F, sB_A, sB_J, sB_B, sB_R, sB_all, sR_F, sR_A, sR_J, sR_B, sR_R, sR_all]
      · rw [sb_z]; simp [sF_F, sF_A, sF_J, sF_B, sF_R, sF_all, sA_F, sA_A, sA_J, sA_B, sA_R, sA_all, sJ_F, sJ_A, sJ_J, sJ_B, sJ_R, sJ_all, sB_F, sB_A, sB_J, sB_B, sB_R, sB_all, sR_F, sR_A, sR_J, sR_B, sR_R, sR_all]
    refine grp_rates (M := nI 0) hN ct' (tr.trans b1.1) gs (fun G hG => ?_)
    refine h _ (b1.trans bg_23) ?_
    rw [e0]
    exact ⟨by simp [sF_F, sF_A, sF_J, sF_B, sF_R, sF_all, sA_F, sA_A, sA_J, sA_B, sA_R, sA_all, sJ_F, sJ_A, sJ_J, sJ_B, sJ_R, sJ_all, sB_F, sB_A, sB_J, sB_B, sB_R, sB_all, sR_F, sR_A, sR_J, sR_B, sR_R, sR_all], fun z => absurd rfl z⟩
  by_cases c : g < n
  · rw [if_pos c] at r21
    have x5 := (cs.2.2.2.1 g c).2.2.2.2.1.2.2.2
    have e70 : sA s 70 0 g = sA σ 70 0 g := by rw [tr.2.2.2.2.2.1 70 (by decide)]
    rw [e70] at x5
    by_cases c2 : sA σ 70 0 g = nI 0
    · rw [r21]
      simp (disch := omega) only [li0, li1, li2, li3, li4, li5, li6, li12, li13, li14, li15, li16, li17, li32, li33, li39, li60, li65, li90, li91, li93, li97, li100, li122, li126, li200, li800, li1000, li1400, li2800, li3432, li9999, li10000000, ↓lm1, ↓lm2, ↓lm3, ↓lm4, ↓lm9, le_T, le_F, lt_T, lt_F, eq_F, eq_T, vp_T, mle_F, mle_T, mlt_F, mlt_T, meq_F, meq_F', mne, aR, mR, sR', nI_clamp, br_nT, br_nF, ex_s, true_implies, false_implies, not_true_eq_false, not_false_eq_true, true_and, and_true, forall_eq, implies_true, and_self, reduceIte, reduceCtorEq, Nat.reduceEqDiff, Nat.reduceAdd, Nat.reduceMul, Nat.reduceSub, ite_true, ite_false, if_true, if_false, eq_self, and_false, false_and, fa_s, fa_n, cfF, cfA, cfJ, cfB, cfR, mfF, mfA, mfJ, mfB, mfR, c_foundE, m_meetsE, fX11_isSheet, fX11_in, fX10_sheetAt, fX10_sheetAt_b22, fX10_textAt, fX10_textAt_b22, fX11_isText, fX2_has, fX11_isFeature, nar_byte, byte_i, lg_gt, lg_eq, lg_lt, all_A, sF_F, sF_A, sF_J, sF_B, sF_R, sF_all, sA_F, sA_A, sA_J, sA_B, sA_R, sA_all, sJ_F, sJ_A, sJ_J, sJ_B, sJ_R, sJ_all, sB_F, sB_A, sB_J, sB_B, sB_R, sB_all, sR_F, sR_A, sR_J, sR_B, sR_R, sR_all, fX9_begin, fX9_begin_b20, fX9_begin_b21, fX9_begin_b57, x5, c2, r39, r40, nar_b1]
      refine clear_sp hN (fun F hF => ?_)
      simp (disch := omega) only [li0, li1, li2, li3, li4, li5, li6, li12, li13, li14, li15, li16, li17, li32, li33, li39, li60, li65, li90, li91, li93, li97, li100, li122, li126, li200, li800, li1000, li1400, li2800, li3432, li9999, li10000000, ↓lm1, ↓lm2, ↓lm3, ↓lm4, ↓lm9, le_T, le_F, lt_T, lt_F, eq_F, eq_T, vp_T, mle_F, mle_T, mlt_F, mlt_T, meq_F, meq_F', mne, aR, mR, sR', nI_clamp, br_nT, br_nF, ex_s, true_implies, false_implies, not_true_eq_false, not_false_eq_true, true_and, and_true, forall_eq, implies_true, and_self, reduceIte, reduceCtorEq, Nat.reduceEqDiff, Nat.reduceAdd, Nat.reduceMul, Nat.reduceSub, ite_true, ite_false, if_true, if_false, eq_self, and_false, false_and, fa_s, fa_n, cfF, cfA, cfJ, cfB, cfR, mfF, mfA, mfJ, mfB, mfR, c_foundE, m_meetsE, fX11_isSheet, fX11_in, fX10_sheetAt, fX10_sheetAt_b22, fX10_textAt, fX10_textAt_b22, fX11_isText, fX2_has, fX11_isFeature, nar_byte, byte_i, lg_gt, lg_eq, lg_lt, all_A, sF_F, sF_A, sF_J, sF_B, sF_R, sF_all, sA_F, sA_A, sA_J, sA_B, sA_R, sA_all, sJ_F, sJ_A, sJ_J, sJ_B, sJ_R, sJ_all, sB_F, sB_A, sB_J, sB_B, sB_R, sB_all, sR_F, sR_A, sR_J, sR_B, sR_R, sR_all, r39, r40]
      refine add2_sp hN (by omega) (fun F2 hF2 => ?_)
      simp (disch := omega) only [li0, li1, li2, li3, li4, li5, li6, li12, li13, li14, li15, li16, li17, li32, li33, li39, li60, li65, li90, li91, li93, li97, li100, li122, li126, li200, li800, li1000, li1400, li2800, li3432, li9999, li10000000, ↓lm1, ↓lm2, ↓lm3, ↓lm4, ↓lm9, le_T, le_F, lt_T, lt_F, eq_F, eq_T, vp_T, mle_F, mle_T, mlt_F, mlt_T, meq_F, meq_F', mne, aR, mR, sR', nI_clamp, br_nT, br_nF, ex_s, true_implies, false_implies, not_true_eq_false, not_false_eq_true, true_and, and_true, forall_eq, implies_true, and_self, reduceIte, reduceCtorEq, Nat.reduceEqDiff, Nat.reduceAdd, Nat.reduceMul, Nat.reduceSub, ite_true, ite_false, if_true, if_false, eq_self, and_false, false_and, fa_s, fa_n, cfF, cfA, cfJ, cfB, cfR, mfF, mfA, mfJ, mfB, mfR, c_foundE, m_meetsE, fX11_isSheet, fX11_in, fX10_sheetAt, fX10_sheetAt_b22, fX10_textAt, fX10_textAt_b22, fX11_isText, fX2_has, fX11_isFeature, nar_byte, byte_i, lg_gt, lg_eq, lg_lt, all_A, sF_F, sF_A, sF_J, sF_B, sF_R, sF_all, sA_F, sA_A, sA_J, sA_B, sA_R, sA_all, sJ_F, sJ_A, sJ_J, sJ_B, sJ_R, sJ_all, sB_F, sB_A, sB_J, sB_B, sB_R, sB_all, sR_F, sR_A, sR_J, sR_B, sR_R, sR_all, r39, r40]
      have b1 : BG g s (setF (setF (setAll (setA s 41 0 g (nI 1)) 29 (16 + g) F) 7 (16 + g) 1 (nI 0)) 7 (16 + g) 2 (nI 0)) := ((bg_41.trans bg_29).trans bg_7).trans bg_7
      have t29 : ∀ f, f < m → F2 f = nI (cnt σ f g) := by
        intro f hf
        rw [hF2 f (by omega)]
        have q := cs.2.2.2.2.2 f g hf c
        rw [tr.2.2.2.2.sm.f.2.2.2.2.2] at q
        simp only [sF_F, sF_A, sF_J, sF_B, sF_R, sF_all, sA_F, sA_A, sA_J, sA_B, sA_R, sA_all, sJ_F, sJ_A, sJ_J, sJ_B, sJ_R, sJ_all, sB_F, sB_A, sB_J, sB_B, sB_R, sB_all, sR_F, sR_A, sR_J, sR_B, sR_R, sR_all]
        rw [if_pos (by simp), if_neg (by omega)]
        simp only [sF_F, sF_A, sF_J, sF_B, sF_R, sF_all, sA_F, sA_A, sA_J, sA_B, sA_R, sA_all, sJ_F, sJ_A, sJ_J, sJ_B, sJ_R, sJ_all, sB_F, sB_A, sB_J, sB_B, sB_R, sB_all, sR_F, sR_A, sR_J, sR_B, sR_R, sR_all]
        rw [if_neg (by simp), hF f (by omega), q, nI_add, Nat.zero_add]
      have t1 : sF s 7 g 1 = nI (nwM σ g) := by
        rw [(cs.2.2.2.1 g c).2.2.2.1.1, tr.2.2.2.2.sm.f.2.2.1]
      have t2 : sF s 7 g 2 = nI (mkM σ g) := by
        rw [(cs.2.2.2.1 g c).2.2.2.1.2, tr.2.2.2.2.sm.f.2.1]
      have e0 : ms0 σ n g = nI 1 <<< (nI g &&& 31) := if_pos ⟨c, c2⟩
      refine grp_rates (M := nI 1 <<< (nI g &&& 31)) hN ct' (tr.trans (b1.trans ((bg_29.trans bg_7).trans bg_7)).1) ?_ (fun G hG => ?_)
      · unfold GS
        refine ⟨fun f hf => ?_, ?_, ?_⟩
        · rw [sb_one hn c]; simp only [sF_F, sF_A, sF_J, sF_B, sF_R, sF_all, sA_F, sA_A, sA_J, sA_B, sA_R, sA_all, sJ_F, sJ_A, sJ_J, sJ_B, sJ_R, sJ_all, sB_F, sB_A, sB_J, sB_B, sB_R, sB_all, sR_F, sR_A, sR_J, sR_B, sR_R, sR_all]; simp only [and_self, if_true]; exact t29 f hf
        · rw [sb_one hn c]
          simp only [sF_F, sF_A, sF_J, sF_B, sF_R, sF_all, sA_F, sA_A, sA_J, sA_B, sA_R, sA_all, sJ_F, sJ_A, sJ_J, sJ_B, sJ_R, sJ_all, sB_F, sB_A, sB_J, sB_B, sB_R, sB_all, sR_F, sR_A, sR_J, sR_B, sR_R, sR_all]
          rw [if_neg (by simp), if_pos (by simp), t1, if_neg (show ¬ g = 16 + g by omega), nI_add, Nat.zero_add]
        · rw [sb_one hn c]
          simp only [sF_F, sF_A, sF_J, sF_B, sF_R, sF_all, sA_F, sA_A, sA_J, sA_B, sA_R, sA_all, sJ_F, sJ_A, sJ_J, sJ_B, sJ_R, sJ_all, sB_F, sB_A, sB_J, sB_B, sB_R, sB_all, sR_F, sR_A, sR_J, sR_B, sR_R, sR_all]
          rw [if_pos (by simp), t2, if_neg (show ¬ g = 16 + g by omega), nI_add, Nat.zero_add]
      · refine h _ ((b1.trans ((bg_29.trans bg_7).trans bg_7)).trans bg_23) ?_
        rw [e0]
        refine ⟨?_, fun _ => ⟨⟨fun f hf => ?_, ?_, ?_⟩, fun f hf => ?_⟩⟩
        · rw [if_neg (shl_n0 hg)]; simp [sF_F, sF_A, sF_J, sF_B, sF_R, sF_all, sA_F, sA_A, sA_J, sA_B, sA_R, sA_all, sJ_F, sJ_A, sJ_J, sJ_B, sJ_R, sJ_all, sB_F, sB_A, sB_J, sB_B, sB_R, sB_all, sR_F, sR_A, sR_J, sR_B, sR_R, sR_all]
        · rw [sb_one hn c]; simp only [sF_F, sF_A, sF_J, sF_B, sF_R, sF_all, sA_F, sA_A, sA_J, sA_B, sA_R, sA_all, sJ_F, sJ_A, sJ_J, sJ_B, sJ_R, sJ_all, sB_F, sB_A, sB_J, sB_B, sB_R, sB_all, sR_F, sR_A, sR_J, sR_B, sR_R, sR_all]; rw [if_neg (by simp), if_pos (by simp)]; exact t29 f hf
        · rw [sb_one hn c]
          simp only [sF_F, sF_A, sF_J, sF_B, sF_R, sF_all, sA_F, sA_A, sA_J, sA_B, sA_R, sA_all, sJ_F, sJ_A, sJ_J, sJ_B, sJ_R, sJ_all, sB_F, sB_A, sB_J, sB_B, sB_R, sB_all, sR_F, sR_A, sR_J, sR_B, sR_R, sR_all]
          rw [if_neg (by simp), if_pos (by simp), t1, if_neg (show ¬ g = 16 + g by omega), nI_add, Nat.zero_add]
        · rw [sb_one hn c]
          simp only [sF_F, sF_A, sF_J, sF_B, sF_R, sF_all, sA_F, sA_A, sA_J, sA_B, sA_R, sA_all, sJ_F, sJ_A, sJ_J, sJ_B, sJ_R, sJ_all, sB_F, sB_A, sB_J, sB_B, sB_R, sB_all, sR_F, sR_A, sR_J, sR_B, sR_R, sR_all]
          rw [if_pos (by simp), t2, if_neg (show ¬ g = 16 + g by omega), nI_add, Nat.zero_add]
        · simp only [sF_F, sF_A, sF_J, sF_B, sF_R, sF_all, sA_F, sA_A, sA_J, sA_B, sA_R, sA_all, sJ_F, sJ_A, sJ_J, sJ_B, sJ_R, sJ_all, sB_F, sB_A, sB_J, sB_B, sB_R, sB_all, sR_F, sR_A, sR_J, sR_B, sR_R, sR_all]; rw [if_pos (by simp)]; exact hG f hf
    · have gone := gone (if_neg (fun z => c2 z.2))
      rw [r21]
      have e2 : ∀ F : Nat → Int32, True := fun _ => trivial
      simp (disch := omega) only [li0, li1, li2, li3, li4, li5, li6, li12, li13, li14, li15, li16, li17, li32, li33, li39, li60, li65, li90, li91, li93, li97, li100, li122, li126, li200, li800, li1000, li1400, li2800, li3432, li9999, li10000000, ↓lm1, ↓lm2, ↓lm3, ↓lm4, ↓lm9, le_T, le_F, lt_T, lt_F, eq_F, eq_T, vp_T, mle_F, mle_T, mlt_F, mlt_T, meq_F, meq_F', mne, aR, mR, sR', nI_clamp, br_nT, br_nF, ex_s, true_implies, false_implies, not_true_eq_false, not_false_eq_true, true_and, and_true, forall_eq, implies_true, and_self, reduceIte, reduceCtorEq, Nat.reduceEqDiff, Nat.reduceAdd, Nat.reduceMul, Nat.reduceSub, ite_true, ite_false, if_true, if_false, eq_self, and_false, false_and, fa_s, fa_n, cfF, cfA, cfJ, cfB, cfR, mfF, mfA, mfJ, mfB, mfR, c_foundE, m_meetsE, fX11_isSheet, fX11_in, fX10_sheetAt, fX10_sheetAt_b22, fX10_textAt, fX10_textAt_b22, fX11_isText, fX2_has, fX11_isFeature, nar_byte, byte_i, lg_gt, lg_eq, lg_lt, all_A, sF_F, sF_A, sF_J, sF_B, sF_R, sF_all, sA_F, sA_A, sA_J, sA_B, sA_R, sA_all, sJ_F, sJ_A, sJ_J, sJ_B, sJ_R, sJ_all, sB_F, sB_A, sB_J, sB_B, sB_R, sB_all, sR_F, sR_A, sR_J, sR_B, sR_R, sR_all, fX9_begin, fX9_begin_b20, fX9_begin_b21, x5, c2, r39, r40, nar_b0]
      refine clear_sp hN (fun F hF => ?_)
      simp (disch := omega) only [li0, li1, li2, li3, li4, li5, li6, li12, li13, li14, li15, li16, li17, li32, li33, li39, li60, li65, li90, li91, li93, li97, li100, li122, li126, li200, li800, li1000, li1400, li2800, li3432, li9999, li10000000, ↓lm1, ↓lm2, ↓lm3, ↓lm4, ↓lm9, le_T, le_F, lt_T, lt_F, eq_F, eq_T, vp_T, mle_F, mle_T, mlt_F, mlt_T, meq_F, meq_F', mne, aR, mR, sR', nI_clamp, br_nT, br_nF, ex_s, true_implies, false_implies, not_true_eq_false, not_false_eq_true, true_and, and_true, forall_eq, implies_true, and_self, reduceIte, reduceCtorEq, Nat.reduceEqDiff, Nat.reduceAdd, Nat.reduceMul, Nat.reduceSub, ite_true, ite_false, if_true, if_false, eq_self, and_false, false_and, fa_s, fa_n, cfF, cfA, cfJ, cfB, cfR, mfF, mfA, mfJ, mfB, mfR, c_foundE, m_meetsE, fX11_isSheet, fX11_in, fX10_sheetAt, fX10_sheetAt_b22, fX10_textAt, fX10_textAt_b22, fX11_isText, fX2_has, fX11_isFeature, nar_byte, byte_i, lg_gt, lg_eq, lg_lt, all_A, sF_F, sF_A, sF_J, sF_B, sF_R, sF_all, sA_F, sA_A, sA_J, sA_B, sA_R, sA_all, sJ_F, sJ_A, sJ_J, sJ_B, sJ_R, sJ_all, sB_F, sB_A, sB_J, sB_B, sB_R, sB_all, sR_F, sR_A, sR_J, sR_B, sR_R, sR_all, r39, r40, fX9_begin_b57]
      have b1 : BG g s (setF (setF (setAll (setA s 41 0 g (nI 0)) 29 (16 + g) F) 7 (16 + g) 1 (nI 0)) 7 (16 + g) 2 (nI 0)) := ((bg_41.trans bg_29).trans bg_7).trans bg_7
      have gs : GS σ (setF (setF (setAll (setA s 41 0 g (nI 0)) 29 (16 + g) F) 7 (16 + g) 1 (nI 0)) 7 (16 + g) 2 (nI 0)) n m (16 + g) (nI 0) := by
        unfold GS
        refine ⟨fun f hf => ?_, ?_, ?_⟩
        · rw [sb_z]; simp only [sF_F, sF_A, sF_J, sF_B, sF_R, sF_all, sA_F, sA_A, sA_J, sA_B, sA_R, sA_all, sJ_F, sJ_A, sJ_J, sJ_B, sJ_R, sJ_all, sB_F, sB_A, sB_J, sB_B, sB_R, sB_all, sR_F, sR_A, sR_J, sR_B, sR_R, sR_all]; simp only [and_self, if_true]; exact hF f (by omega)
        · rw [sb_z]; simp [sF_F, sF_A, sF_J, sF_B, sF_R, sF_all, sA_F, sA_A, sA_J, sA_B, sA_R, sA_all, sJ_F, sJ_A, sJ_J, sJ_B, sJ_R, sJ_all, sB_F, sB_A, sB_J, sB_B, sB_R, sB_all, sR_F, sR_A, sR_J, sR_B, sR_R, sR_all]
        · rw [sb_z]; simp [sF_F, sF_A, sF_J, sF_B, sF_R, sF_all, sA_F, sA_A, sA_J, sA_B, sA_R, sA_all, sJ_F, sJ_A, sJ_J, sJ_B, sJ_R, sJ_all, sB_F, sB_A, sB_J, sB_B, sB_R, sB_all, sR_F, sR_A, sR_J, sR_B, sR_R, sR_all]
      refine grp_rates (M := nI 0) hN ct' (tr.trans b1.1) gs (fun G hG => ?_)
      refine h _ (b1.trans bg_23) ?_
      rw [show ms0 σ n g = nI 0 from if_neg (fun z => c2 z.2)]
      exact ⟨by simp [sF_F, sF_A, sF_J, sF_B, sF_R, sF_all, sA_F, sA_A, sA_J, sA_B, sA_R, sA_all, sJ_F, sJ_A, sJ_J, sJ_B, sJ_R, sJ_all, sB_F, sB_A, sB_J, sB_B, sB_R, sB_all, sR_F, sR_A, sR_J, sR_B, sR_R, sR_all], fun z => absurd rfl z⟩
  · have gone := gone (if_neg (fun z => c z.1))
    rw [if_neg c] at r21
    rw [r21]
    simp (disch := omega) only [li0, li1, li2, li3, li4, li5, li6, li12, li13, li14, li15, li16, li17, li32, li33, li39, li60, li65, li90, li91, li93, li97, li100, li122, li126, li200, li800, li1000, li1400, li2800, li3432, li9999, li10000000, ↓lm1, ↓lm2, ↓lm3, ↓lm4, ↓lm9, le_T, le_F, lt_T, lt_F, eq_F, eq_T, vp_T, mle_F, mle_T, mlt_F, mlt_T, meq_F, meq_F', mne, aR, mR, sR', nI_clamp, br_nT, br_nF, ex_s, true_implies, false_implies, not_true_eq_false, not_false_eq_true, true_and, and_true, forall_eq, implies_true, and_self, reduceIte, reduceCtorEq, Nat.reduceEqDiff, Nat.reduceAdd, Nat.reduceMul, Nat.reduceSub, ite_true, ite_false, if_true, if_false, eq_self, and_false, false_and, fa_s, fa_n, cfF, cfA, cfJ, cfB, cfR, mfF, mfA, mfJ, mfB, mfR, c_foundE, m_meetsE, fX11_isSheet, fX11_in, fX10_sheetAt, fX10_sheetAt_b22, fX10_textAt, fX10_textAt_b22, fX11_isText, fX2_has, fX11_isFeature, nar_byte, byte_i, lg_gt, lg_eq, lg_lt, all_A, sF_F, sF_A, sF_J, sF_B, sF_R, sF_all, sA_F, sA_A, sA_J, sA_B, sA_R, sA_all, sJ_F, sJ_A, sJ_J, sJ_B, sJ_R, sJ_all, sB_F, sB_A, sB_J, sB_B, sB_R, sB_all, sR_F, sR_A, sR_J, sR_B, sR_R, sR_all, fX9_begin, fX9_begin_b20, fX9_begin_b21, r39, r40, nar_b0]
    exact gone
