theorem bt_and (x y : Int32) (s : Nat) : bt (x &&& y) s = (bt x s && bt y s) := by unfold bt; rw [Int32.toBitVec_and, BitVec.getLsbD_and]
theorem bt_xor (x y : Int32) (s : Nat) : bt (x ^^^ y) s = (bt x s ^^ bt y s) := by unfold bt; rw [Int32.toBitVec_xor, BitVec.getLsbD_xor]
theorem shl_pow : ∀ n, n < 15 → nI 1 <<< (nI n &&& 31) = nI (2 ^ n) := by decide +kernel
theorem pow_le : ∀ n, n < 15 → 2 ^ n ≤ 16384 := by decide +kernel
theorem bits_sp {N : Nat} {s : St} {x : Int32} {Q : Int32 → St → Prop} (hN : 1000 ≤ N) (h : Q (nI (ct (bt x) 14)) s) : fX11_bits N s x Q := by
  unfold fX11_bits
  refine lpU (fun k i (y : Int32) => fX11_bits_l4 N x Q _ k s y (nI i)) (fun i y => y = nI (ct (bt x) i)) 14 N ?_ ?_ 0 (nI 0) (by omega) (by omega) rfl
  · rintro k y rfl
    simp (disch := omega) only [li0, li1, li2, li3, li4, li5, li6, li12, li13, li14, li15, li16, li17, li32, li33, li39, li60, li65, li90, li91, li93, li97, li100, li122, li126, li200, li800, li1000, li1400, li2800, li3432, li9999, li10000000, ↓lm1, ↓lm2, ↓lm3, ↓lm4, ↓lm9, le_T, le_F, lt_T, lt_F, eq_F, eq_T, vp_T, mle_F, mle_T, mlt_F, mlt_T, meq_F, meq_F', mne, aR, mR, sR', nI_clamp, br_nT, br_nF, ex_s, true_implies, false_implies, not_true_eq_false, not_false_eq_true, true_and, and_true, forall_eq, implies_true, and_self, reduceIte, reduceCtorEq, Nat.reduceEqDiff, Nat.reduceAdd, Nat.reduceMul, Nat.reduceSub, ite_true, ite_false, if_true, if_false, eq_self, and_false, false_and, fa_s, fa_n, cfF, cfA, cfJ, cfB, cfR, mfF, mfA, mfJ, mfB, mfR, c_foundE, m_meetsE, fX11_isSheet, fX11_in, fX10_sheetAt, fX10_sheetAt_b22, fX10_textAt, fX10_textAt_b22, fX11_isText, fX2_has, fX11_isFeature, nar_byte, byte_i, lg_gt, lg_eq, lg_lt, all_A, sF_F, sF_A, sF_J, sF_B, sF_R, sF_all, sA_F, sA_A, sA_J, sA_B, sA_R, sA_all, sJ_F, sJ_A, sJ_J, sJ_B, sJ_R, sJ_all, sB_F, sB_A, sB_J, sB_B, sB_R, sB_all, sR_F, sR_A, sR_J, sR_B, sR_R, sR_all, fX11_bits_l4]
    exact h
  · rintro k i y hi rfl K
    have K := K _ rfl
    rw [ct_s] at K
    have bs := bit_s (x := x) (t := i) (by omega)
    simp only [fX11_bits_l4]
    refine ⟨fun c => absurd c (nI_ge hi (by decide)), fun _ => ?_⟩
    rw [bs, show nI i + 1 = nI (i + 1) from nI_add i 1]
    by_cases c : bt x i = true
    · rw [if_pos c] at K ⊢
      rw [nI_add]; exact K
    · rw [if_neg c] at K ⊢
      rw [nI_add]; exact K
theorem apart_sp {N n m f : Nat} {s : St} {x y : Int32} {Q : Int32 → St → Prop} (hN : 1000 ≤ N) (rt : RT s n m) (cf' : CF s n m) (hf : f < m) (h : Q (nI ((rtM s n x f - rtM s n y f) + (rtM s n y f - rtM s n x f))) s) : fX11_apart N s (nI f) x y Q := by
  have b1 := rtM_le (f := f) (x := x) rt
  have b2 := rtM_le (f := f) (x := y) rt
  unfold fX11_apart
  refine rateIn_sp2 hN rt cf' hf (rateIn_sp2 hN rt cf' hf ⟨fun g => ?_, fun g => ?_⟩)
  · have g' : rtM s n x f ≤ rtM s n y f := by
      by_cases c : rtM s n x f ≤ rtM s n y f
      · exact c
      · exact absurd g (nI_ge (by omega) (by omega))
    rw [sR' g', show rtM s n y f - rtM s n x f = (rtM s n x f - rtM s n y f) + (rtM s n y f - rtM s n x f) by omega]; exact h
  · have g' : rtM s n y f < rtM s n x f := by
      by_cases c : rtM s n x f ≤ rtM s n y f
      · exact absurd (nI_le c (by omega)) g
      · omega
    rw [sR' (by omega), show rtM s n x f - rtM s n y f = (rtM s n x f - rtM s n y f) + (rtM s n y f - rtM s n x f) by omega]; exact h
theorem th_nI {a b : Nat} (ha : a ≤ 100000) (hb : b < 2 ^ 31) : th (nI a) (nI b) = nI (rvN a b) := by
  unfold th rvN
  rcases Nat.eq_zero_or_pos b with rfl | h
  · rw [if_neg (by decide), if_pos rfl]
  · rw [if_pos (nI_lt h hb), if_neg (by omega), mR, nI_div (by omega) hb h]
theorem dff_e {AC AW a b : Nat} (h1 : a ≤ AC) (h2 : b ≤ AW) (h3 : AC ≤ 2800) (h4 : AW ≤ 2800) : dff AC AW a b = nI ((rvN a b - rvN (AC - a) (AW - b)) + (rvN (AC - a) (AW - b) - rvN a b)) := by
  unfold dff absI
  rw [sR' h1, sR' h2, th_nI (by omega) (by omega), th_nI (by omega) (by omega)]
  have q1 := rvN_le (a := a) (b := b) (A := 2800) (by omega)
  have q2 := rvN_le (a := AC - a) (b := AW - b) (A := 2800) (by omega)
  exact absC (by omega) (by omega)
theorem ct_ext {p : Nat → Bool} {n : Nat} : ∀ m, n ≤ m → (∀ t, n ≤ t → t < m → p t = false) → ct p m = ct p n := by
  intro m
  induction m with
  | zero => intro h _; rw [show n = 0 by omega]
  | succ m ih =>
    intro h1 h2
    by_cases e : n = m + 1
    · rw [e]
    · rw [ct_s, ih (by omega) (fun t a b => h2 t a (by omega)), h2 m (by omega) (by omega)]; rfl
theorem sb_add {p q r : Nat → Bool} {g : Nat → Nat} : ∀ n, (∀ t, t < n → p t = (q t || r t)) → (∀ t, t < n → ¬ (q t = true ∧ r t = true)) → sb p g n = sb q g n + sb r g n := by
  intro n
  induction n with
  | zero => intro _ _; rfl
  | succ n ih =>
    intro h1 h2
    rw [sb_s, sb_s, sb_s, ih (fun t ht => h1 t (by omega)) (fun t ht => h2 t (by omega)), h1 n (by omega)]
    have d := h2 n (by omega)
    cases c1 : q n <;> cases c2 : r n
    · simp
    · simp; omega
    · simp; omega
    · exact absurd ⟨c1, c2⟩ d
theorem mshuf_sp {N n m f k : Nat} {σ s : St} {v6 o x1 x2 x3 : Int32} {al : Nat → Bool} {Q : Int32 → St → Prop} {K0 : St → Int32 → Int32 → Prop} (hN : 20000 ≤ N) (rt : RT σ n m) (sm : SM σ s) (cf' : CF s n m) (hf : f < m) (h6 : ∀ t, t < 32 → bt v6 t = (decide (t < n) && al t)) (hk : k ≤ 14) (h : K0 s (nI (ct (sel al (PP (sb al (cnt σ f) n) (sb al (wh σ f) n) o) (gx σ f) n k 0 0) (2 ^ n))) (nI (ct (sel al (fun _ _ => true) (gx σ f) n k 0 0) (2 ^ n)))) : fX11_shuffle_l101 N (nI f) x2 x3 Q K0 N s v6 (nI k) o (nI 0) (nI 0) (nI 0) := by
  have hn := rt.1
  have rts := RT_c rt sm
  have e6 := rts.2.2.1
  have pl := pow_le n (by omega)
  obtain ⟨sb1, sb2, sb3⟩ := sm_bd rt al
  refine lpU (fun q i (y : Int32 × Int32) => fX11_shuffle_l101 N (nI f) x2 x3 Q K0 q s v6 (nI k) o y.1 y.2 (nI i)) (fun i y => y = (nI (ct (sel al (PP (sb al (cnt σ f) n) (sb al (wh σ f) n) o) (gx σ f) n k 0 0) i), nI (ct (sel al (fun _ _ => true) (gx σ f) n k 0 0) i))) (2 ^ n) N ?_ ?_ 0 (nI 0, nI 0) (Nat.zero_le _) (by rw [Nat.sub_zero]; exact Nat.lt_of_le_of_lt pl (by omega)) rfl
  · rintro q y rfl
    simp only [fX11_shuffle_l101, e6, li1]
    rw [shl_pow n (by omega)]
    exact ⟨fun _ => h, fun c => absurd (nI_le (Nat.le_refl _) (Nat.lt_of_le_of_lt pl (by decide))) c⟩
  · rintro q i y hi rfl K
    have K := K _ rfl
    rw [ct_s, ct_s] at K
    have bi : ∀ t, t < 32 → bt (nI i) t = i.testBit t := fun t ht => bt_nI ht
    have bz : ∀ t, n ≤ t → i.testBit t = false := fun t ht => Nat.testBit_lt_two_pow (Nat.lt_of_lt_of_le hi (Nat.pow_le_pow_right (by decide) ht))
    have c1 : (nI i &&& (v6 ^^^ mI 1) = nI 0) ↔ ∀ t, t < n → i.testBit t = true → al t = true := by
      rw [bt_eq0]
      constructor
      · intro g t ht h2
        have w := g t (by omega)
        rw [bt_and, bt_xor, bt_m1 t (by omega), bi t (by omega), h6 t (by omega), decide_eq_true ht, h2] at w
        cases e : al t
        · rw [e] at w; simp at w
        · rfl
      · intro g t ht
        rw [bt_and, bt_xor, bt_m1 t ht, bi t ht, h6 t ht]
        by_cases c : t < n
        · cases e : i.testBit t
          · rfl
          · rw [decide_eq_true c, g t c e]; rfl
        · rw [bz t (by omega)]; rfl
    have c2 : ct (bt (nI i)) 14 = ct i.testBit n := by
      rw [ct_c 14 (fun t ht => bi t (by omega)), ct_ext 14 (by omega) (fun t h1 h2 => bz t h1)]
    have nx : ∀ u v, u = (if sel al (PP (sb al (cnt σ f) n) (sb al (wh σ f) n) o) (gx σ f) n k 0 0 i = true then 1 else 0) → v = (if sel al (fun _ _ => true) (gx σ f) n k 0 0 i = true then 1 else 0) → fX11_shuffle_l101 N (nI f) x2 x3 Q K0 q s v6 (nI k) o (nI (ct (sel al (PP (sb al (cnt σ f) n) (sb al (wh σ f) n) o) (gx σ f) n k 0 0) i) + nI u) (nI (ct (sel al (fun _ _ => true) (gx σ f) n k 0 0) i) + nI v) (nI i + nI 1) := by
      intro u v eu ev
      rw [nI_add, nI_add, nI_add, eu, ev]; exact K
    have nx0 : sel al (fun _ _ => true) (gx σ f) n k 0 0 i = false → fX11_shuffle_l101 N (nI f) x2 x3 Q K0 q s v6 (nI k) o (nI (ct (sel al (PP (sb al (cnt σ f) n) (sb al (wh σ f) n) o) (gx σ f) n k 0 0) i)) (nI (ct (sel al (fun _ _ => true) (gx σ f) n k 0 0) i)) (nI i + nI 1) := by
      intro e
      have e' : sel al (PP (sb al (cnt σ f) n) (sb al (wh σ f) n) o) (gx σ f) n k 0 0 i = false := by
        unfold sel at e ⊢
        rw [Bool.and_true] at e
        rw [← Bool.and_assoc, e]; rfl
      have w := nx 0 0 (by rw [if_neg (by rw [e']; decide)]) (by rw [if_neg (by rw [e]; decide)])
      rw [nI_add, nI_add, Nat.add_zero, Nat.add_zero] at w
      exact w
    simp only [fX11_shuffle_l101, fX11_shuffle_b164_101, fX11_shuffle_b161_101, e6, li0, li1, ↓lm1]
    rw [shl_pow n (by omega)]
    refine ⟨fun c => absurd c (nI_ge hi (Nat.lt_of_le_of_lt pl (by decide))), fun _ => ⟨fun g => nx0 ?_, fun g => ?_⟩⟩
    · unfold sel
      rw [decide_eq_false (fun z => g (c1.mpr z))]; rfl
    · have g1 := c1.mp g
      refine bits_sp (by omega) ?_
      rw [c2]
      have cb : ct i.testBit n ≤ 14 := Nat.le_trans (ct_le _ _) hn
      refine ⟨fun g2 => nx0 ?_, fun g2 => ?_⟩
      · unfold sel
        rw [decide_eq_false (show ¬ ct i.testBit n = k from fun z => g2 (by rw [z]))]; simp
      · have g2' : ct i.testBit n = k := (nI_eq (by omega) (by omega)).mp g2
        refine apart_sp (by omega) rts cf' hf ?_
        have oth : ∀ g : Nat → Nat, sb al g n = sb i.testBit g n + sb (bt (v6 &&& (nI i ^^^ mI 1))) g n := by
          intro g
          have bo : ∀ t, t < n → bt (v6 &&& (nI i ^^^ mI 1)) t = (al t && !i.testBit t) := by
            intro t ht
            rw [bt_and, bt_xor, bt_m1 t (by omega), bi t (by omega), h6 t (by omega), decide_eq_true ht]
            cases i.testBit t <;> cases al t <;> rfl
          refine sb_add n (fun t ht => ?_) (fun t ht => ?_)
          · rw [bo t ht]
            cases e : i.testBit t
            · simp
            · rw [g1 t ht e]; rfl
          · rw [bo t ht]
            cases e : i.testBit t <;> simp
        have o1 := oth (cnt σ f)
        have o2 := oth (wh σ f)
        have r1 : rtM s n (nI i) f = rvN (sb i.testBit (cnt σ f) n) (sb i.testBit (wh σ f) n) := by
          rw [SM_rtM sm]
          unfold rtM
          rw [sb_c (q := i.testBit) (k := cnt σ f) (fun t ht => bi t (by omega)) (fun _ _ => rfl), sb_c (q := i.testBit) (k := wh σ f) (fun t ht => bi t (by omega)) (fun _ _ => rfl)]
        have r2 : rtM s n (v6 &&& (nI i ^^^ mI 1)) f = rvN (sb al (cnt σ f) n - sb i.testBit (cnt σ f) n) (sb al (wh σ f) n - sb i.testBit (wh σ f) n) := by
          rw [SM_rtM sm]
          unfold rtM
          rw [show sb (bt (v6 &&& (nI i ^^^ mI 1))) (cnt σ f) n = sb al (cnt σ f) n - sb i.testBit (cnt σ f) n by omega, show sb (bt (v6 &&& (nI i ^^^ mI 1))) (wh σ f) n = sb al (wh σ f) n - sb i.testBit (wh σ f) n by omega]
        have ed := dff_e (AC := sb al (cnt σ f) n) (AW := sb al (wh σ f) n) (a := sb i.testBit (cnt σ f) n) (b := sb i.testBit (wh σ f) n) (by omega) (by omega) (sb3 f).1 (sb3 f).2
        rw [r1, r2, ← ed]
        have es : sel al (fun _ _ => true) (gx σ f) n k 0 0 i = true := by
          unfold sel
          rw [decide_eq_true g1, decide_eq_true g2']; rfl
        have eP : sel al (PP (sb al (cnt σ f) n) (sb al (wh σ f) n) o) (gx σ f) n k 0 0 i = PP (sb al (cnt σ f) n) (sb al (wh σ f) n) o (sb i.testBit (cnt σ f) n) (sb i.testBit (wh σ f) n) := by
          unfold sel
          rw [decide_eq_true g1, decide_eq_true g2', Nat.zero_add, Nat.zero_add]; rfl
        refine ⟨fun g3 => nx 0 1 ?_ (by rw [if_pos es]), fun g3 => nx 1 1 ?_ (by rw [if_pos es])⟩
        · rw [eP, if_neg (fun z => (of_decide_eq_true z) g3)]
        · rw [eP, if_pos (show PP _ _ _ _ _ = true from decide_eq_true g3)]
