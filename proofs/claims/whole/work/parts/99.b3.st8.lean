-- ===== step 8: feature =====
theorem ts_FR {σ : St} {m so t : Nat} {v len : Int32} {ls : Nat → Int32} : TS σ (FR σ m so v len ls) t := ⟨fun K h1 h2 h3 => by rw [FR_K (by omega)], fun i _ => by rw [FR_K (by decide)], fun w _ => ⟨by rw [FR_K (by decide)], by rw [FR_K (by decide)]⟩⟩
theorem tx_FR {σ : St} {m so t : Nat} {v len : Int32} {ls : Nat → Int32} (h : Tx σ t) : Tx (FR σ m so v len ls) t := Tx_d h ts_FR rfl rfl rfl (by rw [FR_K (by decide)]) (by rw [FR_K (by decide)]) (by rw [FR_K (by decide)])
theorem feat_inv {n m so : Nat} {σ y w : St} {L : List (Nat × Nat)} {v len : Int32} {ls : Nat → Int32} (hn : n ≤ 14) (hm : m < 12) (hso : so < 4) (gl : GL n m L) (g1 : G1 n m σ) (g2 : G2 σ) (g3 : G3 σ) (g4 : G4 n σ) (g5 : G5 m σ) (g6 : G6 n m σ) (g7 : G7 σ) (g8 : G8 σ) (yf : YF n m so σ (FR σ m so v len ls) y) (wF : sF w = sF y) (wJ : sJ w = sJ y) (wR : sR w = sR y)
    (wA : ∀ K i j, ¬ (K = 81 ∧ j = m) → ¬ (K = 82 ∧ 12 * m ≤ j ∧ j < 12 * m + 12) → ¬ (67 ≤ K ∧ K ≤ 75 ∧ K ≠ 72 ∧ K ≠ 70 ∧ j = 14) → ¬ (K = 72 ∧ 2800 ≤ j ∧ j < 3000) → ¬ ((K = 76 ∨ K = 77) ∧ 1400 ≤ j ∧ j < 1500) → sA w K i j = sA y K i j) (w81 : sA w 81 0 m = len) (w82 : ∀ k, k < 12 → sA w 82 0 (12 * m + k) = ls k) : Inv (setF (setA (setA w 79 0 m (nI so)) 80 0 m v) 11 0 18 (nI (m + 1))) (L ++ idsF m) := by
  obtain ⟨y1, y2, y3, y4, y5, y6, y7, y8⟩ := yf
  obtain ⟨s', hs'⟩ : ∃ s', s' = setF (setA (setA w 79 0 m (nI so)) 80 0 m v) 11 0 18 (nI (m + 1)) := ⟨_, rfl⟩
  rw [← hs']
  have kF : ∀ K i j, ¬ (K = 11 ∧ j = 18) → sF s' K i j = sF y K i j := fun K i j h => by
    rw [hs', sF_F, if_neg (by omega), sF_A, sF_A, wF]
  have kA : ∀ K i j, ¬ ((K = 79 ∨ K = 80) ∧ j = m) → sA s' K i j = sA w K i j := fun K i j h => by
    rw [hs', sA_F, sA_A, if_neg (by omega), sA_A, if_neg (by omega)]
  have k79 : sA s' 79 0 m = nI so := by rw [hs', sA_F, sA_A, if_neg (by omega), sA_A, if_pos ⟨rfl, rfl, rfl⟩]
  have k80 : sA s' 80 0 m = v := by rw [hs', sA_F, sA_A, if_pos ⟨rfl, rfl, rfl⟩]
  have kAy : ∀ K i j, K < 67 → sA s' K i j = sA y K i j := fun K i j h => by
    rw [kA K i j (by omega), wA K i j (by omega) (by omega) (by omega) (by omega) (by omega)]
  have fq : FQ (FR σ m so v len ls) s' m := ⟨by rw [k79, FR_79], by rw [k80, FR_80], by rw [kA 81 0 m (by omega), w81, FR_81], fun k hk => by rw [kA 82 0 _ (by omega), w82 k hk, FR_82 hk]⟩
  have ts : ∀ t, t < n → TS (FR σ m so v len ls) s' t := fun t ht => by
    have q : ∀ K i j, ¬ (67 ≤ K ∧ K ≤ 75 ∧ K ≠ 72 ∧ K ≠ 70 ∧ j = 14) → ¬ (K = 72 ∧ 2800 ≤ j ∧ j < 3000) → ¬ ((K = 76 ∨ K = 77) ∧ 1400 ≤ j ∧ j < 1500) → 67 ≤ K → K < 78 → sA s' K i j = sA (FR σ m so v len ls) K i j := fun K i j h1 h2 h3 h4 h5 => by
      rw [kA K i j (by omega), wA K i j (by omega) (by omega) h1 h2 h3, y3 K i j (by omega) (by omega) (by omega), FR_K (by omega)]
    exact ⟨fun K k1 k2 k3 => q K 0 t (by omega) (by omega) (by omega) k1 (by omega), fun i hi => q 72 0 _ (by omega) (by omega) (by omega) (by omega) (by omega), fun w hw => ⟨q 76 0 _ (by omega) (by omega) (by omega) (by omega) (by omega), q 77 0 _ (by omega) (by omega) (by omega) (by omega) (by omega)⟩⟩
  refine inv_newF hn hm gl g1 g2 g3 g4 g5 g6 g7 g8 (fun K i j h1 h2 h3 h4 => by rw [kF K i j h2, y1 K i j h1 h3 h4]) (fun K i j h1 h2 h3 h4 h5 h6 h7 => by rw [kA K i j (by omega), wA K i j (by omega) h3 h5 h6 h7, y3 K i j h1 (by omega) h4]) (by rw [hs', sJ_F, sJ_A, sJ_A, wJ, y4]) (fun K i j => by rw [hs', sR_F, sR_A, sR_A, wR, y5]) (by rw [kF 2 0 2 (by omega), y2]) (by rw [hs', sF_F, if_pos ⟨rfl, rfl, rfl⟩]) ?_ (fun t ht => ?_)
  · obtain ⟨so', h1, h2, h3, -, h5, h6, h7⟩ := y6
    have es : so' = so := by
      rw [FR_79] at h2
      exact (nI_eq (by omega) (by omega)).mp h2.symm
    subst es
    rw [FR_80] at h5 h6
    rw [FR_81] at h7
    refine ⟨so', hso, k79, by rw [kF 0 m 0 (by omega)]; exact h3, by rw [kAy 31 0 m (by decide)]; exact y7, by rw [kF 0 m 1 (by omega), k80]; exact h5, by rw [k80]; exact h6, fun q => ?_⟩
    obtain ⟨l, l1, l2, l3, l4, l5⟩ := h7 q
    refine ⟨l, l1, l2, by rw [kF 0 m 3 (by omega)]; exact l3, by rw [kA 81 0 m (by omega), w81]; exact l4, fun k hk => ?_⟩
    rw [kAy 28 m k (by decide), kA 82 0 _ (by omega), w82 k hk]
    have l5 := l5 k hk
    rw [FR_82 hk] at l5
    exact l5
  · rw [kAy 29 t m (by decide), y8 t ht, cnt_tx (ts t ht) fq (tx_FR (g4 t ht))]
theorem pz_n {n m so : Nat} {σ s : St} {v len : Int32} {ls : Nat → Int32} (hn : n ≤ 14) (g4 : G4 n σ) (kF : ∀ K i j, ¬ (K = 0 ∧ i = m) → ¬ (K = 4 ∧ i = 14) → sF s K i j = sF σ K i j) (kA : ∀ K i j, ¬ (K = 28 ∧ i = m) → ¬ ((K = 25 ∨ K = 26 ∨ K = 27) ∧ i = 14) → sA s K i j = sA σ K i j) : ∀ t, t < n → PZ s (FR σ m so v len ls) t := fun t ht =>
  PZ_of (PR_of (tx_FR (g4 t ht))) (funext fun j => kF 4 t j (by omega) (by omega)) (by rw [FR_K (by decide)]; exact funext fun j => kA 25 t j (by omega) (by omega)) (by rw [FR_K (by decide)]; exact funext fun j => kA 26 t j (by omega) (by omega)) (by rw [FR_K (by decide)]; exact funext fun j => kA 27 t j (by omega) (by omega))
/-- the reference learns a word's letters -/
theorem mlearn_sp {N m z a l : Nat} {a1 a2 : Int32} {s : St} {g : Nat → Int32} {Q : Int32 → St → Prop} {Kx : St → Prop} (hN : 1000 ≤ N) (hm : m < 12) (hz : z ≤ 200) (hal : a + l ≤ z) (e18 : sF s 11 0 18 = nI m) (e81 : sA s 81 0 m = nI l) (e76 : sA s 76 0 1400 = nI a) (e72 : ∀ j, j < z → sA s 72 0 (200 * 14 + j) = rc g j) (h : ∀ w, sF w = sF s → sJ w = sJ s → sR w = sR s → (∀ K i j, ¬ (K = 82 ∧ 12 * m ≤ j ∧ j < 12 * m + 12) → sA w K i j = sA s K i j) → (∀ k, k < 12 → sA w 82 0 (12 * m + k) = if k < l then rc g (a + k) else sA s 82 0 (12 * m + k)) → Kx w) : fX11_feature_l93 N a1 a2 Q Kx N s (nI 0) := by
  refine lpU (fun k i (y : St) => fX11_feature_l93 N a1 a2 Q Kx k y (nI i)) (fun i y => sF y = sF s ∧ sJ y = sJ s ∧ sR y = sR s ∧ (∀ K i j, ¬ (K = 82 ∧ 12 * m ≤ j ∧ j < 12 * m + 12) → sA y K i j = sA s K i j) ∧ ∀ k, k < 12 → sA y 82 0 (12 * m + k) = if k < i then rc g (a + k) else sA s 82 0 (12 * m + k)) (min 12 l) N ?_ ?_ 0 s (by omega) (by omega) ⟨rfl, rfl, rfl, fun _ _ _ _ => rfl, fun k _ => by rw [if_neg (Nat.not_lt_zero k)]⟩
  · rintro k y ⟨q1, q2, q3, q4, q5⟩
    have y18 : sF y 11 0 18 = nI m := by rw [q1]; exact e18
    have y81 : sA y 81 0 m = nI l := by rw [q4 81 0 m (by omega)]; exact e81
    have q := h y q1 q2 q3 q4 (fun k hk => by
      rw [q5 k hk]
      by_cases c : k < l
      · rw [if_pos c, if_pos (by omega)]
      · rw [if_neg c, if_neg (by omega)])
    simp only [fX11_feature_l93, y18, nI_clamp (show m < 2 ^ 31 by omega), y81]
    refine ⟨fun _ => q, fun c => ⟨vp_in_nI hm (by decide), fun _ => q, fun c2 => ?_⟩⟩
    have c : ¬ nI 12 ≤ nI (min 12 l) := c
    have hl : l < 12 := by
      rcases Nat.lt_or_ge l 12 with z | z
      · exact z
      · exact absurd (nI_le (show 12 ≤ min 12 l by omega) (by omega)) c
    exact absurd (nI_le (show l ≤ min 12 l by omega) (by omega)) c2
  · rintro k i y hi ⟨q1, q2, q3, q4, q5⟩ K
    have y18 : sF y 11 0 18 = nI m := by rw [q1]; exact e18
    have y81 : sA y 81 0 m = nI l := by rw [q4 81 0 m (by omega)]; exact e81
    have y76 : sA y 76 0 1400 = nI a := by rw [q4 76 0 _ (by omega)]; exact e76
    have y72 : sA y 72 0 (2800 + a + i) = rc g (a + i) := by rw [q4 72 0 _ (by omega), show 2800 + a + i = 200 * 14 + (a + i) by omega]; exact e72 _ (by omega)
    simp only [fX11_feature_l93, y18, nI_clamp (show m < 2 ^ 31 by omega), y81, show ((1400 : Int32)).toNatClampNeg = 1400 from by decide, y76, show (2800 : Int32) + nI a = nI (2800 + a) from nI_add 2800 a, show (12 : Int32) * nI m = nI (12 * m) from pk_mul 12 m, aR, nI_clamp (show 2800 + a + i < 2 ^ 31 by omega), nI_clamp (show 12 * m + i < 2 ^ 31 by omega), y72]
    refine ⟨fun c => absurd c (nI_ge (show i < 12 by omega) (by decide)), fun _ => ⟨vp_in_nI hm (by decide), fun c => absurd c (nI_ge (show i < l by omega) (by omega)), fun _ => ⟨vp_in_nI (n := 1400) (by decide) (by decide), vp_in_nI (by omega) (by decide), vp_in_nI (by omega) (by decide), fun s31 e31 => ?_⟩⟩⟩
    rw [show nI i + 1 = nI (i + 1) from nI_add i 1]
    refine K s31 ⟨by rw [e31, sF_A]; exact q1, by rw [e31, sJ_A]; exact q2, by rw [e31, sR_A]; exact q3, fun K' i' j' z => by rw [e31, sA_A, if_neg (by omega)]; exact q4 K' i' j' z, fun k hk => ?_⟩
    rw [e31, sA_A]
    by_cases c : k = i
    · subst c; rw [if_pos ⟨rfl, rfl, rfl⟩, if_pos (Nat.lt_succ_self k)]
    · rw [if_neg (by omega), q5 k hk]
      by_cases c2 : k < i
      · rw [if_pos c2, if_pos (by omega)]
      · rw [if_neg c2, if_neg (by omega)]
theorem st8_n {N n m k : Nat} {σ : St} {L : List (Nat × Nat)} {a2 : Int32} (hN : 1000 ≤ N) (hn : n ≤ 14) (hm : m < 12) (gl : GL n m L) (g1 : G1 n m σ) (g2 : G2 σ) (g3 : G3 σ) (g4 : G4 n σ) (g5 : G5 m σ) (g6 : G6 n m σ) (g7 : G7 σ) (g8 : G8 σ) (hk : k < 3) (hv : vl k a2 = true) : fX10_feature_b75 N m L (nI k) a2 (fun r σ1 L1 => fX11_feature N σ1 (nI k) a2 (fun r2 σ2 => r = r2 ∧ Inv σ2 L1)) σ := by
  have h1 : k = 1 → ∃ v, v < 13 ∧ 1 ≤ v ∧ a2 = nI v := fun e => by
    subst e
    rw [vl_1] at hv
    obtain ⟨q1, q2⟩ := of_decide_eq_true hv
    rw [iLt] at q1 q2
    have e1 : (nI 1).toInt = 1 := by decide
    have e2 : (nI 12).toInt = 12 := by decide
    refine ⟨a2.toInt.toNat, by omega, by omega, ?_⟩
    rw [iEq, nI_toInt (by omega)]; omega
  have hsm : k = 1 → smV a2 = a2 := fun e => by
    obtain ⟨v, hv1, hv2, rfl⟩ := h1 e
    exact if_pos (nI_lt (by omega) (by decide))
  unfold fX10_feature_b75
  intro r10 e10
  rw [smallV_e] at e10
  subst e10
  unfold fX10_feature_t
  refine ⟨fun _ => ?_, fun c => absurd ((nI_eq (by omega) (by decide)).mp (show nI k = nI 3 from c)) (by omega)⟩
  obtain ⟨s0, hs0⟩ : ∃ s0, s0 = newFeat σ m (nI k) (smV a2) := ⟨_, rfl⟩
  have nF : ∀ K i j, ¬ (K = 0 ∧ i = m) → ¬ (K = 4 ∧ i = 14) → sF s0 K i j = sF σ K i j := fun K i j h _ => by rw [hs0]; exact if_neg (fun z => h ⟨z.2, z.1⟩)
  have nA : ∀ K i j, ¬ (K = 28 ∧ i = m) → ¬ ((K = 25 ∨ K = 26 ∨ K = 27) ∧ i = 14) → sA s0 K i j = sA σ K i j := fun K i j h _ => by rw [hs0]; exact if_neg (fun z => h ⟨z.2, z.1⟩)
  have nJ : sJ s0 = sJ σ := by rw [hs0]; rfl
  have nR : sR s0 = sR σ := by rw [hs0]; rfl
  have n0 : sF s0 0 m 0 = nI k := by rw [hs0]; show (if m = m ∧ 0 = 0 then (if 0 = 0 then nI k else if 0 = 1 then smV a2 else 0) else sF σ 0 m 0) = nI k; simp
  have n1 : sF s0 0 m 1 = smV a2 := by rw [hs0]; show (if m = m ∧ 0 = 0 then (if 1 = 0 then nI k else if 1 = 1 then smV a2 else 0) else sF σ 0 m 1) = smV a2; simp
  rw [← hs0]
  clear hs0
  have fz : FZ s0 (FR σ m k (smV a2) (sA σ 81 0 m) (fun j => sA σ 82 0 (12 * m + j))) m := ⟨k, by omega, FR_79, n0, trivial, by rw [n1, FR_80], fun e => by
    obtain ⟨v, v1, v2, v3⟩ := h1 e
    rw [FR_80]
    exact ⟨v, v1, v2, by rw [hsm e]; exact v3⟩, fun e => absurd e (by omega)⟩
  refine ctake_sp hN hn hm (by omega) g1 nF nA nJ nR n0 fz (pz_n hn g4 nF nA) (fun y yf => ?_)
  have e18 : sF y 11 0 18 = nI m := by rw [yf.1 11 0 18 (by omega) (by omega) (by omega)]; exact g1.2.2.2.1
  refine mfeat_0 (by omega) hv ⟨fun _ => ⟨fun _ => ?_, fun c => absurd ((nI_eq (by omega) (by decide)).mp (show nI k = nI 3 from c)) (by omega)⟩, fun c => absurd ((nI_eq (by omega) (by decide)).mp (e18.symm.trans (show sF y 11 0 18 = nI 12 from c))) (by omega)⟩
  refine b151_sp (by omega) hm e18 hsm ⟨rfl, ?_⟩
  exact feat_inv hn hm (by omega) gl g1 g2 g3 g4 g5 g6 g7 g8 yf rfl rfl rfl (fun _ _ _ _ _ _ _ _ => rfl) (yf.2.2.1 81 0 m (by omega) (by omega) (by omega)) (fun k hk => yf.2.2.1 82 0 _ (by omega) (by omega) (by omega))
