-- ===== step 4: text =====
theorem tx_new {σ : St} {n z : Nat} {g : Nat → Int32} (hz : z ≤ 200) (rd : Rdd σ n z g) (e73 : sA σ 73 0 n = nI (ct (rop g) z)) (e74 : sA σ 74 0 n = nI (ct (fun i => isLM (rc g i)) z)) (f3 : sF σ 4 n 3 = nI z) (f4 : sF σ 4 n 4 = nI (rnw g z)) (f5 : sF σ 4 n 5 = nI (ct (lt' g) z)) (f6 : sF σ 4 n 6 = nI (ct (fun i => isLM (rc g i)) z)) (f7 : sF σ 4 n 7 = nI (ct (rop g) z)) (t1 : sF σ 7 n 1 = nI (rnw g z)) (t2 : sF σ 7 n 2 = nI (ct (fun i => isLM (rc g i)) z))
    (h5 : sF σ 8 n 0 = sA σ 67 0 n ∧ sF σ 8 n 1 = sA σ 68 0 n ∧ (sA σ 67 0 n = 2 → sF σ 8 n 2 = sA σ 69 0 n) ∧ sF σ 8 n 5 = sA σ 70 0 n) (h6 : (sA σ 70 0 n = 0 ∨ sA σ 70 0 n = 1) ∧ (∃ k : Nat, k < 4 ∧ sA σ 67 0 n = nI k ∧ (((k = 1 ∨ k = 2) ∧ ∃ w : Nat, w < 6 ∧ sA σ 68 0 n = nI w) ∨ (¬ (k = 1 ∨ k = 2) ∧ sA σ 68 0 n = -9))))
    (e25 : ∀ j, j < z → sA σ 25 n j = rc g j) (ew : ∀ w, w < rnw g z → sA σ 26 n w = nI (wA g z w) ∧ sA σ 27 n w = nI (wL g z w)) : Tx σ n := by
  have b := rd_b (g := g) hz
  have ri := RI_all g z
  obtain ⟨q1, q2, q3⟩ := rd_ln hz rd
  have c1 := ct_le (rop g) z
  have c2 := ct_le (fun i => isLM (rc g i)) z
  have c3 := ct_le (lt' g) z
  have qm : mkM σ n = ct (fun i => isLM (rc g i)) z := by unfold mkM; rw [e74, nI_clamp (by omega)]
  have qq : qtM σ n = ct (rop g) z := by unfold qtM; rw [e73, nI_clamp (by omega)]
  have qs : sm (wlM σ n) (rnw g z) = ct (lt' g) z := by
    rw [sm_c (g := wL g z) _ (fun w hw => (q3 w hw).2)]; exact ri.2.2.2.2
  unfold Tx
  rw [q1, q2, qm, qq, qs]
  refine ⟨⟨hz, b.1, by omega, by omega⟩, ⟨rd.1, rd.2.1, e74, e73⟩, ⟨f3, f4, f5, f6, f7⟩, ⟨t1, t2⟩, h5, h6, fun i hi => by rw [e25 i hi, rd.2.2.1 i hi], fun w hw => ?_, by omega⟩
  rw [(q3 w hw).1, (q3 w hw).2]
  exact ⟨(ew w hw).1, (rd.2.2.2 w hw).1, (ew w hw).2, (rd.2.2.2 w hw).2, (b.2 w hw).1, (b.2 w hw).2⟩
theorem txt_core {N n m k u z : Nat} {σ : St} {L : List (Nat × Nat)} {a3 a4 w y : Int32} (hN : 1000 ≤ N) (hn : n < 14) (hm : m ≤ 12) (gl : GL n m L) (g1 : G1 n m σ) (g2 : G2 σ) (g3 : G3 σ) (g4 : G4 n σ) (g5 : G5 m σ) (g6 : G6 n m σ) (g7 : G7 σ) (g8 : G8 σ) (hk : k < 4) (hu : u < 4) (sy : ShY σ u z) (hw : ((k = 1 ∨ k = 2) ∧ (∃ w', w' < 6 ∧ a3 = nI w') ∧ w = a3) ∨ (¬ (k = 1 ∨ k = 2) ∧ w = -9)) (hy : k = 2 → y = a4) : fX10_text_t N n L (nI k) (nI u) a3 a4 (L ++ idsT n) (fun r σ1 L1 => fX11_text_b53 N (nI k) (nI u) a3 a4 (fun r2 σ2 => r = r2 ∧ Inv σ2 L1) σ1) (newText σ n (nI k) w y) u := by
  obtain ⟨hz, y1, y2, y3⟩ := sy
  obtain ⟨s0, hs0⟩ : ∃ s0, s0 = newText σ n (nI k) w y := ⟨_, rfl⟩
  have nF : ∀ K i j, ¬ (i = n ∧ (K = 8 ∨ K = 4 ∨ K = 7)) → sF s0 K i j = sF σ K i j := fun K i j h => by rw [hs0]; exact if_neg h
  have nA : ∀ K i, ¬ (i = n ∧ (K = 25 ∨ K = 26 ∨ K = 27 ∨ K = 29)) → sA s0 K i = sA σ K i := fun K i h => by rw [hs0]; exact funext fun j => if_neg h
  have nJ : sJ s0 = sJ σ := by rw [hs0]; rfl
  have nR : sR s0 = sR σ := by rw [hs0]; rfl
  have n80 : sF s0 8 n 0 = nI k := by rw [hs0]; show (if n = n ∧ (8 = 8 ∨ 8 = 4 ∨ 8 = 7) then (if 8 = 8 then (if 0 = 0 then nI k else if 0 = 1 then w else if 0 = 2 then y else 0) else 0) else sF σ 8 n 0) = nI k; simp
  have n81 : sF s0 8 n 1 = w := by rw [hs0]; show (if n = n ∧ (8 = 8 ∨ 8 = 4 ∨ 8 = 7) then (if 8 = 8 then (if 1 = 0 then nI k else if 1 = 1 then w else if 1 = 2 then y else 0) else 0) else sF σ 8 n 1) = w; simp
  have n82 : sF s0 8 n 2 = y := by rw [hs0]; show (if n = n ∧ (8 = 8 ∨ 8 = 4 ∨ 8 = 7) then (if 8 = 8 then (if 2 = 0 then nI k else if 2 = 1 then w else if 2 = 2 then y else 0) else 0) else sF σ 8 n 2) = y; simp
  have n85 : sF s0 8 n 5 = 0 := by rw [hs0]; show (if n = n ∧ (8 = 8 ∨ 8 = 4 ∨ 8 = 7) then (if 8 = 8 then (if 5 = 0 then nI k else if 5 = 1 then w else if 5 = 2 then y else 0) else 0) else sF σ 8 n 5) = 0; simp
  rw [← hs0]
  clear hs0
  unfold fX10_text_t
  refine cread_sp (z := z) (g := fun i => sA σ 24 u i) hN hz (by rw [nF 5 u 1 (by omega)]; exact y1) (fun i hi => ⟨by rw [nA 24 u (by omega)], (y3 i hi).2⟩) (fun y0 cc => ?_)
  obtain ⟨g, hg⟩ : ∃ g : Nat → Int32, g = fun i => sA σ 24 u i := ⟨_, rfl⟩
  rw [← hg] at cc
  obtain ⟨rx, c3, c4, c5, c6, c7, c25, cw⟩ := cc
  have fsr : ∀ f, FQ σ (TRd σ n z g) f := fun f => ⟨by rw [TRd_x (by decide)], by rw [TRd_x (by decide)], by rw [TRd_x (by decide)], fun k hk => by rw [TRd_x (by decide)]⟩
  have ps : PZ y0 (TRd σ n z g) n := PZ_rd hz (rd_TR hz) c3 c4 c25 cw
  refine ctal_sp (ρ := TRd σ n z g) (m := m) (a := rnw g z) (b := ct (fun i => isLM (rc g i)) z) hN hm (by rw [rx.1 2 0 2 (by omega), nF 2 0 2 (by omega)]; exact g1.2.2.1) (fun p hp => by rw [rx.2.2.2.2, nR, g1.2.2.2.2.2.2.1 p, if_pos hp]) c4 c6 (fun f hf => FZ_of (Ft_d (g5 f hf) (fsr f) rfl (by rw [TRd_x (by decide)]) (by rw [TRd_x (by decide)])) (funext fun j => by rw [rx.1 0 f j (by omega), nF 0 f j (by omega)]; rfl) (by rw [rx.2.1 28 f (by omega), nA 28 f (by omega), TRd_x (by decide)])) ps (fun y1' yt cn => ?_)
  have f10 : sF y1' 10 0 11 = nI n := by
    rw [yt.1, sF_F, if_neg (by omega), sF_F, if_neg (by omega), rx.1 10 0 11 (by omega), nF 10 0 11 (by omega)]; exact g1.1
  rw [f10, nI_clamp (show n < 2 ^ 31 by omega)]
  refine ⟨vp_in_nI hn (by decide), fun s26 e26 s27 e27 => ?_⟩
  have f26 : sF s26 10 0 11 = nI n := by rw [e26, sF_R]; exact f10
  rw [f26, show nI n + 1 = nI (n + 1) from nI_add n 1] at e27
  rw [f26]
  have hF1 : ∀ K i j, ¬ (K = 10 ∧ j = 11) → ¬ ((K = 4 ∨ K = 7 ∨ K = 8) ∧ i = n) → sF s27 K i j = sF σ K i j := fun K i j h1 h2 => by
    rw [e27, sF_F, if_neg (by omega), e26, sF_R, yt.1, sF_F, if_neg (by omega), sF_F, if_neg (by omega), rx.1 K i j (by omega), nF K i j (by omega)]
  have hF4 : ∀ K j, K = 4 ∨ K = 8 → sF s27 K n j = sF y0 K n j := fun K j h => by
    rw [e27, sF_F, if_neg (by omega), e26, sF_R, yt.1, sF_F, if_neg (by omega), sF_F, if_neg (by omega)]
  have t1 : sF s27 7 n 1 = nI (rnw g z) := by
    rw [e27, sF_F, if_neg (by omega), e26, sF_R, yt.1, sF_F, if_neg (by omega), sF_F, if_pos ⟨rfl, rfl, rfl⟩]
  have t2 : sF s27 7 n 2 = nI (ct (fun i => isLM (rc g i)) z) := by
    rw [e27, sF_F, if_neg (by omega), e26, sF_R, yt.1, sF_F, if_pos ⟨rfl, rfl, rfl⟩]
  have hAy : ∀ K i, ¬ (K = 29 ∧ i = n) → sA s27 K i = sA y0 K i := fun K i h => by
    rw [e27, sA_F, e26, sA_R, yt.2.2.2.2 K i h]; rfl
  have hA1 : ∀ K i, ¬ ((K = 25 ∨ K = 26 ∨ K = 27 ∨ K = 29) ∧ i = n) → sA s27 K i = sA σ K i := fun K i h => by
    rw [hAy K i (by omega), rx.2.1 K i (by omega), nA K i (by omega)]
  have hA29 : ∀ f, f < m → sA s27 29 n f = nI (cnt (TRd σ n z g) f n) := fun f hf => by
    rw [e27, sA_F, e26, sA_R]; exact cn f hf
  have hJ1 : sJ s27 = sJ σ := by
    rw [e27, sJ_F, e26, sJ_R, yt.2.1, sJ_F, sJ_F, rx.2.2.1, nJ]
  have hR1 : ∀ K i j, sR s27 K i j = if K = 21 ∧ i = 0 ∧ j = n then some n else sR σ K i j := fun K i j => by
    rw [e27, sR_F, e26, sR_R, yt.2.2.2.1, sR_F, sR_F, rx.2.2.2.2, nR]
  have hF10 : sF s27 10 0 11 = nI (n + 1) := by rw [e27, sF_F, if_pos ⟨rfl, rfl, rfl⟩]
  clear e26 e27 f26
  have s6 : sF s27 11 0 6 = nI n := by rw [hF1 11 0 6 (by omega) (by omega)]; exact g1.2.1
  have s63 : sA s27 63 0 u = nI z := by rw [hA1 63 0 (by omega)]; exact y2
  show fX11_text_b53 N (nI k) (nI u) a3 a4 (fun r2 σ2 => nI n = r2 ∧ Inv σ2 (L ++ idsT n)) s27
  unfold fX11_text_b53
  rw [s6, nI_clamp (show u < 2 ^ 31 by omega), s63]
  refine ⟨fun _ => ⟨vp_in_nI hu (by decide), fun _ => ?_, fun c => absurd (nI_le (Nat.zero_le z) (by omega)) c⟩, fun c => absurd ((nI_eq (by omega) (by decide)).mp (show nI n = nI 14 from c)) (by omega)⟩
  refine mread_sp (g := g) hN (by omega) hu hz s63 (fun i hi => ⟨by rw [hA1 64 0 (by omega), hg]; exact (y3 i hi).1.symm, by rw [hg]; exact (y3 i hi).2⟩) (fun y2' cc => ?_)
  obtain ⟨mx, d71, d73, d74, d75, d72, dw⟩ := cc
  have f6 : sF y2' 11 0 6 = nI n := by rw [mx.1]; exact s6
  rw [f6, nI_clamp (show n < 2 ^ 31 by omega)]
  refine ⟨vp_in_nI (by omega) (by decide), fun s16 e16 => ?_⟩
  have f16 : sF s16 11 0 6 = nI n := by rw [e16, sF_A]; exact f6
  have fin : ∀ w', w' = w → fX11_text_b122 N (nI k) (nI u) a3 a4 (fun r2 σ2 => nI n = r2 ∧ Inv σ2 (L ++ idsT n)) s16 w' (sF s16 11 0 6) 0 := by
    rintro w' rfl
    unfold fX11_text_b122
    rw [f16, nI_clamp (show n < 2 ^ 31 by omega)]
    refine ⟨vp_in_nI (by omega) (by decide), fun s21 e21 => ?_⟩
    have f21 : sF s21 11 0 6 = nI n := by rw [e21, sF_A]; exact f16
    rw [f21, nI_clamp (show n < 2 ^ 31 by omega)]
    refine ⟨vp_in_nI (by omega) (by decide), fun s23 e23 s24 e24 => ?_⟩
    have f23 : sF s23 11 0 6 = nI n := by rw [e23, sF_A]; exact f21
    rw [f23, show nI n + 1 = nI (n + 1) from nI_add n 1] at e24
    have f24 : sF s24 11 0 6 = nI (n + 1) := by rw [e24, sF_F, if_pos ⟨rfl, rfl, rfl⟩]
    rw [f24]
    refine ⟨by rw [show nI (n + 1) - (1 : Int32) = nI (n + 1 - 1) from sR' (a := n + 1) (b := 1) (by omega), Nat.add_sub_cancel], ?_⟩
    have kF : ∀ K i j, ¬ (K = 11 ∧ j = 6) → sF s24 K i j = sF s27 K i j := fun K i j h => by
      rw [e24, sF_F, if_neg (by omega), e23, sF_A, e21, sF_A, e16, sF_A, mx.1]
    have kA : ∀ K i j, ¬ ((K = 67 ∨ K = 68 ∨ K = 69) ∧ j = n) → sA s24 K i j = sA y2' K i j := fun K i j h => by
      rw [e24, sA_F, e23, sA_A, if_neg (by omega), e21, sA_A, if_neg (by omega), e16, sA_A, if_neg (by omega)]
    have k67 : sA s24 67 0 n = nI k := by
      rw [e24, sA_F, e23, sA_A, if_neg (by omega), e21, sA_A, if_neg (by omega), e16, sA_A, if_pos ⟨rfl, rfl, rfl⟩]
    have k68 : sA s24 68 0 n = w' := by
      rw [e24, sA_F, e23, sA_A, if_neg (by omega), e21, sA_A, if_pos ⟨rfl, rfl, rfl⟩]
    have k69 : sA s24 69 0 n = a4 := by
      rw [e24, sA_F, e23, sA_A, if_pos ⟨rfl, rfl, rfl⟩]
    have rd : Rdd s24 n z g := ⟨by rw [kA 71 0 n (by omega)]; exact d71, by rw [kA 75 0 n (by omega)]; exact d75, fun i hi => by rw [kA 72 0 _ (by omega)]; exact d72 i hi, fun w hw => by rw [kA 76 0 _ (by omega), kA 77 0 _ (by omega)]; exact dw w hw⟩
    have own : ∀ K i, K < 67 → sA s24 K i = sA s27 K i := fun K i h => funext fun j => by
      rw [kA K i j (by omega), mx.2.2.2.2 K i j (by omega) (by omega) (by omega)]
    have k70 : sA s24 70 0 n = 0 := by
      rw [kA 70 0 n (by omega), mx.2.2.2.2 70 0 n (by omega) (by omega) (by omega), hA1 70 0 (by omega)]
      exact g1.2.2.2.2.2.2.2.2.2.2 n (Nat.le_refl n)
    refine inv_newT hn hm gl g1 g2 g3 g4 g5 g6 g7 g8 (fun K i j h1 h2 h3 => by rw [kF K i j h2, hF1 K i j h1 h3]) (fun K i j h1 h2 h3 h4 => by rw [kA K i j (by omega), mx.2.2.2.2 K i j (by omega) (by omega) (by omega), hA1 K i (by omega)]) (by rw [e24, sJ_F, e23, sJ_A, e21, sJ_A, e16, sJ_A, mx.2.1, hJ1]) (fun K i j => by rw [e24, sR_F, e23, sR_A, e21, sR_A, e16, sR_A, mx.2.2.2.1, hR1]) (by rw [kF 10 0 11 (by omega)]; exact hF10) f24 ?_ (fun f hf => ?_)
    · refine tx_new (g := g) hz rd (by rw [kA 73 0 n (by omega)]; exact d73) (by rw [kA 74 0 n (by omega)]; exact d74) (by rw [kF 4 n 3 (by omega), hF4 4 3 (Or.inl rfl)]; exact c3) (by rw [kF 4 n 4 (by omega), hF4 4 4 (Or.inl rfl)]; exact c4) (by rw [kF 4 n 5 (by omega), hF4 4 5 (Or.inl rfl)]; exact c5) (by rw [kF 4 n 6 (by omega), hF4 4 6 (Or.inl rfl)]; exact c6) (by rw [kF 4 n 7 (by omega), hF4 4 7 (Or.inl rfl)]; exact c7) (by rw [kF 7 n 1 (by omega)]; exact t1) (by rw [kF 7 n 2 (by omega)]; exact t2) ⟨?_, ?_, fun e => ?_, ?_⟩ ⟨Or.inl k70, k, hk, k67, ?_⟩ (fun j hj => by rw [own 25 n (by decide), hAy 25 n (by omega)]; exact c25 j hj) (fun w hw => by rw [own 26 n (by decide), hAy 26 n (by omega), own 27 n (by decide), hAy 27 n (by omega)]; exact cw w hw)
      · rw [kF 8 n 0 (by omega), hF4 8 0 (Or.inr rfl), rx.1 8 n 0 (by omega), n80, k67]
      · rw [kF 8 n 1 (by omega), hF4 8 1 (Or.inr rfl), rx.1 8 n 1 (by omega), n81, k68]
      · rw [kF 8 n 2 (by omega), hF4 8 2 (Or.inr rfl), rx.1 8 n 2 (by omega), n82, k69]
        exact hy ((nI_eq (by omega) (by decide)).mp (k67.symm.trans e))
      · rw [kF 8 n 5 (by omega), hF4 8 5 (Or.inr rfl), rx.1 8 n 5 (by omega), n85, k70]
      · rcases hw with ⟨h1, ⟨v, hv, ev⟩, h3⟩ | ⟨h1, h3⟩
        · exact Or.inl ⟨h1, v, hv, by rw [k68, h3, ev]⟩
        · exact Or.inr ⟨h1, by rw [k68, h3]⟩
    · rw [own 29 n (by decide), hA29 f hf]
      have fs2 : FQ (TRd σ n z g) s24 f := by
        have q : ∀ K, decide (K = 79 ∨ K = 80 ∨ K = 81 ∨ K = 82) = true → sA s24 K = sA (TRd σ n z g) K := fun K q => by
          have q := of_decide_eq_true q
          rw [TRd_x (by omega)]
          funext i j
          rw [kA K i j (by omega), mx.2.2.2.2 K i j (by omega) (by omega) (by omega), hA1 K i (by omega)]
        exact ⟨by rw [q 79 rfl], by rw [q 80 rfl], by rw [q 81 rfl], fun k hk => by rw [q 82 rfl]⟩
      rw [cnt_rd hz (rd_TR hz) rd fs2]
  rcases hw with ⟨h1, h2, h3⟩ | ⟨h1, h3⟩
  · refine (m_in_y ?_ ?_).mpr ⟨fun z => absurd z (by decide), fun _ => fin a3 h3.symm⟩
    · exact nI_nlt (show 1 ≤ k by omega) (by omega)
    · exact nI_nlt (show k ≤ 2 by omega) (by decide)
  · refine (m_in_n ?_).mpr ⟨fun _ => fin (-9) h3.symm, fun z => absurd rfl z⟩
    rcases (show k = 0 ∨ k = 3 by omega) with rfl | rfl
    · left; decide
    · right; decide
