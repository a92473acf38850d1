-- ===== the invariant, with one feature more; and with a reading in the spare place =====
theorem inv_newF {n m : Nat} {σ σ' : St} {L : List (Nat × Nat)} (hn : n ≤ 14) (hm : m < 12) (gl : GL n m L) (g1 : G1 n m σ) (g2 : G2 σ) (g3 : G3 σ) (g4 : G4 n σ) (g5 : G5 m σ) (g6 : G6 n m σ) (g7 : G7 σ) (g8 : G8 σ)
    (hF : ∀ K i j, ¬ (K = 2 ∧ j = 2) → ¬ (K = 11 ∧ j = 18) → ¬ (K = 0 ∧ i = m) → ¬ (K = 4 ∧ i = 14) → sF σ' K i j = sF σ K i j)
    (hA : ∀ K i j, ¬ (K = 28 ∧ i = m) → ¬ ((K = 31 ∨ K = 29 ∨ K = 79 ∨ K = 80 ∨ K = 81) ∧ j = m) → ¬ (K = 82 ∧ 12 * m ≤ j ∧ j < 12 * m + 12) → ¬ ((K = 25 ∨ K = 26 ∨ K = 27) ∧ i = 14) → ¬ (67 ≤ K ∧ K ≤ 75 ∧ K ≠ 72 ∧ K ≠ 70 ∧ j = 14) → ¬ (K = 72 ∧ 2800 ≤ j ∧ j < 3000) → ¬ ((K = 76 ∨ K = 77) ∧ 1400 ≤ j ∧ j < 1500) → sA σ' K i j = sA σ K i j)
    (hJ : sJ σ' = sJ σ) (hR : ∀ K i j, sR σ' K i j = if K = 30 ∧ i = 0 ∧ j = m then some m else sR σ K i j)
    (e2 : sF σ' 2 0 2 = nI (m + 1)) (e18 : sF σ' 11 0 18 = nI (m + 1)) (ft : Ft σ' m) (ec : ∀ t, t < n → sA σ' 29 t m = nI (cnt σ' m t)) : Inv σ' (L ++ idsF m) := by
  have hAK : ∀ K, decide (K < 67 ∧ ¬ (K = 25 ∨ K = 26 ∨ K = 27 ∨ K = 28 ∨ K = 29 ∨ K = 31) ∨ 82 < K ∨ K = 70 ∨ K = 78) = true → sA σ' K = sA σ K := by
    intro K q
    have q := of_decide_eq_true q
    funext i j
    exact hA K i j (by omega) (by omega) (by omega) (by omega) (by omega) (by omega) (by omega)
  have hFK : ∀ K, decide (K ≠ 2 ∧ K ≠ 11 ∧ K ≠ 0 ∧ K ≠ 4) = true → sF σ' K = sF σ K := by
    intro K q
    have q := of_decide_eq_true q
    funext i j
    exact hF K i j (by omega) (by omega) (by omega) (by omega)
  have hA2 : ∀ K t, t < 14 → decide (K = 25 ∨ K = 26 ∨ K = 27) = true → sA σ' K t = sA σ K t := fun K t h h1 => funext fun j => by
    have h1 := of_decide_eq_true h1
    exact hA K t j (by omega) (by omega) (by omega) (by omega) (by omega) (by omega) (by omega)
  have ts : ∀ t, t < 14 → TS σ σ' t := fun t h => ⟨fun K k1 k2 k3 => hA K 0 t (by omega) (by omega) (by omega) (by omega) (by omega) (by omega) (by omega), fun i hi => hA 72 0 _ (by omega) (by omega) (by omega) (by omega) (by omega) (by omega) (by omega), fun w hw => ⟨hA 76 0 _ (by omega) (by omega) (by omega) (by omega) (by omega) (by omega) (by omega), hA 77 0 _ (by omega) (by omega) (by omega) (by omega) (by omega) (by omega) (by omega)⟩⟩
  have fs : ∀ f, f < m → FQ σ σ' f := fun f h => ⟨hA 79 0 f (by omega) (by omega) (by omega) (by omega) (by omega) (by omega) (by omega), hA 80 0 f (by omega) (by omega) (by omega) (by omega) (by omega) (by omega) (by omega), hA 81 0 f (by omega) (by omega) (by omega) (by omega) (by omega) (by omega) (by omega), fun k hk => hA 82 0 _ (by omega) (by omega) (by omega) (by omega) (by omega) (by omega) (by omega)⟩
  obtain ⟨r1, r2, r3, r4, r5, r6, r7, r8, r9, r10, r11⟩ := g1
  refine ⟨n, m + 1, hn, by omega, GL_F gl, ⟨by rw [hFK 10 rfl]; exact r1, by rw [hF 11 0 6 (by omega) (by omega) (by omega) (by omega)]; exact r2, e2, e18, fun p => ?_, fun p => ?_, fun p => ?_, fun p => ?_, fun p => ?_, fun p => ?_, fun t ht => ?_⟩, G2_c g2 (fun _ => by rw [hFK 5 rfl]) (hAK _ rfl) (hAK _ rfl) (hAK _ rfl), ⟨?_, fun f => ?_, ?_, ?_, ?_⟩, fun t ht => ?_, fun f hf => ?_, fun f t hf ht => ?_, ?_, ?_⟩
  · rw [hR, if_neg (by omega)]; exact r5 p
  · rw [hR, if_neg (by omega)]; exact r6 p
  · rw [hR]
    by_cases c : p = m
    · rw [if_pos ⟨rfl, rfl, c⟩, if_pos (by omega), c]
    · rw [if_neg (by omega), r7 p]
      by_cases c2 : p < m
      · rw [if_pos c2, if_pos (by omega)]
      · rw [if_neg c2, if_neg (by omega)]
  · rw [hR, if_neg (by omega)]; exact r8 p
  · rw [hR, if_neg (by omega)]; exact r9 p
  · rw [hR, if_neg (by omega)]; exact r10 p
  · rw [hAK 70 rfl]; exact r11 t ht
  · rw [hFK 10 rfl, hF 11 0 0 (by omega) (by omega) (by omega) (by omega)]; exact g3.1
  · rw [hAK 22 rfl, hAK 61 rfl]; exact g3.2.1 f
  · rw [hF 2 0 3 (by omega) (by omega) (by omega) (by omega), hF 11 0 24 (by omega) (by omega) (by omega) (by omega)]; exact g3.2.2.1
  · rw [hF 11 0 24 (by omega) (by omega) (by omega) (by omega)]; exact g3.2.2.2.1
  · rw [hJ]; exact g3.2.2.2.2
  · exact Tx_d (g4 t ht) (ts t (by omega)) (funext fun j => hF 4 t j (by omega) (by omega) (by omega) (by omega)) (by rw [hFK 7 rfl]) (by rw [hFK 8 rfl]) (hA2 25 t (by omega) rfl) (hA2 26 t (by omega) rfl) (hA2 27 t (by omega) rfl)
  · by_cases c : f = m
    · rw [c]; exact ft
    · exact Ft_d (g5 f (by omega)) (fs f (by omega)) (funext fun j => hF 0 f j (by omega) (by omega) (by omega) (by omega)) (funext fun j => hA 28 f j (by omega) (by omega) (by omega) (by omega) (by omega) (by omega) (by omega)) (hA 31 0 f (by omega) (by omega) (by omega) (by omega) (by omega) (by omega) (by omega))
  · by_cases c : f = m
    · rw [c]; exact ec t ht
    · rw [hA 29 t f (by omega) (by omega) (by omega) (by omega) (by omega) (by omega) (by omega), cnt_tx (ts t (by omega)) (fs f (by omega)) (g4 t ht)]; exact g6 f t (by omega) ht
  · exact G7_c g7 (by rw [hFK 3 rfl]) (hF 11 0 25 (by omega) (by omega) (by omega) (by omega)) (hAK _ rfl) (hAK _ rfl)
  · exact G8_c g8 (by rw [hFK 9 rfl]) (hF 11 0 29 (by omega) (by omega) (by omega) (by omega)) (hAK _ rfl) (hAK _ rfl) (hAK _ rfl) (hAK _ rfl) (by rw [hAK 48 rfl]) (by rw [hAK 49 rfl])
theorem inv_14 {σ σ' : St} {L : List (Nat × Nat)} (h : Inv σ L) (hF : ∀ K i j, ¬ (K = 4 ∧ i = 14) → sF σ' K i j = sF σ K i j)
    (hA : ∀ K i j, ¬ ((K = 25 ∨ K = 26 ∨ K = 27) ∧ i = 14) → ¬ (67 ≤ K ∧ K ≤ 75 ∧ K ≠ 72 ∧ K ≠ 70 ∧ j = 14) → ¬ (K = 72 ∧ 2800 ≤ j ∧ j < 3000) → ¬ ((K = 76 ∨ K = 77) ∧ 1400 ≤ j ∧ j < 1500) → sA σ' K i j = sA σ K i j)
    (hJ : sJ σ' = sJ σ) (hR : sR σ' = sR σ) : Inv σ' L := by
  obtain ⟨n, m, hn, hm, gl, g1, g2, g3, g4, g5, g6, g7, g8⟩ := h
  have hAK : ∀ K, decide (K < 67 ∧ ¬ (K = 25 ∨ K = 26 ∨ K = 27) ∨ 77 < K ∨ K = 70) = true → sA σ' K = sA σ K := by
    intro K q
    have q := of_decide_eq_true q
    funext i j
    exact hA K i j (by omega) (by omega) (by omega) (by omega)
  have hFK : ∀ K, decide (K ≠ 4) = true → sF σ' K = sF σ K := by
    intro K q
    have q := of_decide_eq_true q
    funext i j
    exact hF K i j (by omega)
  have hA2 : ∀ K t, t < 14 → sA σ' K t = sA σ K t ∨ 67 ≤ K := fun K t h => by
    by_cases c : 67 ≤ K
    · exact Or.inr c
    · exact Or.inl (funext fun j => hA K t j (by omega) (by omega) (by omega) (by omega))
  have ts : ∀ t, t < 14 → TS σ σ' t := fun t h => ⟨fun K k1 k2 k3 => hA K 0 t (by omega) (by omega) (by omega) (by omega), fun i hi => hA 72 0 _ (by omega) (by omega) (by omega) (by omega), fun w hw => ⟨hA 76 0 _ (by omega) (by omega) (by omega) (by omega), hA 77 0 _ (by omega) (by omega) (by omega) (by omega)⟩⟩
  have fs : ∀ f, FQ σ σ' f := fun f => ⟨by rw [hAK 79 rfl], by rw [hAK 80 rfl], by rw [hAK 81 rfl], fun k hk => by rw [hAK 82 rfl]⟩
  refine ⟨n, m, hn, hm, gl, G1_c g1 (by rw [hFK 10 rfl]) (by rw [hFK 11 rfl]) (by rw [hFK 2 rfl]) (by rw [hFK 11 rfl]) hR (hAK _ rfl), G2_c g2 (fun _ => by rw [hFK 5 rfl]) (hAK _ rfl) (hAK _ rfl) (hAK _ rfl), ⟨by rw [hFK 10 rfl, hFK 11 rfl]; exact g3.1, fun f => by rw [hAK 22 rfl, hAK 61 rfl]; exact g3.2.1 f, by rw [hFK 2 rfl, hFK 11 rfl]; exact g3.2.2.1, by rw [hFK 11 rfl]; exact g3.2.2.2.1, by rw [hJ]; exact g3.2.2.2.2⟩, fun t ht => ?_, fun f hf => ?_, fun f t hf ht => ?_, G7_c g7 (by rw [hFK 3 rfl]) (by rw [hFK 11 rfl]) (hAK _ rfl) (hAK _ rfl), G8_c g8 (by rw [hFK 9 rfl]) (by rw [hFK 11 rfl]) (hAK _ rfl) (hAK _ rfl) (hAK _ rfl) (hAK _ rfl) (by rw [hAK 48 rfl]) (by rw [hAK 49 rfl])⟩
  · exact Tx_d (g4 t ht) (ts t (by omega)) (funext fun j => hF 4 t j (by omega)) (by rw [hFK 7 rfl]) (by rw [hFK 8 rfl]) ((hA2 25 t (by omega)).resolve_right (by decide)) ((hA2 26 t (by omega)).resolve_right (by decide)) ((hA2 27 t (by omega)).resolve_right (by decide))
  · exact Ft_d (g5 f hf) (fs f) (by rw [hFK 0 rfl]) (by rw [hAK 28 rfl]) (by rw [hAK 31 rfl])
  · rw [hAK 29 rfl, cnt_tx (ts t (by omega)) (fs f) (g4 t ht)]; exact g6 f t hf ht
