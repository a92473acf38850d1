-- ===== the invariant, with one text more =====
theorem ids_T {t : Nat} {z : Nat × Nat} (h : z ∈ idsT t) : z.2 = t ∧ (z.1 = 8 ∨ z.1 = 4 ∨ z.1 = 25 ∨ z.1 = 26 ∨ z.1 = 27 ∨ z.1 = 7 ∨ z.1 = 29) := by
  unfold idsT at h
  simp only [List.mem_cons, List.not_mem_nil, or_false] at h
  rcases h with rfl | rfl | rfl | rfl | rfl | rfl | rfl <;> simp
theorem ids_F {t : Nat} {z : Nat × Nat} (h : z ∈ idsF t) : z.2 = t ∧ (z.1 = 0 ∨ z.1 = 28) := by
  unfold idsF at h
  simp only [List.mem_cons, List.not_mem_nil, or_false] at h
  rcases h with rfl | rfl <;> simp
theorem GL_T {n m : Nat} {L : List (Nat × Nat)} (h : GL n m L) : GL (n + 1) m (L ++ idsT n) := by
  obtain ⟨h1, h2, h3⟩ := h
  refine ⟨fun q hq => ?_, fun t ht ht2 z hz hq => ?_, fun f hf hf2 z hz hq => ?_⟩
  · rcases List.mem_append.mp hq with hq | hq
    · exact h1 q hq
    · have := (ids_T hq).2; omega
  · rcases List.mem_append.mp hq with hq | hq
    · exact h2 t (by omega) ht2 z hz hq
    · have := (ids_T hq).1; have := (ids_T hz).1; omega
  · rcases List.mem_append.mp hq with hq | hq
    · exact h3 f hf hf2 z hz hq
    · have := (ids_T hq).2; have := (ids_F hz).2; omega
theorem GL_F {n m : Nat} {L : List (Nat × Nat)} (h : GL n m L) : GL n (m + 1) (L ++ idsF m) := by
  obtain ⟨h1, h2, h3⟩ := h
  refine ⟨fun q hq => ?_, fun t ht ht2 z hz hq => ?_, fun f hf hf2 z hz hq => ?_⟩
  · rcases List.mem_append.mp hq with hq | hq
    · exact h1 q hq
    · have := (ids_F hq).2; omega
  · rcases List.mem_append.mp hq with hq | hq
    · exact h2 t ht ht2 z hz hq
    · have := (ids_F hq).2; have := (ids_T hz).2; omega
  · rcases List.mem_append.mp hq with hq | hq
    · exact h3 f (by omega) hf2 z hz hq
    · have := (ids_F hq).1; have := (ids_F hz).1; omega
theorem newId (L : List (Nat × Nat)) : ∃ tt : Nat, ∀ z ∈ L, z.2 < tt := by
  induction L with
  | nil => exact ⟨0, fun z hz => absurd hz List.not_mem_nil⟩
  | cons a L ih =>
    obtain ⟨k, hk⟩ := ih
    refine ⟨max k (a.2 + 1), fun z hz => ?_⟩
    rcases List.mem_cons.mp hz with rfl | hz
    · omega
    · have := hk z hz; omega
theorem inv_newT {n m : Nat} {σ σ' : St} {L : List (Nat × Nat)} (hn : n < 14) (hm : m ≤ 12) (gl : GL n m L) (g1 : G1 n m σ) (g2 : G2 σ) (g3 : G3 σ) (g4 : G4 n σ) (g5 : G5 m σ) (g6 : G6 n m σ) (g7 : G7 σ) (g8 : G8 σ)
    (hF : ∀ K i j, ¬ (K = 10 ∧ j = 11) → ¬ (K = 11 ∧ j = 6) → ¬ ((K = 4 ∨ K = 7 ∨ K = 8) ∧ i = n) → sF σ' K i j = sF σ K i j)
    (hA : ∀ K i j, ¬ ((K = 25 ∨ K = 26 ∨ K = 27 ∨ K = 29) ∧ i = n) → ¬ (67 ≤ K ∧ K ≤ 75 ∧ K ≠ 72 ∧ K ≠ 70 ∧ j = n) → ¬ (K = 72 ∧ 200 * n ≤ j ∧ j < 200 * n + 200) → ¬ ((K = 76 ∨ K = 77) ∧ 100 * n ≤ j ∧ j < 100 * n + 100) → sA σ' K i j = sA σ K i j)
    (hJ : sJ σ' = sJ σ) (hR : ∀ K i j, sR σ' K i j = if K = 21 ∧ i = 0 ∧ j = n then some n else sR σ K i j)
    (e10 : sF σ' 10 0 11 = nI (n + 1)) (e11 : sF σ' 11 0 6 = nI (n + 1)) (tx : Tx σ' n) (ec : ∀ f, f < m → sA σ' 29 n f = nI (cnt σ' f n)) : Inv σ' (L ++ idsT n) := by
  have hAK : ∀ K, decide (K < 67 ∧ ¬ (K = 25 ∨ K = 26 ∨ K = 27 ∨ K = 29) ∨ 77 < K ∨ K = 70) = true → sA σ' K = sA σ K := by
    intro K q
    have q := of_decide_eq_true q
    funext i j
    exact hA K i j (by omega) (by omega) (by omega) (by omega)
  have hFK : ∀ K, decide (K ≠ 10 ∧ K ≠ 11 ∧ K ≠ 4 ∧ K ≠ 7 ∧ K ≠ 8) = true → sF σ' K = sF σ K := by
    intro K q
    have q := of_decide_eq_true q
    funext i j
    exact hF K i j (by omega) (by omega) (by omega)
  have hFt : ∀ K t, t ≠ n → K ≠ 10 → K ≠ 11 → sF σ' K t = sF σ K t := fun K t h h1 h2 => funext fun j => hF K t j (by omega) (by omega) (by omega)
  have hAt : ∀ K t, t ≠ n → K < 67 → sA σ' K t = sA σ K t := fun K t h h1 => funext fun j => hA K t j (by omega) (by omega) (by omega) (by omega)
  have ts : ∀ t, t ≠ n → TS σ σ' t := fun t h => ⟨fun K k1 k2 k3 => hA K 0 t (by omega) (by omega) (by omega) (by omega), fun i hi => hA 72 0 _ (by omega) (by omega) (by omega) (by omega), fun w hw => ⟨hA 76 0 _ (by omega) (by omega) (by omega) (by omega), hA 77 0 _ (by omega) (by omega) (by omega) (by omega)⟩⟩
  have fs : ∀ f, FQ σ σ' f := fun f => ⟨by rw [hAK 79 rfl], by rw [hAK 80 rfl], by rw [hAK 81 rfl], fun k hk => by rw [hAK 82 rfl]⟩
  obtain ⟨r1, r2, r3, r4, r5, r6, r7, r8, r9, r10, r11⟩ := g1
  refine ⟨n + 1, m, by omega, hm, GL_T gl, ⟨e10, e11, by rw [hFK 2 rfl]; exact r3, by rw [hF 11 0 18 (by omega) (by omega) (by omega)]; exact r4, fun p => ?_, fun p => ?_, fun p => ?_, fun p => ?_, fun p => ?_, fun p => ?_, fun t ht => ?_⟩, G2_c g2 (fun _ => by rw [hFK 5 rfl]) (hAK _ rfl) (hAK _ rfl) (hAK _ rfl), ⟨?_, fun f => ?_, ?_, ?_, ?_⟩, fun t ht => ?_, fun f hf => ?_, fun f t hf ht => ?_, ?_, ?_⟩
  · rw [hR, if_neg (by omega)]; exact r5 p
  · rw [hR]
    by_cases c : p = n
    · rw [if_pos ⟨rfl, rfl, c⟩, if_pos (by omega), c]
    · rw [if_neg (by omega), r6 p]
      by_cases c2 : p < n
      · rw [if_pos c2, if_pos (by omega)]
      · rw [if_neg c2, if_neg (by omega)]
  · rw [hR, if_neg (by omega)]; exact r7 p
  · rw [hR, if_neg (by omega)]; exact r8 p
  · rw [hR, if_neg (by omega)]; exact r9 p
  · rw [hR, if_neg (by omega)]; exact r10 p
  · rw [hAK 70 rfl]; exact r11 t (by omega)
  · rw [hF 10 0 12 (by omega) (by omega) (by omega), hF 11 0 0 (by omega) (by omega) (by omega)]; exact g3.1
  · rw [hAK 22 rfl, hAK 61 rfl]; exact g3.2.1 f
  · rw [hFK 2 rfl, hF 11 0 24 (by omega) (by omega) (by omega)]; exact g3.2.2.1
  · rw [hF 11 0 24 (by omega) (by omega) (by omega)]; exact g3.2.2.2.1
  · rw [hJ]; exact g3.2.2.2.2
  · by_cases c : t = n
    · rw [c]; exact tx
    · exact Tx_d (g4 t (by omega)) (ts t c) (hFt 4 t c (by decide) (by decide)) (hFt 7 t c (by decide) (by decide)) (hFt 8 t c (by decide) (by decide)) (hAt 25 t c (by decide)) (hAt 26 t c (by decide)) (hAt 27 t c (by decide))
  · exact Ft_d (g5 f hf) (fs f) (by rw [hFK 0 rfl]) (by rw [hAK 28 rfl]) (by rw [hAK 31 rfl])
  · by_cases c : t = n
    · rw [c]; exact ec f hf
    · rw [hAt 29 t c (by decide), cnt_tx (ts t c) (fs f) (g4 t (by omega))]; exact g6 f t hf (by omega)
  · exact G7_c g7 (by rw [hFK 3 rfl]) (hF 11 0 25 (by omega) (by omega) (by omega)) (hAK _ rfl) (hAK _ rfl)
  · exact G8_c g8 (by rw [hFK 9 rfl]) (hF 11 0 29 (by omega) (by omega) (by omega)) (hAK _ rfl) (hAK _ rfl) (hAK _ rfl) (hAK _ rfl) (by rw [hAK 48 rfl]) (by rw [hAK 49 rfl])
