theorem Tx_c {t : Nat} {σ σ' : St} (h : Tx σ t) (e4 : sF σ' 4 t = sF σ 4 t) (e7 : sF σ' 7 t = sF σ 7 t) (e8 : sF σ' 8 t = sF σ 8 t) (a25 : sA σ' 25 t = sA σ 25 t) (a26 : sA σ' 26 t = sA σ 26 t) (a27 : sA σ' 27 t = sA σ 27 t) (am : ∀ K, 67 ≤ K → K ≤ 77 → sA σ' K 0 = sA σ K 0) : Tx σ' t := by
  have a67 := am 67 (by decide) (by decide)
  have a68 := am 68 (by decide) (by decide)
  have a69 := am 69 (by decide) (by decide)
  have a70 := am 70 (by decide) (by decide)
  have a71 := am 71 (by decide) (by decide)
  have a72 := am 72 (by decide) (by decide)
  have a73 := am 73 (by decide) (by decide)
  have a74 := am 74 (by decide) (by decide)
  have a75 := am 75 (by decide) (by decide)
  have a76 := am 76 (by decide) (by decide)
  have a77 := am 77 (by decide) (by decide)
  have f1 : lnM σ' = lnM σ := by funext t; unfold lnM; rw [a71]
  have f2 : qtM σ' = qtM σ := by funext t; unfold qtM; rw [a73]
  have f3 : mkM σ' = mkM σ := by funext t; unfold mkM; rw [a74]
  have f4 : nwM σ' = nwM σ := by funext t; unfold nwM; rw [a75]
  have f5 : waM σ' = waM σ := by funext t w; unfold waM; rw [a76]
  have f6 : wlM σ' = wlM σ := by funext t w; unfold wlM; rw [a77]
  unfold Tx at h ⊢
  rw [f1, f2, f3, f4, f5, f6, e4, e7, e8, a25, a26, a27, a67, a68, a69, a70, a71, a72, a73, a74, a75, a76, a77]
  exact h
/-- the arrays that the invariant reads -/
def trA (K i : Nat) : Bool := decide (K ∈ [22, 24, 25, 26, 27, 28, 29, 31, 38, 42, 43, 44, 48, 49, 61, 63, 64, 67, 68, 69, 70, 71, 72, 73, 74, 75, 76, 77, 79, 80, 81, 82, 86, 90]) && (decide (K ∉ [25, 26, 27, 29]) || decide (i < 14))
def trF (K i : Nat) : Bool := decide (K ∈ [10, 11, 2, 5, 8, 0, 3, 9]) || (decide (K ∈ [4, 7]) && decide (i < 14))
/-- nothing that the invariant reads is another -/
def Same (σ σ' : St) : Prop := (∀ K i j, trF K i = true → sF σ' K i j = sF σ K i j) ∧ (∀ K i j, trA K i = true → sA σ' K i j = sA σ K i j) ∧ sJ σ' = sJ σ ∧ sR σ' = sR σ
theorem Same.rfl' {σ : St} : Same σ σ := ⟨fun _ _ _ _ => rfl, fun _ _ _ _ => rfl, rfl, rfl⟩
theorem Same.trans {a b c : St} (h1 : Same a b) (h2 : Same b c) : Same a c := ⟨fun K i j t => (h2.1 K i j t).trans (h1.1 K i j t), fun K i j t => (h2.2.1 K i j t).trans (h1.2.1 K i j t), h2.2.2.1.trans h1.2.2.1, h2.2.2.2.trans h1.2.2.2⟩
theorem inv_same {σ σ' : St} {L : List (Nat × Nat)} (h : Inv σ L) (s : Same σ σ') : Inv σ' L := by
  obtain ⟨sf, sa, sj, sr⟩ := s
  have kA : ∀ K, (∀ i, trA K i = true) → sA σ' K = sA σ K := fun K t => funext fun i => funext fun j => sa K i j (t i)
  have kA0 : ∀ K, trA K 0 = true → sA σ' K 0 = sA σ K 0 := fun K t => funext fun j => sa K 0 j t
  have kF : ∀ K, (∀ i, trF K i = true) → sF σ' K = sF σ K := fun K t => funext fun i => funext fun j => sf K i j (t i)
  have a := fun (K : Nat) (t : ∀ i, trA K i = true) => kA K t
  obtain ⟨n, m, hn, hm, gl, g1, g2, g3, g4, g5, g6, g7, g8⟩ := h
  have m10 := kF 10 (fun _ => rfl)
  have m11 := kF 11 (fun _ => rfl)
  have m2 := kF 2 (fun _ => rfl)
  have m5 := kF 5 (fun _ => rfl)
  have m8 := kF 8 (fun _ => rfl)
  have m0 := kF 0 (fun _ => rfl)
  have m3 := kF 3 (fun _ => rfl)
  have m9 := kF 9 (fun _ => rfl)
  refine ⟨n, m, hn, hm, gl, G1_c g1 (by rw [m10]) (by rw [m11]) (by rw [m2]) (by rw [m11]) sr (kA _ (fun _ => rfl)), G2_c g2 (fun _ => by rw [m5]) (kA _ (fun _ => rfl)) (kA _ (fun _ => rfl)) (kA _ (fun _ => rfl)), ⟨by rw [m10, m11]; exact g3.1, fun f => by rw [kA 22 (fun _ => rfl), kA 61 (fun _ => rfl)]; exact g3.2.1 f, by rw [m2, m11]; exact g3.2.2.1, by rw [m11]; exact g3.2.2.2.1, by rw [sj]; exact g3.2.2.2.2⟩, fun t ht => ?_, G5_c g5 m0 (kA _ (fun _ => rfl)) (kA _ (fun _ => rfl)) (kA _ (fun _ => rfl)) (kA _ (fun _ => rfl)) (kA _ (fun _ => rfl)) (kA _ (fun _ => rfl)), ?_, G7_c g7 (by rw [m3]) (by rw [m11]) (kA _ (fun _ => rfl)) (kA _ (fun _ => rfl)), G8_c g8 (by rw [m9]) (by rw [m11]) (kA _ (fun _ => rfl)) (kA _ (fun _ => rfl)) (kA _ (fun _ => rfl)) (kA _ (fun _ => rfl)) (by rw [kA 48 (fun _ => rfl)]) (by rw [kA 49 (fun _ => rfl)])⟩
  · have t4 : decide (t < 14) = true := decide_eq_true (by omega)
    refine Tx_c (g4 t ht) (funext fun j => sf 4 t j (by unfold trF; rw [t4]; rfl)) (funext fun j => sf 7 t j (by unfold trF; rw [t4]; rfl)) (by rw [m8]) (funext fun j => sa 25 t j (by unfold trA; rw [t4]; rfl)) (funext fun j => sa 26 t j (by unfold trA; rw [t4]; rfl)) (funext fun j => sa 27 t j (by unfold trA; rw [t4]; rfl)) (fun K h1 h2 => kA0 K ?_)
    rcases (show K = 67 ∨ K = 68 ∨ K = 69 ∨ K = 70 ∨ K = 71 ∨ K = 72 ∨ K = 73 ∨ K = 74 ∨ K = 75 ∨ K = 76 ∨ K = 77 by omega) with rfl | rfl | rfl | rfl | rfl | rfl | rfl | rfl | rfl | rfl | rfl <;> rfl
  · exact G6_c g6 (fun t ht => funext fun j => sa 29 t j (by unfold trA; rw [decide_eq_true (show t < 14 by omega)]; rfl)) (kA _ (fun _ => rfl)) (kA _ (fun _ => rfl)) (kA _ (fun _ => rfl)) (kA _ (fun _ => rfl)) (kA _ (fun _ => rfl)) (kA _ (fun _ => rfl)) (kA _ (fun _ => rfl)) (kA _ (fun _ => rfl)) (kA _ (fun _ => rfl))
theorem same_all {σ : St} {K i : Nat} {f : Nat → Int32} (h : trA K i = false) : Same σ (setAll σ K i f) := by
  refine ⟨fun _ _ _ _ => rfl, fun K' i' j t => ?_, rfl, rfl⟩
  rw [sA_all, if_neg]
  rintro ⟨rfl, rfl⟩
  rw [h] at t; cases t
theorem same_A {σ : St} {K i j : Nat} {x : Int32} (h : trA K i = false) : Same σ (setA σ K i j x) := by
  refine ⟨fun _ _ _ _ => rfl, fun K' i' j' t => ?_, rfl, rfl⟩
  rw [sA_A, if_neg]
  rintro ⟨rfl, rfl, rfl⟩
  rw [h] at t; cases t
theorem same_F {σ : St} {K i j : Nat} {x : Int32} (h : trF K i = false) : Same σ (setF σ K i j x) := by
  refine ⟨fun K' i' j' t => ?_, fun _ _ _ _ => rfl, rfl, rfl⟩
  rw [sF_F, if_neg]
  rintro ⟨rfl, rfl, rfl⟩
  rw [h] at t; cases t
theorem same_B {σ : St} {K i j : Nat} {x : Int64} : Same σ (setB σ K i j x) := ⟨fun _ _ _ _ => rfl, fun _ _ _ _ => rfl, rfl, rfl⟩
