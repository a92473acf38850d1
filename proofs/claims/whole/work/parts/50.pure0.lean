-- ===== the pure side: reads of what was written =====
theorem sF_F (σ : St) (K i j : Nat) (x : Int32) (K' i' j' : Nat) : sF (setF σ K i j x) K' i' j' = if K' = K ∧ i' = i ∧ j' = j then x else sF σ K' i' j' := rfl
theorem sF_A (σ : St) (K i j : Nat) (x : Int32) : sF (setA σ K i j x) = sF σ := rfl
theorem sF_J (σ : St) (K i j : Nat) (x : Int64) : sF (setJ σ K i j x) = sF σ := rfl
theorem sF_B (σ : St) (K i j : Nat) (x : Int64) : sF (setB σ K i j x) = sF σ := rfl
theorem sF_R (σ : St) (K i j : Nat) (x : Option Nat) : sF (setR σ K i j x) = sF σ := rfl
theorem sF_all (σ : St) (K i : Nat) (f : Nat → Int32) : sF (setAll σ K i f) = sF σ := rfl
theorem sA_A (σ : St) (K i j : Nat) (x : Int32) (K' i' j' : Nat) : sA (setA σ K i j x) K' i' j' = if K' = K ∧ i' = i ∧ j' = j then x else sA σ K' i' j' := rfl
theorem sA_F (σ : St) (K i j : Nat) (x : Int32) : sA (setF σ K i j x) = sA σ := rfl
theorem sA_J (σ : St) (K i j : Nat) (x : Int64) : sA (setJ σ K i j x) = sA σ := rfl
theorem sA_B (σ : St) (K i j : Nat) (x : Int64) : sA (setB σ K i j x) = sA σ := rfl
theorem sA_R (σ : St) (K i j : Nat) (x : Option Nat) : sA (setR σ K i j x) = sA σ := rfl
theorem sA_all (σ : St) (K i : Nat) (f : Nat → Int32) (K' i' : Nat) : sA (setAll σ K i f) K' i' = if K' = K ∧ i' = i then f else sA σ K' i' := rfl
theorem sJ_J (σ : St) (K i j : Nat) (x : Int64) (K' i' j' : Nat) : sJ (setJ σ K i j x) K' i' j' = if K' = K ∧ i' = i ∧ j' = j then x else sJ σ K' i' j' := rfl
theorem sJ_F (σ : St) (K i j : Nat) (x : Int32) : sJ (setF σ K i j x) = sJ σ := rfl
theorem sJ_A (σ : St) (K i j : Nat) (x : Int32) : sJ (setA σ K i j x) = sJ σ := rfl
theorem sJ_B (σ : St) (K i j : Nat) (x : Int64) : sJ (setB σ K i j x) = sJ σ := rfl
theorem sJ_R (σ : St) (K i j : Nat) (x : Option Nat) : sJ (setR σ K i j x) = sJ σ := rfl
theorem sJ_all (σ : St) (K i : Nat) (f : Nat → Int32) : sJ (setAll σ K i f) = sJ σ := rfl
theorem sB_B (σ : St) (K i j : Nat) (x : Int64) (K' i' j' : Nat) : sB (setB σ K i j x) K' i' j' = if K' = K ∧ i' = i ∧ j' = j then x else sB σ K' i' j' := rfl
theorem sB_F (σ : St) (K i j : Nat) (x : Int32) : sB (setF σ K i j x) = sB σ := rfl
theorem sB_A (σ : St) (K i j : Nat) (x : Int32) : sB (setA σ K i j x) = sB σ := rfl
theorem sB_J (σ : St) (K i j : Nat) (x : Int64) : sB (setJ σ K i j x) = sB σ := rfl
theorem sB_R (σ : St) (K i j : Nat) (x : Option Nat) : sB (setR σ K i j x) = sB σ := rfl
theorem sB_all (σ : St) (K i : Nat) (f : Nat → Int32) : sB (setAll σ K i f) = sB σ := rfl
theorem sR_R (σ : St) (K i j : Nat) (x : Option Nat) (K' i' j' : Nat) : sR (setR σ K i j x) K' i' j' = if K' = K ∧ i' = i ∧ j' = j then x else sR σ K' i' j' := rfl
theorem sR_F (σ : St) (K i j : Nat) (x : Int32) : sR (setF σ K i j x) = sR σ := rfl
theorem sR_A (σ : St) (K i j : Nat) (x : Int32) : sR (setA σ K i j x) = sR σ := rfl
theorem sR_J (σ : St) (K i j : Nat) (x : Int64) : sR (setJ σ K i j x) = sR σ := rfl
theorem sR_B (σ : St) (K i j : Nat) (x : Int64) : sR (setB σ K i j x) = sR σ := rfl
theorem sR_all (σ : St) (K i : Nat) (f : Nat → Int32) : sR (setAll σ K i f) = sR σ := rfl
theorem all_A (σ : St) (K i j : Nat) (f : Nat → Int32) (x : Int32) : setA (setAll σ K i f) K i j x = setAll σ K i (upd f j x) := by
  unfold setA setAll
  simp only [sF, sA, sJ, sB, sR]
  refine Prod.ext rfl (Prod.ext ?_ rfl)
  funext K' i' j'
  show (if K' = K ∧ i' = i ∧ j' = j then x else (if K' = K ∧ i' = i then f else σ.2.1 K' i') j') = (if K' = K ∧ i' = i then upd f j x else σ.2.1 K' i') j'
  by_cases h : K' = K ∧ i' = i
  · rw [if_pos h, if_pos h]
    by_cases hj : j' = j
    · rw [if_pos ⟨h.1, h.2, hj⟩]; simp [upd, hj]
    · rw [if_neg (fun z => hj z.2.2)]; simp [upd, hj]
  · rw [if_neg h, if_neg (fun z => h ⟨z.1, z.2.1⟩), if_neg h]
theorem all_self (σ : St) (K i : Nat) : setAll σ K i (sA σ K i) = σ := by
  unfold setAll
  refine Prod.ext rfl (Prod.ext ?_ rfl)
  funext K' i'
  simp only [sA]
  by_cases h : K' = K ∧ i' = i
  · obtain ⟨rfl, rfl⟩ := h; simp
  · rw [if_neg h]
-- numbers
theorem iLt (a b : Int32) : a < b ↔ a.toInt < b.toInt := Int32.lt_iff_toInt_lt
theorem iLe (a b : Int32) : a ≤ b ↔ a.toInt ≤ b.toInt := Int32.le_iff_toInt_le
theorem iEq (a b : Int32) : a = b ↔ a.toInt = b.toInt := Int32.toInt_inj.symm
theorem pk3 (x : Int32) (n : Nat) (hn : n < 2 ^ 31) : (x < 0 ∨ nI n ≤ x) ∨ ∃ j : Nat, j < n ∧ x = nI j := by
  rcases pk_ix x hn with h | h | h
  · exact Or.inl (Or.inl h)
  · exact Or.inl (Or.inr h)
  · exact Or.inr h
-- a counter's loop
theorem lpU {X : Type} (W : Nat → Nat → X → Prop) (P : Nat → X → Prop) (e N : Nat) (hx : ∀ n x, P e x → W (n + 1) e x) (hs : ∀ n i x, i < e → P i x → (∀ x', P (i + 1) x' → W n (i + 1) x') → W (n + 1) i x) (i : Nat) (x : X) (hi : i ≤ e) (hN : e - i < N) (h : P i x) : W N i x := loop_i W P e hx hs N i x hi hN h
-- fuel: more than any loop needs
def NN : Nat := 100000
-- the small ones
theorem m_in_y {N : Nat} {σ : St} {x a b : Int32} {Q : Int32 → St → Prop} (h1 : ¬ x < a) (h2 : ¬ b < x) : fX11_in N σ x a b Q ↔ Q 1 σ := by
  unfold fX11_in
  exact ⟨fun h => (h.2 h1).2 h2, fun h => ⟨fun c => absurd c h1, fun _ => ⟨fun c => absurd c h2, fun _ => h⟩⟩⟩
theorem m_in_n {N : Nat} {σ : St} {x a b : Int32} {Q : Int32 → St → Prop} (h : x < a ∨ b < x) : fX11_in N σ x a b Q ↔ Q 0 σ := by
  unfold fX11_in
  by_cases h1 : x < a
  · exact ⟨fun g => g.1 h1, fun g => ⟨fun _ => g, fun c => absurd h1 c⟩⟩
  · have h2 : b < x := h.resolve_left h1
    exact ⟨fun g => (g.2 h1).1 h2, fun g => ⟨fun c => absurd c h1, fun _ => ⟨fun _ => g, fun c => absurd h2 c⟩⟩⟩
theorem m_meets {N : Nat} {σ : St} {Q : Int32 → St → Prop} (k : Nat) (hk : k < 6) (h : Q (-3) (setA (setF σ 11 0 0 (nI k)) 61 0 k (sA σ 61 0 k + 1))) : fX11_meets N σ (nI k) Q := by
  unfold fX11_meets
  intro σ1 e1
  subst e1
  refine ⟨vp_in_nI hk (by decide), vp_in_nI hk (by decide), fun σ3 e3 => ?_⟩
  subst e3
  rw [nI_clamp (by omega)]
  exact h
theorem c_found {N : Nat} {σ : St} {Q : Int32 → St → Prop} (k : Nat) (hk : k < 6) (h1 : 1 ≤ k) (h : Q (-3) (setA (setF σ 10 0 12 (nI k)) 22 0 k (sA σ 22 0 k + 1))) : fX10_found N σ (nI k) Q := by
  unfold fX10_found
  refine ⟨fun c => ?_, fun _ => ⟨fun c => ?_, fun _ => fun σ4 e4 => ?_⟩⟩
  · exact absurd c (by rw [iLt, nI_toInt (by omega)]; show ¬ (k : Int) < 1; omega)
  · exact absurd c (by rw [iLe, nI_toInt (by omega)]; show ¬ (6 : Int) ≤ k; omega)
  · subst e4
    refine ⟨vp_in_nI hk (by decide), vp_in_nI hk (by decide), fun σ3 e3 => ?_⟩
    subst e3
    rw [nI_clamp (by omega)]
    exact h
