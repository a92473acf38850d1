theorem m_ix_y {N : Nat} {σ : St} {j w : Nat} {Q : Int32 → St → Prop} (hj : j < w) (hw : w < 2 ^ 30) : fX11_in N σ (nI j) 0 (nI w - 1) Q ↔ Q 1 σ := by
  refine m_in_y (nI_pos (by omega)) ?_
  have e : (nI w - 1).toInt = (w : Int) - 1 := pk_sub_toInt (a := w) (b := 1) hw (by omega)
  rw [iLt, e, nI_toInt (by omega)]; omega
theorem m_ix_n {N : Nat} {σ : St} {x : Int32} {w : Nat} {Q : Int32 → St → Prop} (h : x < 0 ∨ nI w ≤ x) (hw : w < 2 ^ 30) : fX11_in N σ x 0 (nI w - 1) Q ↔ Q 0 σ := by
  refine m_in_n (h.imp id (fun h => ?_))
  have e : (nI w - 1).toInt = (w : Int) - 1 := pk_sub_toInt (a := w) (b := 1) hw (by omega)
  rw [iLe, nI_toInt (by omega)] at h
  rw [iLt, e]; omega
theorem m_k_y {N : Nat} {σ : St} {j : Nat} (k : Nat) {Q : Int32 → St → Prop} (hj : j ≤ k) (hw : k < 2 ^ 30) : fX11_in N σ (nI j) 0 (nI k) Q ↔ Q 1 σ := m_in_y (nI_pos (by omega)) (nI_nlt hj (by omega))
theorem m_k_n {N : Nat} {σ : St} {x : Int32} (k : Nat) {Q : Int32 → St → Prop} (h : x < 0 ∨ nI (k + 1) ≤ x) (hw : k < 2 ^ 30) : fX11_in N σ x 0 (nI k) Q ↔ Q 0 σ := by
  refine m_in_n (h.imp id (fun h => ?_))
  rw [iLe, nI_toInt (by omega)] at h
  rw [iLt, nI_toInt (by omega)]; omega
theorem ne_of_bad {x : Int32} {w j : Nat} (h : x < 0 ∨ nI w ≤ x) (hj : j < w) (hw : w < 2 ^ 31) : ¬ x = nI j := by
  intro e; subst e
  rcases h with h | h
  · exact nI_pos (by omega) h
  · rw [iLe, nI_toInt (by omega), nI_toInt (by omega)] at h; omega
theorem st22 {N : Nat} {σ : St} {L : List (Nat × Nat)} (h : Inv σ L) : S22 N Inv σ L := by
  intro a1
  obtain ⟨n, m, hn, hm, gl, g1, g2, g3, g4, g5, g6, ⟨w, hw, e1, e2, e3⟩, g8⟩ := id h
  unfold fX10_window fX3_ownerOf fX11_window
  rw [e1]
  refine ⟨fun c => ?_, fun c => ⟨fun c2 => ?_, fun c2 => ?_⟩⟩
  · simp only [e2]; exact (m_ix_n (Or.inl c) (by omega)).mpr ⟨fun _ => ⟨trivial, h⟩, fun z => absurd rfl z⟩
  · simp only [e2]; exact (m_ix_n (Or.inr c2) (by omega)).mpr ⟨fun _ => ⟨trivial, h⟩, fun z => absurd rfl z⟩
  · rcases pk3 a1 w (by omega) with (z | z) | ⟨j, hj, z⟩
    · exact absurd z c
    · exact absurd z c2
    · subst z
      refine ⟨fun z => absurd z (nI_ge (a := j) (b := 100) (by omega) (by decide)), fun _ => ⟨vp_in_nI (by omega) (by decide), ?_⟩⟩
      simp only [e2]
      refine (m_ix_y hj (by omega)).mpr ⟨fun z => absurd z (by decide), fun _ => ⟨vp_in_nI (by omega) (by decide), ?_, h⟩⟩
      rw [nI_clamp (by omega)]; exact e3 j hj
theorem st24 {N : Nat} {σ : St} {L : List (Nat × Nat)} (h : Inv σ L) : S24 N Inv σ L := by
  intro a1 a2
  obtain ⟨n, m, hn, hm, gl, g1, g2, g3, g4, g5, g6, g7, ⟨-, w, hw, e1, e2, e3⟩⟩ := id h
  unfold fX10_join fX9_tell fX11_join
  rw [e1]
  rcases pk3 a2 3 (by decide) with hb | ⟨k, hk, rfl⟩
  · have hbad : ∀ (Q : Int32 → St → Prop), Q 0 σ → fX11_in N σ a2 0 2 Q := fun Q hq => (m_k_n 2 hb (by decide)).mpr hq
    have goal : fX11_in N σ a2 0 2 (fun (r2 : Int32) (σ1 : St) => ((¬ r2 = 0 → fX11_in N σ1 a1 (0 : Int32) ((sF σ1 11 0 29) - (1 : Int32)) (fun (r5 : Int32) (σ4 : St) => ((r5 = 0 → (-1 : Int32) = -9 ∧ Inv σ4 L) ∧ (¬ r5 = 0 → (vp_in (((3 : Int32) * a1) + a2) 39 ∧ (-1 : Int32) = (sA σ4 90 0 ((((3 : Int32) * a1) + a2)).toNatClampNeg) ∧ Inv σ4 L))))) ∧ (r2 = 0 → (-1 : Int32) = -1 ∧ Inv σ1 L))) := hbad _ ⟨fun z => absurd rfl z, fun _ => ⟨rfl, h⟩⟩
    refine ⟨fun c => goal, fun c => ⟨fun c2 => ?_, fun c2 => goal⟩⟩
    rcases hb with hb | hb
    · exact absurd hb c
    · exfalso; rw [iLe, nI_toInt (by decide)] at hb; rw [iLt] at c2; have e3 : (3 : Int32).toInt = 3 := by decide
      omega
  · refine ⟨fun c => absurd c (nI_pos (by omega)), fun c => ⟨fun c2 => ?_, fun c2 => absurd (show nI k < nI 3 from nI_lt hk (by decide)) c2⟩⟩
    have fin : ∀ (v : Int32), ((a1 < 0 ∨ nI w ≤ a1) → v = -9) → (∀ j, j < w → a1 = nI j → v = sA σ 90 0 (3 * j + k)) → fX11_in N σ (nI k) 0 2 (fun (r2 : Int32) (σ1 : St) => ((¬ r2 = 0 → fX11_in N σ1 a1 (0 : Int32) ((sF σ1 11 0 29) - (1 : Int32)) (fun (r5 : Int32) (σ4 : St) => ((r5 = 0 → v = -9 ∧ Inv σ4 L) ∧ (¬ r5 = 0 → (vp_in (((3 : Int32) * a1) + nI k) 39 ∧ v = (sA σ4 90 0 ((((3 : Int32) * a1) + nI k)).toNatClampNeg) ∧ Inv σ4 L))))) ∧ (r2 = 0 → v = -1 ∧ Inv σ1 L))) := by
      intro v h1 h2
      refine (m_k_y 2 (by omega) (by decide)).mpr ⟨fun _ => ?_, fun z => absurd z (by decide)⟩
      simp only [e2]
      rcases pk3 a1 w (by omega) with hb | ⟨j, hj, rfl⟩
      · exact (m_ix_n hb (by omega)).mpr ⟨fun _ => ⟨h1 hb, h⟩, fun z => absurd rfl z⟩
      · refine (m_ix_y hj (by omega)).mpr ⟨fun z => absurd z (by decide), fun _ => ?_⟩
        have e : ((3 : Int32) * nI j) + nI k = nI (3 * j + k) := by
          rw [show (3 : Int32) = nI 3 from rfl, pk_mul, nI_add]
        rw [e, nI_clamp (by omega)]
        exact ⟨vp_in_nI (by omega) (by decide), h2 j hj rfl, h⟩
    refine ⟨fun c => ?_, fun c => ⟨fun c2 => ?_, fun c2 => ?_⟩⟩
    · exact fin (-9) (fun _ => rfl) (fun j hj z => absurd z (ne_of_bad (Or.inl c) hj (by omega)))
    · exact fin (-9) (fun _ => rfl) (fun j hj z => absurd z (ne_of_bad (Or.inr c2) hj (by omega)))
    · rcases pk3 a1 w (by omega) with (z | z) | ⟨j, hj, rfl⟩
      · exact absurd z c
      · exact absurd z c2
      have hbadf : ∀ v : Int32, (nI j < 0 ∨ nI w ≤ nI j) → v = -9 := fun v hb => absurd rfl (ne_of_bad hb hj (by omega))
      have inj : ∀ j', j' < w → nI j = nI j' → j = j' := fun j' hj' e => (nI_eq (by omega) (by omega)).mp e
      refine ⟨fun _ => ?_, fun z => absurd (show nI j < nI 14 from nI_lt (by omega) (by decide)) z⟩
      have hin : vp_in (nI j) 14 := vp_in_nI (by omega) (by decide)
      have ec : (nI j).toNatClampNeg = j := nI_clamp (by omega)
      rw [ec]
      refine ⟨fun z => ⟨hin, ?_⟩, fun z => ⟨hin, ?_⟩, fun z1 z2 => ⟨hin, ?_⟩⟩
      · have hk0 : k = 0 := (nI_eq (a := k) (b := 0) (by omega) (by omega)).mp z
        subst hk0
        exact fin _ (hbadf _) (fun j' hj' e => by rw [← inj j' hj' e]; exact (e3 j hj).1)
      · have hk0 : k = 1 := (nI_eq (a := k) (b := 1) (by omega) (by omega)).mp z
        subst hk0
        exact fin _ (hbadf _) (fun j' hj' e => by rw [← inj j' hj' e]; exact (e3 j hj).2.1)
      · have hk2 : k = 2 := by
          rcases (show k = 0 ∨ k = 1 ∨ k = 2 by omega) with rfl | rfl | rfl
          · exact absurd rfl z1
          · exact absurd rfl z2
          · rfl
        subst hk2
        exact fin _ (hbadf _) (fun j' hj' e => by rw [← inj j' hj' e]; exact (e3 j hj).2.2)
