-- ===== the invariant: class beside reference =====
def GL (n m : Nat) (L : List (Nat × Nat)) : Prop := (∀ q ∈ L, q.1 < 12 ∨ 20 ≤ q.1) ∧ (∀ t, n ≤ t → t < 14 → ∀ z ∈ idsT t, z ∉ L) ∧ ∀ f, m ≤ f → f < 12 → ∀ z ∈ idsF f, z ∉ L
def G1 (n m : Nat) (σ : St) : Prop := sF σ 10 0 11 = nI n ∧ sF σ 11 0 6 = nI n ∧ sF σ 2 0 2 = nI m ∧ sF σ 11 0 18 = nI m ∧ (∀ p, sR σ 20 0 p = if p < 4 then some p else none) ∧ (∀ p, sR σ 21 0 p = if p < n then some p else none) ∧ (∀ p, sR σ 30 0 p = if p < m then some p else none) ∧ (∀ p, sR σ 32 0 p = if p < 6 then some (3 + p) else none) ∧ (∀ p, sR σ 39 0 p = if p < 14 then some (16 + p) else none) ∧ (∀ p, sR σ 40 0 p = if p < 14 then some (9 + p) else none) ∧ ∀ t, n ≤ t → sA σ 70 0 t = 0
/-- a sheet: missing in both, or of one size with the same signs -/
def ShN (σ : St) (s : Nat) : Prop := sF σ 5 s 1 = -1 ∧ sA σ 63 0 s = -9
def ShY (σ : St) (s z : Nat) : Prop := z ≤ 200 ∧ sF σ 5 s 1 = nI z ∧ sA σ 63 0 s = nI z ∧ ∀ k, k < z → sA σ 24 s k = sA σ 64 0 (200 * s + k) ∧ fits .byte (.int (sA σ 24 s k)) = true
def G2 (σ : St) : Prop := ∀ s, s < 4 → ShN σ s ∨ ∃ z : Nat, ShY σ s z
def G3 (σ : St) : Prop := sF σ 10 0 12 = sF σ 11 0 0 ∧ (∀ f, sA σ 22 0 f = sA σ 61 0 f) ∧ sF σ 2 0 3 = sF σ 11 0 24 ∧ (sF σ 11 0 24 = 0 ∨ sF σ 11 0 24 = 1) ∧ sJ σ 10 0 13 = sJ σ 11 0 2
-- the reference's numbers of a text, as numbers
def lnM (σ : St) (t : Nat) : Nat := (sA σ 71 0 t).toNatClampNeg
def qtM (σ : St) (t : Nat) : Nat := (sA σ 73 0 t).toNatClampNeg
def mkM (σ : St) (t : Nat) : Nat := (sA σ 74 0 t).toNatClampNeg
def nwM (σ : St) (t : Nat) : Nat := (sA σ 75 0 t).toNatClampNeg
def waM (σ : St) (t w : Nat) : Nat := (sA σ 76 0 (100 * t + w)).toNatClampNeg
def wlM (σ : St) (t w : Nat) : Nat := (sA σ 77 0 (100 * t + w)).toNatClampNeg
def sm (f : Nat → Nat) : Nat → Nat
  | 0 => 0
  | n + 1 => sm f n + f n
def ct (p : Nat → Bool) : Nat → Nat
  | 0 => 0
  | n + 1 => ct p n + (if p n then 1 else 0)
/-- a text: what both hold of it -/
def Tx (σ : St) (t : Nat) : Prop :=
  (lnM σ t ≤ 200 ∧ nwM σ t ≤ 100 ∧ mkM σ t ≤ 200 ∧ qtM σ t ≤ 200) ∧
  (sA σ 71 0 t = nI (lnM σ t) ∧ sA σ 75 0 t = nI (nwM σ t) ∧ sA σ 74 0 t = nI (mkM σ t) ∧ sA σ 73 0 t = nI (qtM σ t)) ∧
  (sF σ 4 t 3 = nI (lnM σ t) ∧ sF σ 4 t 4 = nI (nwM σ t) ∧ sF σ 4 t 5 = nI (sm (wlM σ t) (nwM σ t)) ∧ sF σ 4 t 6 = nI (mkM σ t) ∧ sF σ 4 t 7 = nI (qtM σ t)) ∧
  (sF σ 7 t 1 = nI (nwM σ t) ∧ sF σ 7 t 2 = nI (mkM σ t)) ∧
  (sF σ 8 t 0 = sA σ 67 0 t ∧ sF σ 8 t 1 = sA σ 68 0 t ∧ (sA σ 67 0 t = 2 → sF σ 8 t 2 = sA σ 69 0 t) ∧ sF σ 8 t 5 = sA σ 70 0 t) ∧
  ((sA σ 70 0 t = 0 ∨ sA σ 70 0 t = 1) ∧ (∃ k : Nat, k < 4 ∧ sA σ 67 0 t = nI k ∧ (((k = 1 ∨ k = 2) ∧ ∃ w : Nat, w < 6 ∧ sA σ 68 0 t = nI w) ∨ (¬ (k = 1 ∨ k = 2) ∧ sA σ 68 0 t = -9)))) ∧
  (∀ i, i < lnM σ t → sA σ 25 t i = sA σ 72 0 (200 * t + i)) ∧
  (∀ w, w < nwM σ t → sA σ 26 t w = nI (waM σ t w) ∧ sA σ 76 0 (100 * t + w) = nI (waM σ t w) ∧ sA σ 27 t w = nI (wlM σ t w) ∧ sA σ 77 0 (100 * t + w) = nI (wlM σ t w) ∧ 1 ≤ wlM σ t w ∧ waM σ t w + wlM σ t w ≤ lnM σ t) ∧
  sm (wlM σ t) (nwM σ t) ≤ 200
def G4 (n : Nat) (σ : St) : Prop := ∀ t, t < n → Tx σ t
/-- a feature: what both hold of it -/
def Ft (σ : St) (f : Nat) : Prop := ∃ so : Nat, so < 4 ∧ sA σ 79 0 f = nI so ∧ sF σ 0 f 0 = nI so ∧ sA σ 31 0 f = (if so = 0 then 1 else 0) ∧ sF σ 0 f 1 = sA σ 80 0 f ∧ (so = 1 → ∃ v : Nat, v < 13 ∧ 1 ≤ v ∧ sA σ 80 0 f = nI v) ∧
  (so = 3 → ∃ l : Nat, 1 ≤ l ∧ l ≤ 200 ∧ sF σ 0 f 3 = nI l ∧ sA σ 81 0 f = nI l ∧ ∀ k, k < 12 → (k < l → sA σ 28 f k = sA σ 82 0 (12 * f + k)) ∧ (l ≤ k → sA σ 28 f k = 32))
def G5 (m : Nat) (σ : St) : Prop := ∀ f, f < m → Ft σ f
/-- does a word of a text fit a feature (of words) -/
def lk (σ : St) (f t w : Nat) : Bool := if sA σ 79 0 f = 1 then decide (sA σ 77 0 (100 * t + w) = sA σ 80 0 f ∨ (12 < wlM σ t w ∧ sA σ 80 0 f = 12)) else if sA σ 79 0 f = 2 then decide (sA σ 72 0 (200 * t + waM σ t w + wlM σ t w - 1) = sA σ 80 0 f) else decide (sA σ 77 0 (100 * t + w) = sA σ 81 0 f) && (List.range 12).all (fun k => decide (k < wlM σ t w → sA σ 72 0 (200 * t + waM σ t w + k) = sA σ 82 0 (12 * f + k)))
/-- how often a feature is in a text -/
def cnt (σ : St) (f t : Nat) : Nat := if sA σ 79 0 f = 0 then ct (fun i => decide (sA σ 72 0 (200 * t + i) = sA σ 80 0 f)) (lnM σ t) else ct (lk σ f t) (nwM σ t)
def G6 (n m : Nat) (σ : St) : Prop := ∀ f t, f < m → t < n → sA σ 29 t f = nI (cnt σ f t)
def G7 (σ : St) : Prop := ∃ w : Nat, w ≤ 100 ∧ sF σ 3 0 7 = nI w ∧ sF σ 11 0 25 = nI w ∧ ∀ i, i < w → sA σ 38 0 i = sA σ 86 0 i
def G8 (σ : St) : Prop := (sA σ 48 0 0 = 0 ∧ sA σ 49 0 0 = 0) ∧ ∃ j : Nat, j ≤ 13 ∧ sF σ 9 0 6 = nI j ∧ sF σ 11 0 29 = nI j ∧ ∀ i, i < j → sA σ 42 0 i = sA σ 90 0 (3 * i) ∧ sA σ 43 0 i = sA σ 90 0 (3 * i + 1) ∧ sA σ 44 0 i = sA σ 90 0 (3 * i + 2)
def Inv (σ : St) (L : List (Nat × Nat)) : Prop := ∃ n m : Nat, n ≤ 14 ∧ m ≤ 12 ∧ GL n m L ∧ G1 n m σ ∧ G2 σ ∧ G3 σ ∧ G4 n σ ∧ G5 m σ ∧ G6 n m σ ∧ G7 σ ∧ G8 σ
-- what each part of it reads
theorem G1_d {n m : Nat} {σ σ' : St} (h : G1 n m σ) (e1 : sF σ' 10 0 11 = sF σ 10 0 11) (e2 : sF σ' 11 0 6 = sF σ 11 0 6) (e3 : sF σ' 2 0 2 = sF σ 2 0 2) (e4 : sF σ' 11 0 18 = sF σ 11 0 18) (e5 : sR σ' = sR σ) (e6 : ∀ t, n ≤ t → sA σ' 70 0 t = sA σ 70 0 t) : G1 n m σ' := by
  unfold G1; rw [e1, e2, e3, e4, e5]; exact ⟨h.1, h.2.1, h.2.2.1, h.2.2.2.1, h.2.2.2.2.1, h.2.2.2.2.2.1, h.2.2.2.2.2.2.1, h.2.2.2.2.2.2.2.1, h.2.2.2.2.2.2.2.2.1, h.2.2.2.2.2.2.2.2.2.1, fun t ht => by rw [e6 t ht]; exact h.2.2.2.2.2.2.2.2.2.2 t ht⟩
theorem G1_c {n m : Nat} {σ σ' : St} (h : G1 n m σ) (e1 : sF σ' 10 0 11 = sF σ 10 0 11) (e2 : sF σ' 11 0 6 = sF σ 11 0 6) (e3 : sF σ' 2 0 2 = sF σ 2 0 2) (e4 : sF σ' 11 0 18 = sF σ 11 0 18) (e5 : sR σ' = sR σ) (e6 : sA σ' 70 = sA σ 70) : G1 n m σ' := G1_d h e1 e2 e3 e4 e5 (fun _ _ => by rw [e6])
theorem Sh_c {σ σ' : St} {s : Nat} (h : ShN σ s ∨ ∃ z : Nat, ShY σ s z) (e1 : sF σ' 5 s 1 = sF σ 5 s 1) (e2 : sA σ' 63 0 s = sA σ 63 0 s) (e3 : sA σ' 24 s = sA σ 24 s) (e4 : ∀ k, k < 200 → sA σ' 64 0 (200 * s + k) = sA σ 64 0 (200 * s + k)) : ShN σ' s ∨ ∃ z : Nat, ShY σ' s z := by
  rcases h with h | ⟨z, h0, h1, h2, h3⟩
  · left; unfold ShN; rw [e1, e2]; exact h
  · right; refine ⟨z, h0, by rw [e1]; exact h1, by rw [e2]; exact h2, fun k hk => ?_⟩
    rw [e3, e4 k (by omega)]; exact h3 k hk
theorem G2_c {σ σ' : St} (h : G2 σ) (e1 : ∀ s, sF σ' 5 s 1 = sF σ 5 s 1) (e2 : sA σ' 63 = sA σ 63) (e3 : sA σ' 24 = sA σ 24) (e4 : sA σ' 64 = sA σ 64) : G2 σ' := fun s hs => Sh_c (h s hs) (e1 s) (by rw [e2]) (by rw [e3]) (fun _ _ => by rw [e4])
theorem G4_c {n : Nat} {σ σ' : St} (h : G4 n σ) (e4 : sF σ' 4 = sF σ 4) (e7 : sF σ' 7 = sF σ 7) (e8 : sF σ' 8 = sF σ 8) (a25 : sA σ' 25 = sA σ 25) (a26 : sA σ' 26 = sA σ 26) (a27 : sA σ' 27 = sA σ 27) (a67 : sA σ' 67 = sA σ 67) (a68 : sA σ' 68 = sA σ 68) (a69 : sA σ' 69 = sA σ 69) (a70 : sA σ' 70 = sA σ 70) (a71 : sA σ' 71 = sA σ 71) (a72 : sA σ' 72 = sA σ 72) (a73 : sA σ' 73 = sA σ 73) (a74 : sA σ' 74 = sA σ 74) (a75 : sA σ' 75 = sA σ 75) (a76 : sA σ' 76 = sA σ 76) (a77 : sA σ' 77 = sA σ 77) : G4 n σ' := by
  intro t ht
  have h := h t ht
  have f1 : lnM σ' = lnM σ := by funext t; unfold lnM; rw [a71]
  have f2 : qtM σ' = qtM σ := by funext t; unfold qtM; rw [a73]
  have f3 : mkM σ' = mkM σ := by funext t; unfold mkM; rw [a74]
  have f4 : nwM σ' = nwM σ := by funext t; unfold nwM; rw [a75]
  have f5 : waM σ' = waM σ := by funext t w; unfold waM; rw [a76]
  have f6 : wlM σ' = wlM σ := by funext t w; unfold wlM; rw [a77]
  unfold Tx at h ⊢
  rw [f1, f2, f3, f4, f5, f6, e4, e7, e8, a25, a26, a27, a67, a68, a69, a70, a71, a72, a73, a74, a75, a76, a77]
  exact h
theorem G5_c {m : Nat} {σ σ' : St} (h : G5 m σ) (e0 : sF σ' 0 = sF σ 0) (a28 : sA σ' 28 = sA σ 28) (a31 : sA σ' 31 = sA σ 31) (a79 : sA σ' 79 = sA σ 79) (a80 : sA σ' 80 = sA σ 80) (a81 : sA σ' 81 = sA σ 81) (a82 : sA σ' 82 = sA σ 82) : G5 m σ' := by
  intro f hf
  have h := h f hf
  unfold Ft at h ⊢
  rw [e0, a28, a31, a79, a80, a81, a82]
  exact h
theorem cnt_c {σ σ' : St} (a71 : sA σ' 71 = sA σ 71) (a72 : sA σ' 72 = sA σ 72) (a75 : sA σ' 75 = sA σ 75) (a76 : sA σ' 76 = sA σ 76) (a77 : sA σ' 77 = sA σ 77) (a79 : sA σ' 79 = sA σ 79) (a80 : sA σ' 80 = sA σ 80) (a81 : sA σ' 81 = sA σ 81) (a82 : sA σ' 82 = sA σ 82) : cnt σ' = cnt σ := by
  funext f t
  have f1 : lnM σ' = lnM σ := by funext t; unfold lnM; rw [a71]
  have f4 : nwM σ' = nwM σ := by funext t; unfold nwM; rw [a75]
  have f5 : waM σ' = waM σ := by funext t w; unfold waM; rw [a76]
  have f6 : wlM σ' = wlM σ := by funext t w; unfold wlM; rw [a77]
  have f7 : lk σ' f t = lk σ f t := by funext w; unfold lk; rw [f5, f6, a72, a77, a79, a80, a81, a82]
  unfold cnt
  rw [f1, f4, f7, a72, a79, a80]
theorem G6_c {n m : Nat} {σ σ' : St} (h : G6 n m σ) (a29 : ∀ t, t < n → sA σ' 29 t = sA σ 29 t) (a71 : sA σ' 71 = sA σ 71) (a72 : sA σ' 72 = sA σ 72) (a75 : sA σ' 75 = sA σ 75) (a76 : sA σ' 76 = sA σ 76) (a77 : sA σ' 77 = sA σ 77) (a79 : sA σ' 79 = sA σ 79) (a80 : sA σ' 80 = sA σ 80) (a81 : sA σ' 81 = sA σ 81) (a82 : sA σ' 82 = sA σ 82) : G6 n m σ' := by
  intro f t hf ht
  rw [cnt_c a71 a72 a75 a76 a77 a79 a80 a81 a82, a29 t ht]
  exact h f t hf ht
theorem G7_c {σ σ' : St} (h : G7 σ) (e1 : sF σ' 3 0 7 = sF σ 3 0 7) (e2 : sF σ' 11 0 25 = sF σ 11 0 25) (e3 : sA σ' 38 = sA σ 38) (e4 : sA σ' 86 = sA σ 86) : G7 σ' := by unfold G7; rw [e1, e2, e3, e4]; exact h
theorem G8_c {σ σ' : St} (h : G8 σ) (e1 : sF σ' 9 0 6 = sF σ 9 0 6) (e2 : sF σ' 11 0 29 = sF σ 11 0 29) (e3 : sA σ' 42 = sA σ 42) (e4 : sA σ' 43 = sA σ 43) (e5 : sA σ' 44 = sA σ 44) (e6 : sA σ' 90 = sA σ 90) (e7 : sA σ' 48 0 0 = sA σ 48 0 0) (e8 : sA σ' 49 0 0 = sA σ 49 0 0) : G8 σ' := by unfold G8; rw [e1, e2, e3, e4, e5, e6, e7, e8]; exact h
theorem inv_00 : Inv σ00 L00 := by
  refine ⟨0, 0, by decide, by decide, ⟨L00_val, fun t _ ht => (by decide +kernel : ∀ t ∈ List.range 14, ∀ z ∈ idsT t, z ∉ L00) t (List.mem_range.mpr ht), fun f _ hf => (by decide +kernel : ∀ t ∈ List.range 12, ∀ z ∈ idsF t, z ∉ L00) f (List.mem_range.mpr hf)⟩, ⟨rfl, rfl, rfl, rfl, ?_, ?_, ?_, ?_, ?_, ?_, ?_⟩, ?_, ⟨rfl, fun _ => ?_, rfl, Or.inl rfl, rfl⟩, fun t ht => absurd ht (by omega), fun t ht => absurd ht (by omega), fun f t hf => absurd hf (by omega), ⟨0, by decide, rfl, rfl, fun i hi => absurd hi (by omega)⟩, ⟨⟨rfl, rfl⟩, 0, by decide, rfl, rfl, fun i hi => absurd hi (by omega)⟩⟩
  · intro p; simp [sR, σ00]
  · intro p; simp [sR, σ00]
  · intro p; simp [sR, σ00]
  · intro p; simp [sR, σ00]
  · intro p; simp [sR, σ00]
  · intro p; simp [sR, σ00]
  · intro t _; simp [sA, σ00]
  · intro s hs
    left
    refine ⟨?_, ?_⟩
    · simp [sF, σ00]
    · simp [sA, σ00, hs]
  · simp [sA, σ00]
