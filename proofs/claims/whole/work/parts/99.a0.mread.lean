-- ===== the reference reads a sheet =====
theorem setA_id {y : St} {K i j : Nat} : setA y K i j (sA y K i j) = y := by
  obtain ⟨a, b, c, d, e⟩ := y
  have q : (fun K' i' j' => if K' = K ∧ i' = i ∧ j' = j then b K i j else b K' i' j') = b := by
    funext K' i' j'
    by_cases h : K' = K ∧ i' = i ∧ j' = j
    · rw [if_pos h, h.1, h.2.1, h.2.2]
    · rw [if_neg h]
  exact congrArg (fun w => (a, w, c, d, e)) q
/-- all but a text's own, in the reference, is kept -/
def MX (t : Nat) (s y : St) : Prop := sF y = sF s ∧ sJ y = sJ s ∧ sB y = sB s ∧ sR y = sR s ∧ ∀ K i j, ¬ ((K = 71 ∨ K = 73 ∨ K = 74 ∨ K = 75) ∧ j = t) → ¬ (K = 72 ∧ 200 * t ≤ j ∧ j < 200 * t + 200) → ¬ ((K = 76 ∨ K = 77) ∧ 100 * t ≤ j ∧ j < 100 * t + 100) → sA y K i j = sA s K i j
theorem MX.trans {t : Nat} {a b c : St} (h1 : MX t a b) (h2 : MX t b c) : MX t a c := ⟨h2.1.trans h1.1, h2.2.1.trans h1.2.1, h2.2.2.1.trans h1.2.2.1, h2.2.2.2.1.trans h1.2.2.2.1, fun K i j e1 e2 e3 => (h2.2.2.2.2 K i j e1 e2 e3).trans (h1.2.2.2.2 K i j e1 e2 e3)⟩
theorem mx_1 {t K : Nat} {s : St} {x : Int32} (h : K = 71 ∨ K = 73 ∨ K = 74 ∨ K = 75) : MX t s (setA s K 0 t x) := ⟨rfl, rfl, rfl, rfl, fun K' i j e1 _ _ => by rw [sA_A, if_neg (fun z => e1 ⟨by rw [z.1]; exact h, z.2.2⟩)]⟩
theorem mx_2 {t i : Nat} {s : St} {x : Int32} (h : i < 200) : MX t s (setA s 72 0 (200 * t + i) x) := ⟨rfl, rfl, rfl, rfl, fun K' i' j _ e2 _ => by rw [sA_A, if_neg (fun z => e2 ⟨z.1, by omega, by omega⟩)]⟩
theorem mx_3 {t K w : Nat} {s : St} {x : Int32} (h : K = 76 ∨ K = 77) (hw : w < 100) : MX t s (setA s K 0 (100 * t + w) x) := ⟨rfl, rfl, rfl, rfl, fun K' i' j _ _ e3 => by rw [sA_A, if_neg (fun z => e3 ⟨by rw [z.1]; exact h, by omega, by omega⟩)]⟩
def C3 (t z i : Nat) (g : Nat → Int32) (s y : St) (q mk nw : Nat) (A B : Nat → Nat) : Prop := MX t s y ∧ sA y 71 0 t = nI z ∧ sA y 73 0 t = nI q ∧ sA y 74 0 t = nI mk ∧ sA y 75 0 t = nI nw ∧ (∀ j, j < i → sA y 72 0 (200 * t + j) = rc g j) ∧ ∀ w, w < nw → sA y 76 0 (100 * t + w) = nI (A w) ∧ sA y 77 0 (100 * t + w) = nI (B w)
theorem c3_q {t z i q mk nw k : Nat} {g : Nat → Int32} {s y : St} {A B : Nat → Nat} (h : C3 t z i g s y q mk nw A B) : C3 t z i g s (setA y 73 0 t (nI k)) k mk nw A B := by
  obtain ⟨h1, h2, h3, h4, h5, h6, h7⟩ := h
  refine ⟨h1.trans (mx_1 (Or.inr (Or.inl rfl))), by rw [sAx (by decide)]; exact h2, by rw [sA_A, if_pos ⟨rfl, rfl, rfl⟩], by rw [sAx (by decide)]; exact h4, by rw [sAx (by decide)]; exact h5, fun j hj => by rw [sAx (by decide)]; exact h6 j hj, fun w hw => by rw [sAx (by decide), sAx (by decide)]; exact h7 w hw⟩
theorem c3_m {t z i q mk nw k : Nat} {g : Nat → Int32} {s y : St} {A B : Nat → Nat} (h : C3 t z i g s y q mk nw A B) : C3 t z i g s (setA y 74 0 t (nI k)) q k nw A B := by
  obtain ⟨h1, h2, h3, h4, h5, h6, h7⟩ := h
  refine ⟨h1.trans (mx_1 (Or.inr (Or.inr (Or.inl rfl)))), by rw [sAx (by decide)]; exact h2, by rw [sAx (by decide)]; exact h3, by rw [sA_A, if_pos ⟨rfl, rfl, rfl⟩], by rw [sAx (by decide)]; exact h5, fun j hj => by rw [sAx (by decide)]; exact h6 j hj, fun w hw => by rw [sAx (by decide), sAx (by decide)]; exact h7 w hw⟩
theorem c3_c {t z i q mk nw : Nat} {g : Nat → Int32} {s y : St} {A B : Nat → Nat} (hi : i < 200) (h : C3 t z i g s y q mk nw A B) : C3 t z (i + 1) g s (setA y 72 0 (200 * t + i) (rc g i)) q mk nw A B := by
  obtain ⟨h1, h2, h3, h4, h5, h6, h7⟩ := h
  refine ⟨h1.trans (mx_2 hi), by rw [sAx (by decide)]; exact h2, by rw [sAx (by decide)]; exact h3, by rw [sAx (by decide)]; exact h4, by rw [sAx (by decide)]; exact h5, fun j hj => ?_, fun w hw => by rw [sAx (by decide), sAx (by decide)]; exact h7 w hw⟩
  rw [sA_A]
  by_cases c : j = i
  · subst c; rw [if_pos ⟨rfl, rfl, rfl⟩]
  · rw [if_neg (fun z => c (by omega))]; exact h6 j (by omega)
theorem c3_b {t z i q mk nw k : Nat} {g : Nat → Int32} {s y : St} {A B : Nat → Nat} (hn : nw < 100) (h : C3 t z i g s y q mk nw A B) : C3 t z i g s (setA (setA (setA y 76 0 (100 * t + nw) (nI k)) 77 0 (100 * t + nw) (nI 0)) 75 0 t (nI (nw + 1))) q mk (nw + 1) (up' A nw k) (up' B nw 0) := by
  obtain ⟨h1, h2, h3, h4, h5, h6, h7⟩ := h
  refine ⟨h1.trans ((mx_3 (Or.inl rfl) hn).trans ((mx_3 (Or.inr rfl) hn).trans (mx_1 (Or.inr (Or.inr (Or.inr rfl)))))), by rw [sAx (by decide), sAx (by decide), sAx (by decide)]; exact h2, by rw [sAx (by decide), sAx (by decide), sAx (by decide)]; exact h3, by rw [sAx (by decide), sAx (by decide), sAx (by decide)]; exact h4, by rw [sA_A, if_pos ⟨rfl, rfl, rfl⟩], fun j hj => by rw [sAx (by decide), sAx (by decide), sAx (by decide)]; exact h6 j hj, fun w hw => ?_⟩
  rw [sAx (by decide), sAx (show 76 ≠ 77 by decide), sAx (show 77 ≠ 75 by decide), sA_A, sA_A]
  unfold up'
  by_cases c : w = nw
  · subst c
    rw [if_pos ⟨rfl, rfl, rfl⟩, if_pos rfl, if_pos ⟨rfl, rfl, rfl⟩, if_pos rfl]; exact ⟨rfl, rfl⟩
  · rw [if_neg (fun z => c (by omega)), if_neg c, if_neg (fun z => c (by omega)), if_neg c, sAx (by decide)]
    exact h7 w (by omega)
theorem c3_l {t z i q mk nw : Nat} {g : Nat → Int32} {s y : St} {A B : Nat → Nat} (hn : nw ≤ 100) (h0 : 1 ≤ nw) (h : C3 t z i g s y q mk nw A B) : C3 t z i g s (setA y 77 0 (100 * t + (nw - 1)) (nI (B (nw - 1) + 1))) q mk nw A (up' B (nw - 1) (B (nw - 1) + 1)) := by
  obtain ⟨h1, h2, h3, h4, h5, h6, h7⟩ := h
  refine ⟨h1.trans (mx_3 (Or.inr rfl) (by omega)), by rw [sAx (by decide)]; exact h2, by rw [sAx (by decide)]; exact h3, by rw [sAx (by decide)]; exact h4, by rw [sAx (by decide)]; exact h5, fun j hj => by rw [sAx (by decide)]; exact h6 j hj, fun w hw => ?_⟩
  rw [sAx (by decide), sA_A]
  unfold up'
  by_cases c : w = nw - 1
  · rw [if_pos ⟨rfl, rfl, by omega⟩, if_pos c]; exact ⟨(h7 w hw).1, rfl⟩
  · rw [if_neg (fun z => c (by omega)), if_neg c]; exact h7 w hw
theorem m262 {N t u i : Nat} {y : St} {Q Kx : St → Prop} {Kh : St → Int32 → Int32 → Int32 → Prop} {v3 v9 : Int32} {nw : Nat} (ht : t < 15) (hn : nw ≤ 100) (e75 : sA y 75 0 t = nI nw) (hi : i < 200) (h1 : isL v9 = true → 1 ≤ nw ∧ Kh (setA y 77 0 (100 * t + (nw - 1)) (sA y 77 0 (100 * t + (nw - 1)) + nI 1)) v3 (nI 1) (nI (i + 1))) (h0 : isL v9 = false → Kh y v3 (nI 0) (nI (i + 1))) : fX11_read_b262_41 N (nI t) (nI u) Q Kh Kx y v3 (nI i) v9 := by
  have fin : ∀ w, w < 100 → (isL v9 = true → w = nw - 1) → fX11_read_b291_41 N (nI t) (nI u) Q Kh Kx y v3 (nI i) v9 (nI w) (nI 100 * nI t) 0 := by
    intro w hw ew
    rw [show nI 100 * nI t = nI (100 * t) from pk_mul 100 t]
    simp only [fX11_read_b291_41, fX11_read_b307_41, aR, nI_clamp (show 100 * t + w < 2 ^ 31 by omega), mIsL]
    refine ⟨vp_in_nI (by omega) (by decide), ?_⟩
    cases c : isL v9 with
    | true =>
      obtain ⟨k1, k2⟩ := h1 c
      rw [← ew c] at k2
      simp only [if_true]
      refine ⟨fun z => absurd z (by decide), fun _ => ⟨vp_in_nI (by omega) (by decide), fun y2 e2 => ?_⟩⟩
      subst e2
      rw [show nI i + 1 = nI (i + 1) from nI_add i 1]
      exact k2
    | false =>
      have k2 := h0 c
      simp only [Bool.false_eq_true, if_false]
      refine ⟨fun _ => ⟨vp_in_nI (by omega) (by decide), fun y2 e2 => ?_⟩, fun z => absurd rfl z⟩
      rw [show sA y 77 0 (100 * t + w) + 0 = sA y 77 0 (100 * t + w) from Int32.add_zero _, setA_id] at e2
      subst e2
      rw [show nI i + 1 = nI (i + 1) from nI_add i 1]
      exact k2
  simp only [fX11_read_b262_41, nI_clamp (show t < 2 ^ 31 by omega), e75]
  refine ⟨vp_in_nI ht (by decide), fun c => ⟨vp_in_nI ht (by decide), ?_⟩, fun c => ?_⟩
  · have c' : 1 ≤ nw := by
      rcases Nat.eq_zero_or_pos nw with z | z
      · exact absurd (by rw [z]; rfl) c
      · exact z
    rw [show nI nw - (1 : Int32) = nI (nw - 1) from sR' c']
    exact fin (nw - 1) (by omega) (fun _ => rfl)
  · have c' : nw = 0 := (nI_eq (by omega) (by decide)).mp c
    exact fin 0 (by decide) (fun e => absurd (h1 e).1 (by omega))
theorem m202 {N t u z i q mk nw k : Nat} {g : Nat → Int32} {s y : St} {A B : Nat → Nat} {Q Kx : St → Prop} {Kh : St → Int32 → Int32 → Int32 → Prop} {v3 v4 : Int32} (ht : t < 15) (hi : i < 200) (cy : C3 t z (i + 1) g s y q mk nw A B) (hn : nw ≤ 100) (ev : v4 = if lb g i = true then nI 1 else nI 0) (hl : lb g i = true → 1 ≤ nw) (hl0 : lb g i = false → nw < 100)
    (K : ∀ y', C3 t z (i + 1) g s y' q (mk + k) (nw + (if rst g i = true then 1 else 0)) (if rst g i = true then up' A nw i else A) (if lt' g i = true then up' (wB B (rst g i) nw) (nw + (if rst g i = true then 1 else 0) - 1) (wB B (rst g i) nw (nw + (if rst g i = true then 1 else 0) - 1) + 1) else wB B (rst g i) nw) → Kh y' v3 (if lt' g i = true then nI 1 else nI 0) (nI (i + 1))) : fX11_read_b202_41 N (nI t) (nI u) Q Kh Kx y v3 v4 (nI i) (rc g i) (nI k) (nI mk) (nI t) 0 := by
  simp only [fX11_read_b202_41, aR, nI_clamp (show t < 2 ^ 31 by omega), mIsL]
  refine ⟨vp_in_nI ht (by decide), fun y2 e2 => ?_⟩
  have c2 : C3 t z (i + 1) g s y2 q (mk + k) nw A B := by subst e2; exact c3_m cy
  clear e2
  have e75 := c2.2.2.2.2.1
  cases cl : lt' g i with
  | true =>
    have cl' : isL (rc g i) = true := cl
    rw [cl] at K
    rw [cl']
    simp only [if_true] at K ⊢
    refine ⟨fun z => absurd z (by decide), fun _ => ?_⟩
    cases cb : lb g i with
    | true =>
      rw [cb] at ev hl
      have er : rst g i = false := by unfold rst; rw [cb]; simp
      rw [er] at K
      have eB : wB B false nw = B := if_neg (by decide)
      rw [eB] at K
      simp only [Bool.false_eq_true, if_false, Nat.add_zero] at K
      have h1 := hl rfl
      refine ⟨fun _ => m262 ht hn e75 hi (fun _ => ⟨h1, ?_⟩) (fun e => absurd (cl'.symm.trans e) (by decide)), fun z => absurd (ev.symm.trans z) (by decide)⟩
      rw [(c2.2.2.2.2.2.2 (nw - 1) (by omega)).2, show nI (B (nw - 1)) + nI 1 = nI (B (nw - 1) + 1) from nI_add _ 1]
      exact K _ (c3_l hn h1 c2)
    | false =>
      rw [cb] at ev hl0
      have h0 := hl0 rfl
      have er : rst g i = true := by unfold rst; rw [cl, cb]; rfl
      rw [er] at K
      have eB : wB B true nw = up' B nw 0 := if_pos rfl
      rw [eB] at K
      simp only [if_true] at K
      refine ⟨fun z => absurd (show v4 = 0 from ev) z, fun _ => ⟨vp_in_nI ht (by decide), ?_⟩⟩
      rw [show (100 : Int32) * nI t = nI (100 * t) from pk_mul 100 t, e75, aR, nI_clamp (show 100 * t + nw < 2 ^ 31 by omega)]
      refine ⟨vp_in_nI (by omega) (by decide), fun y3 e3 => ⟨vp_in_nI ht (by decide), ?_⟩⟩
      have e753 : sA y3 75 0 t = nI nw := by rw [e3, sAx (by decide)]; exact e75
      rw [e753, aR, nI_clamp (show 100 * t + nw < 2 ^ 31 by omega)]
      refine ⟨vp_in_nI (by omega) (by decide), fun y4 e4 => ⟨vp_in_nI ht (by decide), vp_in_nI ht (by decide), fun y5 e5 => ?_⟩⟩
      have e754 : sA y4 75 0 t = nI nw := by rw [e4, sAx (by decide)]; exact e753
      rw [e754, show nI nw + 1 = nI (nw + 1) from nI_add nw 1] at e5
      have c5 := c3_b (k := i) h0 c2
      rw [show nI 0 = (0 : Int32) from rfl, ← e3, ← e4, ← e5] at c5
      have e755 := c5.2.2.2.2.1
      refine m262 ht (by omega) e755 hi (fun _ => ⟨by omega, ?_⟩) (fun e => absurd (cl'.symm.trans e) (by decide))
      rw [(c5.2.2.2.2.2.2 (nw + 1 - 1) (by omega)).2, show nI (up' B nw 0 (nw + 1 - 1)) + nI 1 = nI (up' B nw 0 (nw + 1 - 1) + 1) from nI_add _ 1]
      exact K _ (c3_l (by omega) (by omega) c5)
  | false =>
    have cl' : isL (rc g i) = false := cl
    rw [cl] at K
    rw [cl']
    have er := rst_F cl
    rw [er] at K
    have eB : wB B false nw = B := if_neg (by decide)
    rw [eB] at K
    simp only [Bool.false_eq_true, if_false, Nat.add_zero] at K ⊢
    refine ⟨fun _ => ?_, fun z => absurd rfl z⟩
    exact m262 ht hn e75 hi (fun e => absurd (cl'.symm.trans e) (by decide)) (fun _ => K _ c2)
theorem m157 {N t u z i q mk nw : Nat} {g : Nat → Int32} {s y : St} {A B : Nat → Nat} {Q Kx : St → Prop} {Kh : St → Int32 → Int32 → Int32 → Prop} {v3 v4 : Int32} (ht : t < 15) (hi : i < 200) (cy : C3 t z i g s y q mk nw A B) (hn : nw ≤ 100) (ev : v4 = if lb g i = true then nI 1 else nI 0) (hl : lb g i = true → 1 ≤ nw) (hl0 : lb g i = false → nw < 100)
    (K : ∀ y', C3 t z (i + 1) g s y' q (mk + (if isLM (rc g i) = true then 1 else 0)) (nw + (if rst g i = true then 1 else 0)) (if rst g i = true then up' A nw i else A) (if lt' g i = true then up' (wB B (rst g i) nw) (nw + (if rst g i = true then 1 else 0) - 1) (wB B (rst g i) nw (nw + (if rst g i = true then 1 else 0) - 1) + 1) else wB B (rst g i) nw) → Kh y' v3 (if lt' g i = true then nI 1 else nI 0) (nI (i + 1))) : fX11_read_b157_41 N (nI t) (nI u) Q Kh Kx y v3 v4 (nI i) (rc g i) := by
  simp only [fX11_read_b157_41, fX11_read_b197_41, show (200 : Int32) * nI t = nI (200 * t) from pk_mul 200 t, aR, nI_clamp (show t < 2 ^ 31 by omega), nI_clamp (show 200 * t + i < 2 ^ 31 by omega), mIsL]
  refine ⟨vp_in_nI (by omega) (by decide), fun y2 e2 => ⟨vp_in_nI ht (by decide), ?_⟩⟩
  have c2 : C3 t z (i + 1) g s y2 q mk nw A B := by subst e2; exact c3_c hi cy
  clear e2
  have e74 := c2.2.2.2.1
  rw [e74]
  cases cl : isL (rc g i) with
  | true =>
    have cm := isL_LM cl
    rw [if_pos cm] at K
    simp only [if_true]
    exact ⟨fun _ => m202 (k := 1) ht hi c2 hn ev hl hl0 K, fun z => absurd z (by decide)⟩
  | false =>
    simp only [Bool.false_eq_true, if_false]
    refine ⟨fun z => absurd rfl z, fun _ => ?_⟩
    rw [mIsM cl]
    cases cm : isLM (rc g i) with
    | true =>
      rw [if_pos cm] at K
      simp only [if_true]
      exact ⟨fun z => absurd z (by decide), fun _ => m202 (k := 1) ht hi c2 hn ev hl hl0 K⟩
    | false =>
      rw [if_neg (by rw [cm]; decide)] at K
      simp only [Bool.false_eq_true, if_false]
      exact ⟨fun _ => m202 (k := 0) ht hi c2 hn ev hl hl0 K, fun z => absurd rfl z⟩
