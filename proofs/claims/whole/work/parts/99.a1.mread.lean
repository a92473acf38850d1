theorem mread_sp {N t u z : Nat} {s : St} {g : Nat → Int32} {Q : St → Prop} (hN : 1000 ≤ N) (ht : t < 15) (hu : u < 4) (hz : z ≤ 200) (e63 : sA s 63 0 u = nI z) (eg : ∀ i, i < z → sA s 64 0 (200 * u + i) = g i ∧ fits .byte (.int (g i)) = true) (h : ∀ y, C3 t z z g s y (ct (rop g) z) (ct (fun i => isLM (rc g i)) z) (rnw g z) (wA g z) (wL g z) → Q y) : fX11_read N s (nI t) (nI u) Q := by
  unfold fX11_read
  rw [nI_clamp (show t < 2 ^ 31 by omega), nI_clamp (show u < 2 ^ 31 by omega), e63]
  refine ⟨vp_in_nI hu (by decide), vp_in_nI ht (by decide), fun s1 e1 => ⟨vp_in_nI ht (by decide), fun s2 e2 => ⟨vp_in_nI ht (by decide), fun s3 e3 => ⟨vp_in_nI ht (by decide), fun s4 e4 => ?_⟩⟩⟩⟩
  have c0 : C3 t z 0 g s s4 0 0 0 (wA g 0) (wL g 0) := by
    subst e4; subst e3; subst e2; subst e1
    refine ⟨(mx_1 (Or.inl rfl)).trans ((mx_1 (Or.inr (Or.inl rfl))).trans ((mx_1 (Or.inr (Or.inr (Or.inl rfl)))).trans (mx_1 (Or.inr (Or.inr (Or.inr rfl)))))), ?_, ?_, ?_, ?_, fun j hj => absurd hj (Nat.not_lt_zero _), fun w hw => absurd hw (Nat.not_lt_zero _)⟩
    · rw [sAx (by decide), sAx (by decide), sAx (by decide), sA_A, if_pos ⟨rfl, rfl, rfl⟩]
    · rw [sAx (by decide), sAx (by decide), sA_A, if_pos ⟨rfl, rfl, rfl⟩]; rfl
    · rw [sAx (by decide), sA_A, if_pos ⟨rfl, rfl, rfl⟩]; rfl
    · rw [sA_A, if_pos ⟨rfl, rfl, rfl⟩]; rfl
  clear e1 e2 e3 e4
  refine lpU (fun k i (y : St × Int32 × Int32) => fX11_read_l41 N (nI t) (nI u) Q _ k y.1 y.2.1 y.2.2 (nI i)) (fun i y => C3 t z i g s y.1 (ct (rop g) i) (ct (fun i => isLM (rc g i)) i) (rnw g i) (wA g i) (wL g i) ∧ (y.2.1 = if rq g i = true then nI 1 else nI 0) ∧ y.2.2 = if lb g i = true then nI 1 else nI 0) z N ?_ ?_ 0 (s4, nI 0, nI 0) (by omega) (by omega) ⟨c0, rfl, rfl⟩
  · rintro k ⟨y, v3, v4⟩ ⟨cy, -, -⟩
    have cy : C3 t z z g s y _ _ _ _ _ := cy
    have e : sA y 63 0 u = nI z := by rw [cy.1.2.2.2.2 63 0 u (by omega) (by omega) (by omega)]; exact e63
    simp only [fX11_read_l41, nI_clamp (show u < 2 ^ 31 by omega), e]
    exact ⟨vp_in_nI hu (by decide), fun _ => h y cy, fun c => absurd (nI_le (Nat.le_refl z) (by omega)) c⟩
  · rintro k i ⟨y, v3, v4⟩ hi ⟨cy, e3, e4⟩ K
    have cy : C3 t z i g s y (ct (rop g) i) (ct (fun i => isLM (rc g i)) i) (rnw g i) (wA g i) (wL g i) := cy
    have e3 : v3 = if rq g i = true then nI 1 else nI 0 := e3
    have e4 : v4 = if lb g i = true then nI 1 else nI 0 := e4
    have e : sA y 63 0 u = nI z := by rw [cy.1.2.2.2.2 63 0 u (by omega) (by omega) (by omega)]; exact e63
    have e64 : sA y 64 0 (200 * u + i) = g i := by rw [cy.1.2.2.2.2 64 0 _ (by omega) (by omega) (by omega)]; exact (eg i hi).1
    have e73 := cy.2.2.1
    obtain ⟨kb, hkb, ekb⟩ := byte_e (eg i hi).2
    have s91 : smV (g i) = nI 91 ↔ g i = nI 91 := by rw [ekb]; exact sm_91b kb hkb
    have s93 : smV (g i) = nI 93 ↔ g i = nI 93 := by rw [ekb]; exact sm_93b kb hkb
    have ri := RI_all g i
    have K : ∀ (y' : St) (w3 : Int32), C3 t z (i + 1) g s y' (ct (rop g) i + (if rop g i = true then 1 else 0)) (ct (fun i => isLM (rc g i)) i + (if isLM (rc g i) = true then 1 else 0)) (rnw g i + (if rst g i = true then 1 else 0)) (if rst g i = true then up' (wA g i) (rnw g i) i else wA g i) (if lt' g i = true then up' (wB (wL g i) (rst g i) (rnw g i)) (rnw g i + (if rst g i = true then 1 else 0) - 1) (wB (wL g i) (rst g i) (rnw g i) (rnw g i + (if rst g i = true then 1 else 0) - 1) + 1) else wB (wL g i) (rst g i) (rnw g i)) → w3 = (if rq g (i + 1) = true then nI 1 else nI 0) → fX11_read_l41 N (nI t) (nI u) Q (fun σ58 => Q σ58) k y' w3 (if lt' g i = true then nI 1 else nI 0) (nI (i + 1)) := by
      intro y' w3 q1 q2
      refine K (y', w3, if lt' g i = true then nI 1 else nI 0) ⟨?_, q2, rfl⟩
      have en : rnw g (i + 1) = rnw g i + (if rst g i = true then 1 else 0) := ct_s _ _
      rw [← en] at q1
      have eL : wL g (i + 1) = if lt' g i = true then up' (wB (wL g i) (rst g i) (rnw g i)) (rnw g (i + 1) - 1) (wB (wL g i) (rst g i) (rnw g i) (rnw g (i + 1) - 1) + 1) else wB (wL g i) (rst g i) (rnw g i) := rfl
      have eA : wA g (i + 1) = if rst g i = true then up' (wA g i) (rnw g i) i else wA g i := rfl
      rw [← eL, ← eA] at q1
      show C3 t z (i + 1) g s y' (ct (rop g) (i + 1)) (ct (fun i => isLM (rc g i)) (i + 1)) (rnw g (i + 1)) (wA g (i + 1)) (wL g (i + 1))
      rw [ct_s (rop g), ct_s (fun i => isLM (rc g i))]
      exact q1
    have fin : ∀ (y1 : St) (w3 : Int32), C3 t z i g s y1 (ct (rop g) i + (if rop g i = true then 1 else 0)) (ct (fun i => isLM (rc g i)) i) (rnw g i) (wA g i) (wL g i) → w3 = (if rq g (i + 1) = true then nI 1 else nI 0) → fX11_read_b157_41 N (nI t) (nI u) Q (fun (σ : St) (w3 : Int32) (w4 : Int32) (w5 : Int32) => fX11_read_l41 N (nI t) (nI u) Q (fun σ58 => Q σ58) k σ w3 w4 w5) (fun σ58 => Q σ58) y1 w3 v4 (nI i) (rc g i) := by
      intro y1 w3 q1 q2
      exact m157 ht (by omega) q1 (by have := ri.1; omega) e4 ri.2.2.1 (fun z => by have := ri.2.1 z; omega) (fun y' q => K y' w3 q q2)
    simp only [fX11_read_l41, nI_clamp (show u < 2 ^ 31 by omega), e, show (200 : Int32) * nI u = nI (200 * u) from pk_mul 200 u, aR, nI_clamp (show 200 * u + i < 2 ^ 31 by omega), e64, mSmall]
    refine ⟨vp_in_nI hu (by decide), fun c => absurd c (nI_ge hi (by omega)), fun _ => ⟨vp_in_nI (by omega) (by decide), ?_⟩⟩
    have b105 : ∀ (v7 : Int32) (w : Nat), w = (if rop g i = true then 1 else 0) → (∀ y1, C3 t z i g s y1 (ct (rop g) i + (if rop g i = true then 1 else 0)) (ct (fun i => isLM (rc g i)) i) (rnw g i) (wA g i) (wL g i) → ((¬ v3 = 0 → fX11_read_b120_41 N (nI t) (nI u) Q (fun (σ : St) (w3 : Int32) (w4 : Int32) (w5 : Int32) => fX11_read_l41 N (nI t) (nI u) Q (fun σ58 => Q σ58) k σ w3 w4 w5) (fun σ58 => Q σ58) y1 v3 v4 (nI i) (smV (g i)) v7) ∧ (v3 = 0 → ((¬ v7 = 0 → fX11_read_b120_41 N (nI t) (nI u) Q (fun (σ : St) (w3 : Int32) (w4 : Int32) (w5 : Int32) => fX11_read_l41 N (nI t) (nI u) Q (fun σ58 => Q σ58) k σ w3 w4 w5) (fun σ58 => Q σ58) y1 v3 v4 (nI i) (smV (g i)) v7) ∧ (v7 = 0 → fX11_read_b121_41 N (nI t) (nI u) Q (fun (σ : St) (w3 : Int32) (w4 : Int32) (w5 : Int32) => fX11_read_l41 N (nI t) (nI u) Q (fun σ58 => Q σ58) k σ w3 w4 w5) (fun σ58 => Q σ58) y1 v3 v4 (nI i) (smV (g i)) v7 (1 : Int32)))))) → fX11_read_b105_41 N (nI t) (nI u) Q (fun (σ : St) (w3 : Int32) (w4 : Int32) (w5 : Int32) => fX11_read_l41 N (nI t) (nI u) Q (fun σ58 => Q σ58) k σ w3 w4 w5) (fun σ58 => Q σ58) y v3 v4 (nI i) (smV (g i)) v7 (nI w) (nI (ct (rop g) i)) (nI t) 0 := by
      intro v7 w ew hh
      simp only [fX11_read_b105_41, nI_clamp (show t < 2 ^ 31 by omega), aR]
      refine ⟨vp_in_nI ht (by decide), fun y1 e1 => hh y1 ?_⟩
      rw [← ew, e1]
      exact c3_q cy
    by_cases q : rq g i = true
    · rw [if_pos q] at e3
      have nz : ¬ v3 = 0 := by rw [e3]; decide
      have er : rop g i = false := by unfold rop; rw [q]; rfl
      have ec : rc g i = nI 32 := if_pos (Or.inl q)
      refine ⟨fun _ => ?_, fun z => absurd z nz⟩
      simp only [fX11_read_b85_41, fX11_read_b86_41, nI_clamp (show t < 2 ^ 31 by omega), e73]
      refine ⟨vp_in_nI ht (by decide), fun _ => b105 0 0 (by rw [er]; rfl) (fun y1 c1 => ⟨fun _ => ?_, fun z => absurd z nz⟩), fun z => absurd trivial z⟩
      simp only [fX11_read_b120_41, fX11_read_b121_41, fX11_read_b139_41, fX11_read_b143_41, fX11_read_b144_41]
      rw [ec] at fin
      refine ⟨fun z => absurd trivial z, fun _ => ⟨fun z => absurd z nz, fun _ => ⟨fun c => ⟨fun _ => fin y1 _ c1 ?_, fun z => absurd trivial z⟩, fun c => ⟨fun _ => fin y1 _ c1 ?_, fun z => absurd trivial z⟩⟩⟩⟩
      · rw [if_neg]; rfl
        show ¬ (if rq g i = true then decide (¬ g i = nI 93) else decide (g i = nI 91)) = true
        rw [if_pos q]; simp [s93.mp c]
      · rw [if_pos]; rfl
        show (if rq g i = true then decide (¬ g i = nI 93) else decide (g i = nI 91)) = true
        rw [if_pos q]
        exact decide_eq_true (fun z => c (s93.mpr z))
    · have qF : rq g i = false := by simpa using q
      rw [if_neg q] at e3
      refine ⟨fun z => absurd e3 z, fun _ => ⟨fun c => ?_, fun c => ?_⟩⟩
      · have c91 : ¬ g i = nI 91 := fun z => c (s91.mpr z)
        have er : rop g i = false := by unfold rop; simp [c91]
        have ec : rc g i = smV (g i) := if_neg (fun z => z.elim q c91)
        simp only [fX11_read_b85_41, fX11_read_b86_41, nI_clamp (show t < 2 ^ 31 by omega), e73]
        refine ⟨vp_in_nI ht (by decide), fun _ => b105 0 0 (by rw [er]; rfl) (fun y1 c1 => ⟨fun z => absurd e3 z, fun _ => ⟨fun z => absurd rfl z, fun _ => ?_⟩⟩), fun z => absurd trivial z⟩
        simp only [fX11_read_b120_41, fX11_read_b121_41, fX11_read_b139_41, fX11_read_b143_41, fX11_read_b144_41]
        rw [ec] at fin
        refine ⟨fun z => absurd trivial z, fun _ => ⟨fun _ => ⟨fun z => absurd z (by decide), fun _ => fin y1 _ c1 ?_⟩, fun z => absurd e3 z⟩⟩
        rw [if_neg]; rfl
        show ¬ (if rq g i = true then decide (¬ g i = nI 93) else decide (g i = nI 91)) = true
        rw [if_neg q]; simp [c91]
      · have c91 : g i = nI 91 := s91.mp c
        have er : rop g i = true := by unfold rop; rw [qF]; simp [c91]
        have ec : rc g i = nI 32 := if_pos (Or.inr c91)
        simp only [fX11_read_b86_41, nI_clamp (show t < 2 ^ 31 by omega), e73]
        refine ⟨vp_in_nI ht (by decide), fun z => absurd z (by decide), fun _ => b105 1 1 (by rw [er]; rfl) (fun y1 c1 => ⟨fun z => absurd e3 z, fun _ => ⟨fun _ => ?_, fun z => absurd z (by decide)⟩⟩)⟩
        simp only [fX11_read_b120_41, fX11_read_b121_41, fX11_read_b139_41, fX11_read_b143_41, fX11_read_b144_41]
        rw [ec] at fin
        refine ⟨fun _ => ⟨fun _ => fin y1 _ c1 ?_, fun z => absurd trivial z⟩, fun z => absurd z (by decide)⟩
        rw [if_pos]; rfl
        show (if rq g i = true then decide (¬ g i = nI 93) else decide (g i = nI 91)) = true
        rw [if_neg q]; simp [c91]
