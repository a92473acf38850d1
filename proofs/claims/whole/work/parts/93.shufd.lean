def th (c w : Int32) : Int32 := if nI 0 < w then (nI 1000 * c) / w else nI 0
def absI (r : Int32) : Int32 := if nI 0 ≤ r then r else nI 0 - r
def dff (AC AW a b : Nat) : Int32 := absI (th (nI a) (nI b) - th (nI AC - nI a) (nI AW - nI b))
theorem th_sp {N : Nat} {s : St} {c w : Int32} {Q : Int32 → St → Prop} (h : Q (th c w) s) : fX10_thousandths N s c w Q := by
  unfold th at h
  simp only [fX10_thousandths, li0, li1000]
  by_cases z : nI 0 < w
  · rw [if_pos z] at h
    refine ⟨fun _ => ⟨fun e => ?_, h⟩, fun g => absurd z g⟩
    rw [e] at z; exact i_irr _ z
  · rw [if_neg z] at h
    exact ⟨fun g => absurd g z, fun _ => h⟩
theorem diff_sp {N AC AW k a b : Nat} {s : St} {Q : Int32 → St → Prop} (e6 : sF s 6 0 6 = nI k) (hk : k ≤ 14) (e7 : sF s 6 0 7 = nI AC) (e8 : sF s 6 0 8 = nI AW) (ea : sA s 48 0 k = nI a) (eb : sA s 49 0 k = nI b) (h : Q (dff AC AW a b) s) : fX6_difference N s Q := by
  unfold fX6_difference
  rw [e6, nI_clamp (by omega), ea, eb]
  refine ⟨vp_in_nI (by omega) (by decide), vp_in_nI (by omega) (by decide), ?_⟩
  refine th_sp ?_
  rw [e7, e8]
  refine th_sp ?_
  exact h
/-- a way that stands in the class -/
def VS (s : St) (l : List (Nat × Nat)) (k : Nat) (p A B : Nat → Nat) : Prop := (∀ j, j < k → sA s 47 0 j = nI (p j) ∧ p j ≤ l.length - k + j) ∧ (∀ j, j ≤ k → sA s 48 0 j = nI (A j) ∧ sA s 49 0 j = nI (B j)) ∧ PS l p A B k
theorem vs_take {s s' : St} {l : List (Nat × Nat)} {k i q : Nat} {p A B : Nat → Nat} (hk : k ≤ l.length) (hi : i ≤ k) (hq : q + (k - i) ≤ l.length) (h47 : ∀ j, sA s' 47 0 j = if i ≤ j ∧ j < k then nI (q + (j - i)) else sA s 47 0 j) (h48 : ∀ j, sA s' 48 0 j = if i < j ∧ j ≤ k then nI (A i + ps1 l q (j - i)) else sA s 48 0 j) (h49 : ∀ j, sA s' 49 0 j = if i < j ∧ j ≤ k then nI (B i + ps2 l q (j - i)) else sA s 49 0 j) (o1 : ∀ j, j < i → sA s 47 0 j = nI (p j) ∧ p j ≤ l.length - k + j) (o2 : ∀ j, j ≤ i → sA s 48 0 j = nI (A j) ∧ sA s 49 0 j = nI (B j)) (o3 : ∀ j, j < i → ∃ y, l[p j]? = some y ∧ A (j + 1) = A j + y.1 ∧ B (j + 1) = B j + y.2) : VS s' l k (fun j => if i ≤ j then q + (j - i) else p j) (fun j => if i < j then A i + ps1 l q (j - i) else A j) (fun j => if i < j then B i + ps2 l q (j - i) else B j) := by
  refine ⟨fun j hj => ?_, fun j hj => ⟨?_, ?_⟩, fun j hj => ?_⟩
  · rw [h47 j]
    by_cases c : i ≤ j
    · rw [if_pos ⟨c, hj⟩]; simp only [c, if_true]; exact ⟨trivial, by omega⟩
    · rw [if_neg (fun z => c z.1)]; simp only [c, if_false]; exact o1 j (by omega)
  · rw [h48 j]
    by_cases c : i < j
    · rw [if_pos ⟨c, hj⟩]; simp only [c, if_true]
    · rw [if_neg (fun z => c z.1)]; simp only [c, if_false]; exact (o2 j (by omega)).1
  · rw [h49 j]
    by_cases c : i < j
    · rw [if_pos ⟨c, hj⟩]; simp only [c, if_true]
    · rw [if_neg (fun z => c z.1)]; simp only [c, if_false]; exact (o2 j (by omega)).2
  · by_cases c : i ≤ j
    · refine ⟨l.getD (q + (j - i)) (0, 0), ?_, ?_, ?_⟩
      · simp only [c, if_true]; exact get_y (by omega)
      · simp only [show i < j + 1 by omega, if_true, show j + 1 - i = (j - i) + 1 by omega]
        by_cases d : i < j
        · simp only [d, if_true]; show _ = A i + ps1 l q (j - i) + _; show A i + (ps1 l q (j - i) + _) = _; omega
        · obtain rfl : j = i := by omega
          simp only [Nat.sub_self, Nat.lt_irrefl, if_false]; show _ + (0 + _) = _ + _; rw [Nat.zero_add]
      · simp only [show i < j + 1 by omega, if_true, show j + 1 - i = (j - i) + 1 by omega]
        by_cases d : i < j
        · simp only [d, if_true]; show _ = B i + ps2 l q (j - i) + _; show B i + (ps2 l q (j - i) + _) = _; omega
        · obtain rfl : j = i := by omega
          simp only [Nat.sub_self, Nat.lt_irrefl, if_false]; show _ + (0 + _) = _ + _; rw [Nat.zero_add]
    · obtain ⟨y, h1, h2, h3⟩ := o3 j (by omega)
      refine ⟨y, ?_, ?_, ?_⟩
      · simp only [c, if_false]; exact h1
      · simp only [show ¬ i < j + 1 by omega, show ¬ i < j by omega, if_false]; exact h2
      · simp only [show ¬ i < j + 1 by omega, show ¬ i < j by omega, if_false]; exact h3
theorem takeNext_sp {N k : Nat} {s : St} {l : List (Nat × Nat)} {p A B : Nat → Nat} {Q : Int32 → St → Prop} (hN : 1000 ≤ N) (cl : CL s l) (e6 : sF s 6 0 6 = nI k) (hk : k ≤ l.length) (vs : VS s l k p A B) (h1 : ∀ i, i < k → p i < l.length - k + i → (∀ j, i < j → j < k → p j = l.length - k + j) → fX6_takeOn N s (nI i) (nI (p i + 1)) (fun σ6 => Q (nI 1) σ6)) (h0 : (∀ j, j < k → p j = l.length - k + j) → Q (nI 0) s) : fX6_takeNext N s Q := by
  have hl := cl.1
  have e5 := cl.2.1
  unfold fX6_takeNext
  rw [e6, show nI k - 1 = dn k 0 from dn_0 (by omega)]
  refine lpU (fun n e (y : Unit) => fX6_takeNext_l7 N Q _ _ n s (dn k e)) (fun e y => ∀ j, k - e ≤ j → j < k → p j = l.length - k + j) k N ?_ ?_ 0 () (by omega) (by omega) (fun j h1 h2 => absurd h2 (by omega))
  · rintro n y hy
    rw [dn_e]
    simp only [fX6_takeNext_l7]
    exact ⟨fun _ => h0 (fun j hj => hy j (by omega) hj), fun z => absurd (show mI 1 < 0 by decide) z⟩
  · rintro n e y he hy K
    rw [dn_y he]
    obtain ⟨q1, q2⟩ := vs.1 (k - 1 - e) (by omega)
    have er : nI l.length - nI k + nI (k - 1 - e) = nI (l.length - k + (k - 1 - e)) := by rw [sR' hk, nI_add]
    have K : ∀ x : Unit, (∀ j, k - (e + 1) ≤ j → j < k → p j = l.length - k + j) → fX6_takeNext_l7 N Q _ _ n s (dn k (e + 1)) := K
    simp only [fX6_takeNext_l7, e5, e6, er, nI_clamp (show k - 1 - e < 2 ^ 31 by omega), q1]
    refine ⟨fun z => absurd z (nI_pos (by omega)), fun _ => ⟨vp_in_nI (by omega) (by decide), fun g => ?_, fun g => ?_⟩⟩
    · have g' : l.length - k + (k - 1 - e) ≤ p (k - 1 - e) := by
        by_cases c : l.length - k + (k - 1 - e) ≤ p (k - 1 - e)
        · exact c
        · exact absurd g (nI_ge (by omega) (by omega))
      rw [show nI (k - 1 - e) + -1 = dn k (e + 1) from by rw [← dn_s he, dn_y he]; rfl]
      refine K () (fun j h1 h2 => ?_)
      by_cases c : j = k - 1 - e
      · rw [c]; omega
      · exact hy j (by omega) h2
    · have g' : p (k - 1 - e) < l.length - k + (k - 1 - e) := by
        by_cases c : l.length - k + (k - 1 - e) ≤ p (k - 1 - e)
        · exact absurd (nI_le c (by omega)) g
        · omega
      refine ⟨vp_in_nI (by omega) (by decide), ?_⟩
      rw [show nI (p (k - 1 - e)) + 1 = nI (p (k - 1 - e) + 1) from nI_add _ 1]
      exact h1 (k - 1 - e) (by omega) g' (fun j h1 h2 => hy j (by omega) h2)
def PP (AC AW : Nat) (o : Int32) (a b : Nat) : Bool := decide (¬ dff AC AW a b < o)
theorem count_sp {N k : Nat} {σ s : St} {l : List (Nat × Nat)} {p A B : Nat → Nat} {a1 o : Int32} {Q : Int32 → St → Prop} {K0 : St → Int32 → Prop} (hN : 20000 ≤ N) (xr : XR σ s) (cl : CL s l) (e6 : sF s 6 0 6 = nI k) (hk : k ≤ l.length) (e9 : sF s 6 0 9 = nI 0) (vs : VS s l k p A B) (hW : rS (fun _ _ => true) l p A B k k ≤ 3432) (h : ∀ s', XR σ s' → sF s' 6 0 9 = nI (rS (fun _ _ => true) l p A B k k) → K0 s' (nI (rS (PP (s1L l) (s2L l) o) l p A B k k))) : fX6_countAsFar_l37 N a1 Q K0 N s (nI 0) o (nI 1) := by
  have hl := cl.1
  generalize hWT : rS (fun _ _ => true) l p A B k k = WT at hW h
  generalize hCT : rS (PP (s1L l) (s2L l) o) l p A B k k = CT0 at h
  have w1 : 1 ≤ WT := by rw [← hWT]; exact rS_1 k
  refine lpU (fun n i (y : St × Int32 × Int32) => fX6_countAsFar_l37 N a1 Q K0 n y.1 y.2.1 o y.2.2) (fun i y => XR σ y.1 ∧ sF y.1 6 0 9 = nI i ∧ ((i < WT ∧ y.2.2 = nI 1 ∧ CL y.1 l ∧ sF y.1 6 0 6 = nI k ∧ ∃ p A B c, VS y.1 l k p A B ∧ i + rS (fun _ _ => true) l p A B k k = WT ∧ c + rS (PP (s1L l) (s2L l) o) l p A B k k = CT0 ∧ y.2.1 = nI c) ∨ (i = WT ∧ y.2.2 = nI 0 ∧ y.2.1 = nI CT0))) WT N ?_ ?_ 0 (s, nI 0, nI 1) (by omega) (by omega) ⟨xr, e9, Or.inl ⟨by omega, rfl, cl, e6, p, A, B, 0, vs, by omega, by omega, rfl⟩⟩
  · rintro n ⟨y, v2, v4⟩ ⟨y1, y2, y3⟩
    rcases y3 with ⟨z, -⟩ | ⟨-, z1, z2⟩
    · omega
    · have z1 : v4 = nI 0 := z1
      have z2 : v2 = nI CT0 := z2
      have q := h y y1 y2
      rw [z1, z2]
      simp (disch := omega) only [li0, li1, li2, li3, li4, li5, li6, li12, li13, li14, li15, li16, li17, li32, li33, li39, li60, li65, li90, li91, li93, li97, li100, li122, li126, li200, li800, li1000, li1400, li2800, li3432, li9999, li10000000, ↓lm1, ↓lm2, ↓lm3, ↓lm4, ↓lm9, le_T, le_F, lt_T, lt_F, eq_F, eq_T, vp_T, mle_F, mle_T, mlt_F, mlt_T, meq_F, meq_F', mne, aR, mR, sR', nI_clamp, br_nT, br_nF, ex_s, true_implies, false_implies, not_true_eq_false, not_false_eq_true, true_and, and_true, forall_eq, implies_true, and_self, reduceIte, reduceCtorEq, Nat.reduceEqDiff, Nat.reduceAdd, Nat.reduceMul, Nat.reduceSub, ite_true, ite_false, if_true, if_false, eq_self, and_false, false_and, fa_s, fa_n, cfF, cfA, cfJ, cfB, cfR, mfF, mfA, mfJ, mfB, mfR, c_foundE, m_meetsE, fX11_isSheet, fX11_in, fX10_sheetAt, fX10_sheetAt_b22, fX10_textAt, fX10_textAt_b22, fX11_isText, fX2_has, fX11_isFeature, nar_byte, byte_i, lg_gt, lg_eq, lg_lt, all_A, sF_F, sF_A, sF_J, sF_B, sF_R, sF_all, sA_F, sA_A, sA_J, sA_B, sA_R, sA_all, sJ_F, sJ_A, sJ_J, sJ_B, sJ_R, sJ_all, sB_F, sB_A, sB_J, sB_B, sB_R, sB_all, sR_F, sR_A, sR_J, sR_B, sR_R, sR_all, fX6_countAsFar_l37]
      exact q
  · rintro n i ⟨y, v2, v4⟩ hi ⟨y1, y2, y3⟩ K
    have y1 : XR σ y := y1
    have y2 : sF y 6 0 9 = nI i := y2
    rcases y3 with ⟨-, z1, cly, e6y, p, A, B, c, vsy, q1, q2, q3⟩ | ⟨z, -⟩
    · have z1 : v4 = nI 1 := z1
      have cly : CL y l := cly
      have e6y : sF y 6 0 6 = nI k := e6y
      have vsy : VS y l k p A B := vsy
      have q3 : v2 = nI c := q3
      obtain ⟨y8, e8⟩ : ∃ y8, y8 = setF y 6 0 9 (nI (i + 1)) := ⟨_, Eq.refl _⟩
      have x8 : XR σ y8 := by rw [e8]; exact y1.trans xr_F
      have a8 : sA y8 = sA y := by rw [e8, sA_F]
      have f8 : ∀ j, j ≠ 9 → sF y8 6 0 j = sF y 6 0 j := fun j hj => by rw [e8, sF_F, if_neg (fun z => hj z.2.2)]
      have e98 : sF y8 6 0 9 = nI (i + 1) := by rw [e8, sF_F, if_pos ⟨Eq.refl _, Eq.refl _, Eq.refl _⟩]
      have cl8 : CL y8 l := by
        obtain ⟨d1, d2, d3, d4, d5⟩ := cly
        exact ⟨d1, by rw [f8 5 (by decide)]; exact d2, by rw [a8]; exact d3, by rw [f8 7 (by decide)]; exact d4, by rw [f8 8 (by decide)]; exact d5⟩
      have vs8 : VS y8 l k p A B := by unfold VS at vsy ⊢; rw [a8]; exact vsy
      have e68 : sF y8 6 0 6 = nI k := by rw [f8 6 (by decide)]; exact e6y
      have nx : ∀ c', c' = c + (if PP (s1L l) (s2L l) o (A k) (B k) = true then 1 else 0) → fX6_takeNext N y8 (fun (r13 : Int32) (σ12 : St) => fX6_countAsFar_l37 N a1 Q K0 n σ12 (nI c') o r13) := by
        intro c' ec
        refine takeNext_sp (by omega) cl8 e68 hk vs8 (fun i0 hi0 hlt hmax => ?_) (fun hall => ?_)
        · obtain ⟨o1, o2, o3⟩ := id vs8
          refine takeOn_sp (a := A i0) (b := B i0) (by omega) x8 cl8 e68 (by omega) (by omega) (by omega) (o2 i0 (by omega)).1 (o2 i0 (by omega)).2 (fun s' x' cl' f' h47 h48 h49 => ?_)
          have vs' := vs_take hk (by omega) (by omega) h47 h48 h49 (fun j hj => o1 j (by omega)) (fun j hj => o2 j (by omega)) (fun j hj => o3 j (by omega))
          have nP := fun P => rS_next (P := P) (p := p) (A := A) (B := B) hk hi0 vs'.2.2 hmax (fun j hj => by simp only [show ¬ i0 ≤ j by omega, if_false]) (fun j hj => by simp only [show ¬ i0 < j by omega, if_false]; exact ⟨trivial, trivial⟩) (fun j h1 h2 => by simp only [h1, if_true])
          have n1 := nP (fun _ _ => true)
          have n2 := nP (PP (s1L l) (s2L l) o)
          have r1 := rS_1 (l := l) (p := fun j => if i0 ≤ j then p i0 + 1 + (j - i0) else p j) (A := fun j => if i0 < j then A i0 + ps1 l (p i0 + 1) (j - i0) else A j) (B := fun j => if i0 < j then B i0 + ps2 l (p i0 + 1) (j - i0) else B j) (k := k) k
          refine K (s', nI c', nI 1) ⟨x', by show sF s' 6 0 9 = _; rw [f']; exact e98, Or.inl ⟨?_, rfl, cl', by show sF s' 6 0 6 = _; rw [f']; exact e68, _, _, _, c', vs', ?_, ?_, rfl⟩⟩
          · rw [if_pos rfl] at n1; omega
          · rw [if_pos rfl] at n1; omega
          · omega
        · have l1 := rS_last (P := fun _ _ => true) (p := p) (A := A) (B := B) (i := 0) hk (fun j _ h2 => hall j h2) k (by omega)
          have l2 := rS_last (P := PP (s1L l) (s2L l) o) (p := p) (A := A) (B := B) (i := 0) hk (fun j _ h2 => hall j h2) k (by omega)
          rw [if_pos rfl] at l1
          refine K (y8, nI c', nI 0) ⟨x8, e98, Or.inr ⟨by omega, rfl, ?_⟩⟩
          show nI c' = nI CT0
          congr 1; omega
      have e98' : setF y 6 0 9 (nI i + nI 1) = y8 := by rw [nI_add]; exact e8.symm
      have dsp := fun (Q : Int32 → St → Prop) h => diff_sp (N := N) (Q := Q) e68 (by omega) cl8.2.2.2.1 cl8.2.2.2.2 (vs8.2.1 k (Nat.le_refl _)).1 (vs8.2.1 k (Nat.le_refl _)).2 h
      have hc9 : ¬ nI 3432 ≤ nI i := nI_ge (by omega) (by decide)
      have n10 : ¬ nI 1 = nI 0 := by decide
      rw [z1, q3]
      simp only [fX6_countAsFar_l37, li0, li1, li3432, y2, hc9, n10]
      refine ⟨fun z => z.elim, fun _ => ⟨fun z => z.elim, fun _ σ8 es8 => ?_⟩⟩
      rw [e98'] at es8
      subst es8
      refine dsp _ ⟨fun g => ?_, fun g => ?_⟩
      · unfold fX6_countAsFar_b73_37
        exact nx c (by rw [if_neg (fun z => (of_decide_eq_true z) g)]; rfl)
      · unfold fX6_countAsFar_b73_37
        rw [nI_add]
        exact nx (c + 1) (by rw [if_pos (show PP (s1L l) (s2L l) o (A k) (B k) = true from decide_eq_true g)])
    · omega
