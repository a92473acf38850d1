/-- how many texts are there -/
def liv (σ : St) (n : Nat) : Nat := ct (fun t => decide (sA σ 70 0 t = nI 0)) n
theorem cgrow_sp {N n m srt : Nat} {σ : St} {Q : Int32 → St → Prop} (hN : 1000 ≤ N) (ct' : CT σ n m) (sr : SR σ srt) (h : ∀ s, CK σ s n m srt (liv σ n - 1) → Q (nI (liv σ n - 1)) s) : fX9_grow N σ Q := by
  have hn := ct'.1
  have hl : liv σ n ≤ 14 := by
    have := ct_le (fun t => decide (sA σ 70 0 t = nI 0)) n
    unfold liv; omega
  unfold fX9_grow
  refine lpU (fun k i (y : St) => fX9_grow_l2 N Q _ k y (nI i)) (fun i s => TR σ s ∧ ∀ g, g < i → GH σ s n m g (ms0 σ n g)) 14 N ?_ ?_ 0 σ (by omega) (by omega) ⟨TR.rfl', fun g hg => absurd hg (by omega)⟩
  · rintro k s ⟨tr, gh⟩
    simp only [fX9_grow_l2]
    refine ⟨fun _ => ?_, fun c => absurd (show (14 : Int32) ≤ nI 14 by decide) c⟩
    unfold fX9_grow_b29
    intro s0 e0
    have ck0 : CK σ s0 n m srt 0 := by
      subst e0
      refine ⟨tr.trans tr_F9, by simp [sF_F, sF_A, sF_J, sF_B, sF_R, sF_all, sA_F, sA_A, sA_J, sA_B, sA_R, sA_all, sJ_F, sJ_A, sJ_J, sJ_B, sJ_R, sJ_all, sB_F, sB_A, sB_J, sB_B, sB_R, sB_all, sR_F, sR_A, sR_J, sR_B, sR_R, sR_all]; rfl, fun i hi => ?_, fun q hq => absurd hq (by omega)⟩
      have q := gh i hi
      show GH σ _ n m i (ms0 σ n i)
      unfold GH GS GR at q ⊢
      rw [sA_F, sFx (by decide)]; exact q
    refine lpU (fun k i (y : St) => fX9_grow_l36 N Q _ k y (nI i)) (fun i s => 1 ≤ i ∧ CK σ s n m srt (min (i - 1) (liv σ n - 1))) 14 N ?_ ?_ 1 s0 (by omega) (by omega) (by rw [show min (1 - 1) (liv σ n - 1) = 0 by omega]; exact ⟨by omega, ck0⟩)
    · rintro k s1 ⟨-, ck⟩
      rw [show min (14 - 1) (liv σ n - 1) = liv σ n - 1 by omega] at ck
      simp only [fX9_grow_l36]
      refine ⟨fun _ => ?_, fun c => absurd (show (14 : Int32) ≤ nI 14 by decide) c⟩
      rw [ck.2.1]
      exact h s1 ck
    · rintro k i s1 hi ⟨hi1, ck⟩ K
      simp only [fX9_grow_l36, fX9_grow_b55_36]
      refine ⟨fun c => absurd c (nI_ge hi (by decide)), fun _ => ?_⟩
      rw [show nI i + 1 = nI (i + 1) from nI_add i 1]
      have kk : min (i - 1) (liv σ n - 1) ≤ ct (lv (ms0 σ n)) n - 1 := by rw [lv_0 hn]; show _ ≤ liv σ n - 1; omega
      obtain ⟨l1, wm⟩ := ms_lv (d := fm σ n m srt) hn (WM_0 (σ := σ) hn) _ kk
      rw [lv_0 hn] at l1
      have l1 : ct (lv (ms (fm σ n m srt) n (ms0 σ n) (min (i - 1) (liv σ n - 1)))) n = liv σ n - min (i - 1) (liv σ n - 1) := l1
      refine cfind_sp hN ct' ck.1 sr ck.2.2.1 ck.2.1 (by omega) wm.1 (fun s2 v2 fi => ?_)
      by_cases c : 2 ≤ ct (lv (ms (fm σ n m srt) n (ms0 σ n) (min (i - 1) (liv σ n - 1)))) n
      · obtain ⟨a, b, g1, g2, g3, g4, g5⟩ := ou_y (d := fm σ n m srt) hn c
        have fi2 := fi.2
        rw [g5] at fi2
        rcases fi2 with ⟨z, -⟩ | ⟨-, ev, y1, y2, y3⟩
        · exact absurd z (ne9 (by omega))
        · have K := fun s3 (q : CK σ s3 n m srt (min (i - 1) (liv σ n - 1) + 1)) => K s3 (by refine ⟨by omega, ?_⟩; rw [show min (i + 1 - 1) (liv σ n - 1) = min (i - 1) (liv σ n - 1) + 1 by omega]; exact q)
          rw [ev]
          refine ⟨fun z => absurd z (by decide), fun _ => ?_⟩
          exact cjoin_sp hN ct' (by omega) ck fi.1 g1 g2 wm g3 g4 g5 y1 y2 y3 K
      · have e := ou_n (d := fm σ n m srt) (show ct (lv (ms (fm σ n m srt) n (ms0 σ n) (min (i - 1) (liv σ n - 1)))) n < 2 by omega)
        have fi2 := fi.2
        rw [e] at fi2
        rcases fi2 with ⟨-, ev⟩ | ⟨z, -⟩
        · rw [ev]
          refine ⟨fun _ => K s2 ⟨by omega, ?_⟩, fun z => absurd rfl z⟩
          rw [show min (i + 1 - 1) (liv σ n - 1) = min (i - 1) (liv σ n - 1) by omega]
          obtain ⟨tr, hj, gh, en⟩ := ck
          refine ⟨tr.trans fi.1.1, by rw [fi.1.2.1]; exact hj, fun q hq => ?_, fun q hq => ?_⟩
          · have w := gh q hq
            unfold GH GS GR at w ⊢
            rw [fi.1.2.1, fi.1.2.2 41 0 q (by omega)]
            refine ⟨w.1, fun z => ?_⟩
            obtain ⟨⟨q1, q2, q3⟩, q4⟩ := w.2 z
            exact ⟨⟨fun f hf => by rw [fi.1.2.2 29 _ f (by omega)]; exact q1 f hf, q2, q3⟩, fun f hf => by rw [fi.1.2.2 23 _ f (by omega)]; exact q4 f hf⟩
          · rw [fi.1.2.2 42 0 q (by omega), fi.1.2.2 43 0 q (by omega), fi.1.2.2 44 0 q (by omega)]
            exact en q hq
        · exact absurd rfl z
  · rintro k i s hi ⟨tr, gh⟩ K
    simp only [fX9_grow_l2]
    refine ⟨fun c => absurd c (nI_ge hi (by decide)), fun _ => ⟨fun c => absurd c (nI_ge hi (by decide)), fun _ => ⟨vp_in_nI hi (by decide), ?_⟩⟩⟩
    rw [nI_clamp (by omega)]
    refine begin_sp hN ct' tr hi (fun s' b g => ?_)
    rw [show nI i + 1 = nI (i + 1) from nI_add i 1]
    refine K s' ⟨tr.trans b.1, fun q hq => ?_⟩
    by_cases e : q = i
    · subst e; exact g
    · exact gh_keep b e (gh q (by omega))
/-- the reference's tree behind k joins: what it changes -/
def RR (s s' : St) : Prop := (∀ K i j, ¬ (K = 11 ∧ j = 29) → sF s' K i j = sF s K i j) ∧ (∀ K, K ≠ 83 → K ≠ 90 → K ≠ 91 → sA s' K = sA s K) ∧ sJ s' = sJ s ∧ sB s' = sB s ∧ sR s' = sR s
theorem RR.rfl' {s : St} : RR s s := ⟨fun _ _ _ _ => rfl, fun _ _ _ _ => rfl, rfl, rfl, rfl⟩
theorem RR.trans {a b c : St} (h1 : RR a b) (h2 : RR b c) : RR a c := ⟨fun K i j e => (h2.1 K i j e).trans (h1.1 K i j e), fun K e1 e2 e3 => (h2.2.1 K e1 e2 e3).trans (h1.2.1 K e1 e2 e3), h2.2.2.1.trans h1.2.2.1, h2.2.2.2.1.trans h1.2.2.2.1, h2.2.2.2.2.trans h1.2.2.2.2⟩
theorem rr_A {s : St} {K i j : Nat} {x : Int32} (h : K = 90 ∨ K = 91) : RR s (setA s K i j x) := ⟨fun _ _ _ _ => rfl, fun K' e1 e2 e3 => sAx (by omega), rfl, rfl, rfl⟩
theorem rr_83 {s : St} {F : Nat → Int32} : RR s (setAll s 83 0 F) := ⟨fun _ _ _ _ => rfl, fun K' e1 e2 e3 => sLx e1, rfl, rfl, rfl⟩
theorem rr_F {s : St} {i : Nat} {x : Int32} : RR s (setF s 11 i 29 x) := ⟨fun K i' j e => by rw [sF_F, if_neg (fun z => e ⟨z.1, z.2.2⟩)], fun _ _ _ _ => rfl, rfl, rfl, rfl⟩
/-- the reference's texts, where its joins change -/
theorem SMx {σ s : St} (h11 : ∀ j, j ≠ 29 → sF s 11 0 j = sF σ 11 0 j) (hA : ∀ K, 67 ≤ K → K ≤ 82 → sA s K = sA σ K) {n m : Nat} (rt : RT σ n m) : RT s n m ∧ (∀ x, rtM s n x = rtM σ n x) ∧ cnt s = cnt σ := by
  have sm1 : SM σ ((fun K i j => if K = 11 then sF σ K i j else sF s K i j, sA s, sJ s, sB s, sR s) : St) := ⟨by funext i j; rfl, hA⟩
  refine ⟨?_, fun x => ?_, ?_⟩
  · have q := RT_c rt sm1
    have e6 : sF s 11 0 6 = sF σ 11 0 6 := h11 6 (by decide)
    have e18 : sF s 11 0 18 = sF σ 11 0 18 := h11 18 (by decide)
    unfold RT at q ⊢
    rw [e6, e18]
    exact q
  · have q := SM_rtM sm1
    exact congrFun (congrFun q n) x
  · exact sm1.f.2.2.2.2.2
