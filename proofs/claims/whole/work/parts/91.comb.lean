-- ===== ways to take k of a list, with a mark of the sums =====
def cS (P : Nat → Nat → Bool) : List (Nat × Nat) → Nat → Nat → Nat → Nat
  | [], k, a, b => if k = 0 ∧ P a b = true then 1 else 0
  | x :: l, k, a, b => (if k = 0 then 0 else cS P l (k - 1) (a + x.1) (b + x.2)) + cS P l k a b
theorem cS_n (P : Nat → Nat → Bool) (k a b : Nat) : cS P [] k a b = if k = 0 ∧ P a b = true then 1 else 0 := rfl
theorem cS_c (P : Nat → Nat → Bool) (x : Nat × Nat) (l : List (Nat × Nat)) (k a b : Nat) : cS P (x :: l) k a b = (if k = 0 then 0 else cS P l (k - 1) (a + x.1) (b + x.2)) + cS P l k a b := rfl
theorem cS_k0 (P : Nat → Nat → Bool) (a b : Nat) : ∀ l, cS P l 0 a b = if P a b = true then 1 else 0 := by
  intro l
  induction l with
  | nil => rw [cS_n]; simp
  | cons x l ih => rw [cS_c, if_pos rfl, ih, Nat.zero_add]
theorem cS_0 (P : Nat → Nat → Bool) : ∀ (l : List (Nat × Nat)) (k a b : Nat), l.length < k → cS P l k a b = 0 := by
  intro l
  induction l with
  | nil => intro k a b h; rw [cS_n, if_neg (fun z => by simp at h; omega)]
  | cons x l ih =>
    intro k a b h
    rw [List.length_cons] at h
    rw [cS_c, ih (k - 1) _ _ (by omega), ih k _ _ (by omega)]; split <;> rfl
theorem cS_perm (P : Nat → Nat → Bool) {l l' : List (Nat × Nat)} (h : l.Perm l') : ∀ k a b, cS P l k a b = cS P l' k a b := by
  induction h with
  | nil => intro k a b; rfl
  | cons x _ ih => intro k a b; rw [cS_c, cS_c, ih, ih]
  | swap x y l =>
    intro k a b
    rw [cS_c, cS_c, cS_c, cS_c, cS_c, cS_c]
    have e1 : a + y.1 + x.1 = a + x.1 + y.1 := by omega
    have e2 : b + y.2 + x.2 = b + x.2 + y.2 := by omega
    rw [e1, e2]
    by_cases c : k = 0
    · rw [if_pos c, if_pos c]; rw [if_pos c, if_pos c]
    · rw [if_neg c, if_neg c, if_neg c, if_neg c]; omega
  | trans _ _ ih1 ih2 => intro k a b; rw [ih1, ih2]
def chN : Nat → Nat → Nat
  | 0, k => if k = 0 then 1 else 0
  | n + 1, k => (if k = 0 then 0 else chN n (k - 1)) + chN n k
theorem cS_t : ∀ (l : List (Nat × Nat)) (k a b : Nat), cS (fun _ _ => true) l k a b = chN l.length k := by
  intro l
  induction l with
  | nil => intro k a b; rw [cS_n]; simp [chN]
  | cons x l ih => intro k a b; rw [cS_c, ih, ih]; rfl
theorem chN_le : ∀ n, n < 15 → ∀ k, k < 15 → chN n k ≤ 3432 := by decide +kernel
theorem drop_e {l : List (Nat × Nat)} {q : Nat} {y : Nat × Nat} (h : l[q]? = some y) : l.drop q = y :: l.drop (q + 1) := by
  obtain ⟨hq, e⟩ := List.getElem?_eq_some_iff.mp h
  rw [List.drop_eq_getElem_cons hq, e]
/-- the ways from a way on, by the levels from the last one -/
def rS (P : Nat → Nat → Bool) (l : List (Nat × Nat)) (p A B : Nat → Nat) (k : Nat) : Nat → Nat
  | 0 => if P (A k) (B k) = true then 1 else 0
  | d + 1 => rS P l p A B k d + cS P (l.drop (p (k - (d + 1)) + 1)) (d + 1) (A (k - (d + 1))) (B (k - (d + 1)))
theorem rS_s (P : Nat → Nat → Bool) (l : List (Nat × Nat)) (p A B : Nat → Nat) (k d : Nat) : rS P l p A B k (d + 1) = rS P l p A B k d + cS P (l.drop (p (k - (d + 1)) + 1)) (d + 1) (A (k - (d + 1))) (B (k - (d + 1))) := rfl
/-- sums along a way -/
def PS (l : List (Nat × Nat)) (p A B : Nat → Nat) (k : Nat) : Prop := ∀ j, j < k → ∃ y, l[p j]? = some y ∧ A (j + 1) = A j + y.1 ∧ B (j + 1) = B j + y.2
theorem rS_cons {P : Nat → Nat → Bool} {l : List (Nat × Nat)} {p A B : Nat → Nat} {k i s : Nat} (ps : PS l p A B k) (hp : ∀ j, i ≤ j → j < k → p j = s + (j - i)) : ∀ d, d + i ≤ k → rS P l p A B k d = cS P (l.drop (s + (k - d - i))) d (A (k - d)) (B (k - d)) := by
  intro d
  induction d with
  | zero => intro _; rw [cS_k0]; rfl
  | succ d ih =>
    intro hd
    rw [rS_s, ih (by omega)]
    have ej : p (k - (d + 1)) = s + (k - (d + 1) - i) := hp _ (by omega) (by omega)
    obtain ⟨y, h1, h2, h3⟩ := ps (k - (d + 1)) (by omega)
    rw [ej] at h1
    rw [ej, drop_e h1, cS_c, if_neg (by omega), show d + 1 - 1 = d by omega, ← h2, ← h3, show k - (d + 1) + 1 = k - d by omega, show s + (k - (d + 1) - i) + 1 = s + (k - d - i) by omega]
theorem rS_last {P : Nat → Nat → Bool} {l : List (Nat × Nat)} {p A B : Nat → Nat} {k i : Nat} (hk : k ≤ l.length) (hp : ∀ j, i ≤ j → j < k → p j = l.length - k + j) : ∀ d, d + i ≤ k → rS P l p A B k d = if P (A k) (B k) = true then 1 else 0 := by
  intro d
  induction d with
  | zero => intro _; rfl
  | succ d ih =>
    intro hd
    rw [rS_s, ih (by omega), hp _ (by omega) (by omega), cS_0, Nat.add_zero]
    rw [List.length_drop]; omega
theorem rS_1 {l : List (Nat × Nat)} {p A B : Nat → Nat} {k : Nat} : ∀ d, 1 ≤ rS (fun _ _ => true) l p A B k d := by
  intro d
  induction d with
  | zero => exact Nat.le_refl _
  | succ d ih => rw [rS_s]; omega
/-- the next way -/
theorem rS_next {P : Nat → Nat → Bool} {l : List (Nat × Nat)} {p A B p' A' B' : Nat → Nat} {k i : Nat} (hk : k ≤ l.length) (hi : i < k) (ps' : PS l p' A' B' k) (hmax : ∀ j, i < j → j < k → p j = l.length - k + j) (hp : ∀ j, j < i → p' j = p j) (hA : ∀ j, j ≤ i → A' j = A j ∧ B' j = B j) (hc : ∀ j, i ≤ j → j < k → p' j = p i + 1 + (j - i)) : rS P l p A B k k = (if P (A k) (B k) = true then 1 else 0) + rS P l p' A' B' k k := by
  have base : rS P l p A B k (k - i) = (if P (A k) (B k) = true then 1 else 0) + rS P l p' A' B' k (k - i) := by
    rw [rS_cons ps' hc (k - i) (by omega), show k - (k - i) = i by omega, show p i + 1 + (i - i) = p i + 1 by omega, (hA i (Nat.le_refl _)).1, (hA i (Nat.le_refl _)).2]
    have e : k - i = (k - i - 1) + 1 := by omega
    rw [e, rS_s, rS_last (i := i + 1) hk (fun j h1 h2 => hmax j (by omega) h2) _ (by omega), show k - (k - i - 1 + 1) = i by omega]
  have up : ∀ e, e ≤ i → rS P l p A B k (k - i + e) = (if P (A k) (B k) = true then 1 else 0) + rS P l p' A' B' k (k - i + e) := by
    intro e
    induction e with
    | zero => exact fun _ => base
    | succ e ih =>
      intro he
      rw [show k - i + (e + 1) = (k - i + e) + 1 by omega, rS_s, rS_s, ih (by omega)]
      have ej : k - (k - i + e + 1) = i - (e + 1) := by omega
      rw [ej, hp _ (by omega), (hA _ (by omega)).1, (hA _ (by omega)).2]
      omega
  have q := up i (Nat.le_refl _)
  rw [show k - i + i = k by omega] at q
  exact q
-- ===== masks =====
theorem bt_nI {s t : Nat} (ht : t < 32) : bt (nI s) t = s.testBit t := by
  unfold bt
  show (BitVec.ofNat 32 s).getLsbD t = _
  rw [BitVec.getLsbD_ofNat]
  simp [ht]
def LM (al : Nat → Bool) (g : Nat → Nat × Nat) : Nat → List (Nat × Nat)
  | 0 => []
  | n + 1 => if al n = true then g n :: LM al g n else LM al g n
theorem ct_add (p : Nat → Bool) (m : Nat) : ∀ n, ct p (m + n) = ct p m + ct (fun s => p (m + s)) n := by
  intro n
  induction n with
  | zero => rfl
  | succ n ih => rw [show m + (n + 1) = m + n + 1 by omega, ct_s, ct_s, ih]; omega
/-- a mask that is asked for: of the set, of k texts, with the mark -/
def sel (al : Nat → Bool) (P : Nat → Nat → Bool) (g : Nat → Nat × Nat) (n k a b s : Nat) : Bool := decide (∀ t, t < n → s.testBit t = true → al t = true) && (decide (ct s.testBit n = k) && P (a + sb s.testBit (fun t => (g t).1) n) (b + sb s.testBit (fun t => (g t).2) n))
theorem sel_ct {al : Nat → Bool} {P : Nat → Nat → Bool} {g : Nat → Nat × Nat} : ∀ n k a b, ct (sel al P g n k a b) (2 ^ n) = cS P (LM al g n) k a b := by
  intro n
  induction n with
  | zero =>
    intro k a b
    show ct _ 1 = cS P [] k a b
    rw [ct_s, cS_n]
    show 0 + _ = _
    rw [Nat.zero_add]
    have e : sel al P g 0 k a b 0 = true ↔ (k = 0 ∧ P a b = true) := by
      unfold sel
      simp only [Bool.and_eq_true, decide_eq_true_eq]
      constructor
      · intro ⟨_, h1, h2⟩; exact ⟨h1.symm, h2⟩
      · intro ⟨h1, h2⟩; exact ⟨fun t ht => absurd ht (by omega), h1.symm, h2⟩
    by_cases c : k = 0 ∧ P a b = true
    · rw [if_pos c, if_pos (e.mpr c)]
    · rw [if_neg c, if_neg (fun z => c (e.mp z))]
  | succ n ih =>
    intro k a b
    rw [show 2 ^ (n + 1) = 2 ^ n + 2 ^ n by omega, ct_add]
    have h1 : ct (sel al P g (n + 1) k a b) (2 ^ n) = cS P (LM al g n) k a b := by
      rw [← ih k a b]
      refine ct_c _ (fun s hs => ?_)
      have tn : s.testBit n = false := Nat.testBit_lt_two_pow hs
      unfold sel
      rw [ct_s, sb_s, sb_s, tn]
      have e : decide (∀ t, t < n + 1 → s.testBit t = true → al t = true) = decide (∀ t, t < n → s.testBit t = true → al t = true) := by
        refine decide_eq_decide.mpr ⟨fun h t ht => h t (by omega), fun h t ht h2 => ?_⟩
        by_cases c : t = n
        · subst c; rw [tn] at h2; cases h2
        · exact h t (by omega) h2
      rw [e]; simp
    have tb : ∀ s, s < 2 ^ n → (2 ^ n + s).testBit n = true ∧ ∀ t, t < n → (2 ^ n + s).testBit t = s.testBit t := by
      intro s hs
      refine ⟨?_, fun t ht => Nat.testBit_two_pow_add_gt ht s⟩
      rw [Nat.testBit_two_pow_add_eq, Nat.testBit_lt_two_pow hs]; rfl
    rw [h1]
    by_cases ca : al n = true
    · have e : LM al g (n + 1) = g n :: LM al g n := if_pos ca
      rw [e, cS_c]
      by_cases ck : k = 0
      · rw [if_pos ck]
        have z : ct (fun s => sel al P g (n + 1) k a b (2 ^ n + s)) (2 ^ n) = 0 := by
          rw [ct_0]
          intro s hs
          obtain ⟨t1, t2⟩ := tb s hs
          unfold sel
          rw [ct_s, t1, decide_eq_false (show ¬ ct (2 ^ n + s).testBit n + (if true = true then 1 else 0) = k by simp; omega)]; simp
        rw [z]; omega
      · rw [if_neg ck, ← ih (k - 1) (a + (g n).1) (b + (g n).2), Nat.add_comm]
        congr 1
        refine ct_c _ (fun s hs => ?_)
        obtain ⟨t1, t2⟩ := tb s hs
        unfold sel
        rw [ct_s, sb_s, sb_s, t1, ct_c n t2, sb_c (q := s.testBit) (k := fun t => (g t).1) t2 (fun _ _ => rfl), sb_c (q := s.testBit) (k := fun t => (g t).2) t2 (fun _ _ => rfl)]
        have e1 : decide (∀ t, t < n + 1 → (2 ^ n + s).testBit t = true → al t = true) = decide (∀ t, t < n → s.testBit t = true → al t = true) := by
          refine decide_eq_decide.mpr ⟨fun h t ht h2 => h t (by omega) (by rw [t2 t ht]; exact h2), fun h t ht h2 => ?_⟩
          by_cases c : t = n
          · subst c; exact ca
          · exact h t (by omega) (by rw [← t2 t (by omega)]; exact h2)
        have e2 : decide (ct s.testBit n + (if true = true then 1 else 0) = k) = decide (ct s.testBit n = k - 1) := by
          refine decide_eq_decide.mpr ?_
          simp; omega
        rw [e1, e2]
        simp only [if_true]
        rw [show a + (sb s.testBit (fun t => (g t).1) n + (g n).1) = a + (g n).1 + sb s.testBit (fun t => (g t).1) n by omega, show b + (sb s.testBit (fun t => (g t).2) n + (g n).2) = b + (g n).2 + sb s.testBit (fun t => (g t).2) n by omega]
    · have e : LM al g (n + 1) = LM al g n := if_neg ca
      rw [e]
      have z : ct (fun s => sel al P g (n + 1) k a b (2 ^ n + s)) (2 ^ n) = 0 := by
        rw [ct_0]
        intro s hs
        obtain ⟨t1, t2⟩ := tb s hs
        unfold sel
        rw [decide_eq_false (fun h => ca (h n (by omega) t1))]; rfl
      rw [z]; rfl
/-- the texts of one hand in their order -/
def LO (al : Nat → Bool) (g : Nat → Nat × Nat) : Nat → List (Nat × Nat)
  | 0 => []
  | n + 1 => if al n = true then LO al g n ++ [g n] else LO al g n
theorem LO_len (al : Nat → Bool) (g : Nat → Nat × Nat) : ∀ n, (LO al g n).length = ct al n := by
  intro n
  induction n with
  | zero => rfl
  | succ n ih =>
    rw [ct_s]
    unfold LO
    split
    · rw [List.length_append, ih]; rfl
    · rw [ih]; rfl
theorem LM_perm {al ala alb : Nat → Bool} {g : Nat → Nat × Nat} : ∀ n, (∀ t, t < n → al t = (ala t || alb t)) → (∀ t, t < n → ¬ (ala t = true ∧ alb t = true)) → (LM al g n).Perm (LO ala g n ++ LO alb g n) := by
  intro n
  induction n with
  | zero => intro _ _; exact List.Perm.refl _
  | succ n ih =>
    intro h1 h2
    have ih := ih (fun t ht => h1 t (by omega)) (fun t ht => h2 t (by omega))
    have e := h1 n (by omega)
    have d := h2 n (by omega)
    unfold LM LO
    cases ca : ala n <;> cases cb : alb n
    · rw [ca, cb] at e
      rw [if_neg (by rw [e]; decide), if_neg (by decide), if_neg (by decide)]; exact ih
    · rw [ca, cb] at e
      rw [if_pos (by rw [e]; rfl), if_neg (by decide), if_pos rfl]
      have q : (g n :: LM al g n).Perm (g n :: (LO ala g n ++ LO alb g n)) := List.Perm.cons _ ih
      refine q.trans ?_
      rw [← List.append_assoc]
      exact (List.perm_append_singleton _ _).symm
    · rw [ca, cb] at e
      rw [if_pos (by rw [e]; rfl), if_pos rfl, if_neg (by decide)]
      have q : (g n :: LM al g n).Perm (g n :: (LO ala g n ++ LO alb g n)) := List.Perm.cons _ ih
      refine q.trans ?_
      rw [List.append_assoc]
      exact (List.perm_middle (l₁ := LO ala g n) (l₂ := LO alb g n) (a := g n)).symm
    · exact absurd ⟨ca, cb⟩ d
