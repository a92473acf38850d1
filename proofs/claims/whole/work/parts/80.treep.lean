-- ===== the tree, as masks =====
/-- the nearest pair (a, b'), b' below b, or what was ahead -/
def inS (m : Nat → Int32) (d : Int32 → Int32 → Int32) (a : Nat) (x0 : Int32 × Int32 × Int32) : Nat → Int32 × Int32 × Int32
  | 0 => x0
  | b + 1 => if a < b ∧ m a ≠ nI 0 ∧ m b ≠ nI 0 ∧ ((inS m d a x0 b).1 = mI 9 ∨ d (m a) (m b) < (inS m d a x0 b).2.2) then (nI a, nI b, d (m a) (m b)) else inS m d a x0 b
def ouS (m : Nat → Int32) (d : Int32 → Int32 → Int32) (n : Nat) : Nat → Int32 × Int32 × Int32
  | 0 => (mI 9, mI 9, nI 0)
  | a + 1 => inS m d a (ouS m d n a) n
theorem inS_s (m : Nat → Int32) (d : Int32 → Int32 → Int32) (a b : Nat) (x0 : Int32 × Int32 × Int32) : inS m d a x0 (b + 1) = if a < b ∧ m a ≠ nI 0 ∧ m b ≠ nI 0 ∧ ((inS m d a x0 b).1 = mI 9 ∨ d (m a) (m b) < (inS m d a x0 b).2.2) then (nI a, nI b, d (m a) (m b)) else inS m d a x0 b := rfl
theorem inS_0 {m : Nat → Int32} {d : Int32 → Int32 → Int32} {a : Nat} {x0 : Int32 × Int32 × Int32} (h : m a = nI 0) : ∀ b, inS m d a x0 b = x0 := by
  intro b
  induction b with
  | zero => rfl
  | succ b ih => rw [inS_s, if_neg (fun z => z.2.1 h), ih]
theorem inS_a {m : Nat → Int32} {d : Int32 → Int32 → Int32} {a : Nat} {x0 : Int32 × Int32 × Int32} : ∀ b, b ≤ a + 1 → inS m d a x0 b = x0 := by
  intro b
  induction b with
  | zero => exact fun _ => rfl
  | succ b ih => intro h; rw [inS_s, if_neg (fun z => by omega), ih (by omega)]
/-- a pair was found, or none -/
def PF (m : Nat → Int32) (d : Int32 → Int32 → Int32) (n : Nat) (x : Int32 × Int32 × Int32) : Prop := x = (mI 9, mI 9, nI 0) ∨ ∃ a b, a < b ∧ b < n ∧ m a ≠ nI 0 ∧ m b ≠ nI 0 ∧ x = (nI a, nI b, d (m a) (m b))
theorem PF_in {m : Nat → Int32} {d : Int32 → Int32 → Int32} {n a : Nat} {x0 : Int32 × Int32 × Int32} (h : PF m d n x0) : ∀ b, b ≤ n → PF m d n (inS m d a x0 b) := by
  intro b
  induction b with
  | zero => exact fun _ => h
  | succ b ih =>
    intro hb
    rw [inS_s]
    split
    · rename_i c
      exact Or.inr ⟨a, b, c.1, by omega, c.2.1, c.2.2.1, rfl⟩
    · exact ih (by omega)
theorem PF_ou {m : Nat → Int32} {d : Int32 → Int32 → Int32} {n : Nat} : ∀ a, PF m d n (ouS m d n a) := by
  intro a
  induction a with
  | zero => exact Or.inl rfl
  | succ a ih => exact PF_in ih n (Nat.le_refl _)
theorem PF_1 {m : Nat → Int32} {d : Int32 → Int32 → Int32} {n : Nat} {x : Int32 × Int32 × Int32} (hn : n ≤ 14) (h : PF m d n x) : x.1 = mI 9 ∨ ∃ a, a < 14 ∧ x.1 = nI a := by
  rcases h with e | ⟨a, b, h1, h2, h3, h4, e⟩
  · left; rw [e]
  · right; exact ⟨a, by omega, by rw [e]⟩
theorem ne9 {a : Nat} (h : a < 2 ^ 31) : ¬ nI a = mI 9 := by rw [meq_F' (by decide) (by decide) h]; exact id
theorem inS_9 {m : Nat → Int32} {d : Int32 → Int32 → Int32} {a : Nat} {x0 : Int32 × Int32 × Int32} (ha : a < 14) : ∀ b, (inS m d a x0 b).1 = mI 9 → x0.1 = mI 9 ∧ ∀ b', b' < b → a < b' → m a = nI 0 ∨ m b' = nI 0 := by
  intro b
  induction b with
  | zero => exact fun h => ⟨h, fun b' hb => absurd hb (by omega)⟩
  | succ b ih =>
    rw [inS_s]
    split
    · intro h; exact absurd h (ne9 (by omega))
    · rename_i c
      intro h
      obtain ⟨h1, h2⟩ := ih h
      refine ⟨h1, fun b' hb hab => ?_⟩
      by_cases e : b' = b
      · subst e
        by_cases c1 : m a = nI 0
        · exact Or.inl c1
        · by_cases c2 : m b' = nI 0
          · exact Or.inr c2
          · exact absurd ⟨hab, c1, c2, Or.inl h⟩ c
      · exact h2 b' (by omega) hab
theorem ouS_9 {m : Nat → Int32} {d : Int32 → Int32 → Int32} {n : Nat} (hn : n ≤ 14) : ∀ k, k ≤ n → (ouS m d n k).1 = mI 9 → ∀ a b, a < k → a < b → b < n → m a = nI 0 ∨ m b = nI 0 := by
  intro k
  induction k with
  | zero => intro _ _ a b ha; omega
  | succ k ih =>
    intro hk h a b ha hab hb
    obtain ⟨h1, h2⟩ := inS_9 (by omega) n h
    by_cases e : a = k
    · subst e; exact h2 b hb hab
    · exact ih (by omega) h1 a b (by omega) hab hb
/-- two groups joined -/
def jn (m : Nat → Int32) (a b : Nat) : Nat → Int32 := fun i => if i = b then nI 0 else if i = a then m a ||| m b else m i
def ms (d : Int32 → Int32 → Int32) (n : Nat) (m0 : Nat → Int32) : Nat → Nat → Int32
  | 0 => m0
  | k + 1 => jn (ms d n m0 k) (ouS (ms d n m0 k) d n n).1.toNatClampNeg (ouS (ms d n m0 k) d n n).2.1.toNatClampNeg
/-- groups apart from one another -/
def WM (m : Nat → Int32) (n : Nat) : Prop := (∀ i, n ≤ i → m i = nI 0) ∧ ∀ i j, i ≠ j → ∀ t, t < 32 → ¬ (bt (m i) t = true ∧ bt (m j) t = true)
theorem or_0 {x y : Int32} (h : x ≠ nI 0) : x ||| y ≠ nI 0 := by
  intro e
  refine h (bt_eq0.mpr (fun s hs => ?_))
  have q := bt_eq0.mp e s hs
  rw [bt_or] at q
  cases c : bt x s
  · rfl
  · rw [c] at q; simp at q
theorem WM_jn {m : Nat → Int32} {n a b : Nat} (h : WM m n) (hab : a ≠ b) (ha : a < n) (hb : b < n) : WM (jn m a b) n := by
  refine ⟨fun i hi => ?_, fun i j hij t ht => ?_⟩
  · unfold jn; rw [if_neg (by omega), if_neg (by omega)]; exact h.1 i hi
  · unfold jn
    have z : bt (nI 0) t = false := bt_0 t
    by_cases i1 : i = b
    · rw [if_pos i1, z]; simp
    · by_cases j1 : j = b
      · rw [if_pos j1, z]; simp
      · rw [if_neg i1, if_neg j1]
        by_cases i2 : i = a
        · rw [if_pos i2, if_neg (by omega), bt_or]
          have q1 := h.2 a j (by omega) t ht
          have q2 := h.2 b j (by omega) t ht
          intro ⟨g1, g2⟩
          simp only [Bool.or_eq_true] at g1
          rcases g1 with g1 | g1
          · exact q1 ⟨g1, g2⟩
          · exact q2 ⟨g1, g2⟩
        · by_cases j2 : j = a
          · rw [if_neg i2, if_pos j2, bt_or]
            have q1 := h.2 a i (by omega) t ht
            have q2 := h.2 b i (by omega) t ht
            intro ⟨g1, g2⟩
            simp only [Bool.or_eq_true] at g2
            rcases g2 with g2 | g2
            · exact q1 ⟨g2, g1⟩
            · exact q2 ⟨g2, g1⟩
          · rw [if_neg i2, if_neg j2]; exact h.2 i j hij t ht
def lv (m : Nat → Int32) (i : Nat) : Bool := decide (m i ≠ nI 0)
theorem ct_1 {p q : Nat → Bool} {n b : Nat} (hb : b < n) (h1 : p b = true) (h2 : q b = false) (h3 : ∀ i, i ≠ b → q i = p i) : ct q n + 1 = ct p n := by
  induction n with
  | zero => omega
  | succ n ih =>
    rw [ct_s, ct_s]
    by_cases e : b = n
    · subst e
      rw [h1, h2, ct_c b (fun i hi => h3 i (by omega))]; simp
    · have := ih (by omega)
      rw [h3 n (by omega)]; omega
theorem lv_jn {m : Nat → Int32} {n a b : Nat} (hab : a ≠ b) (hb : b < n) (ma : m a ≠ nI 0) (mb : m b ≠ nI 0) : ct (lv (jn m a b)) n + 1 = ct (lv m) n := by
  refine ct_1 hb (decide_eq_true mb) ?_ (fun i hi => ?_)
  · unfold lv jn; rw [if_pos rfl]; simp
  · unfold lv jn
    rw [if_neg hi]
    by_cases e : i = a
    · subst e; rw [if_pos rfl, decide_eq_true (or_0 ma), decide_eq_true ma]
    · rw [if_neg e]
theorem ct_2 {p : Nat → Bool} {n : Nat} (h : 2 ≤ ct p n) : ∃ a b, a < b ∧ b < n ∧ p a = true ∧ p b = true := by
  induction n with
  | zero => rw [show ct p 0 = 0 from rfl] at h; omega
  | succ n ih =>
    rw [ct_s] at h
    by_cases c : 2 ≤ ct p n
    · obtain ⟨a, b, h1, h2, h3, h4⟩ := ih c; exact ⟨a, b, h1, by omega, h3, h4⟩
    · by_cases e : p n = true
      · have h1 : ct p n ≠ 0 := by rw [if_pos e] at h; omega
        have : ∃ a, a < n ∧ p a = true := by
          refine Classical.byContradiction (fun z => h1 (ct_0.mpr (fun i hi => ?_)))
          cases q : p i
          · rfl
          · exact absurd ⟨i, hi, q⟩ z
        obtain ⟨a, ha, pa⟩ := this
        exact ⟨a, n, ha, by omega, pa, e⟩
      · rw [if_neg e] at h; omega
/-- while two are left, a pair is found -/
theorem ou_y {m : Nat → Int32} {d : Int32 → Int32 → Int32} {n : Nat} (hn : n ≤ 14) (h : 2 ≤ ct (lv m) n) : ∃ a b, a < b ∧ b < n ∧ m a ≠ nI 0 ∧ m b ≠ nI 0 ∧ ouS m d n n = (nI a, nI b, d (m a) (m b)) := by
  obtain ⟨a, b, h1, h2, h3, h4⟩ := ct_2 h
  rcases PF_ou (m := m) (d := d) (n := n) n with e | g
  · exfalso
    rcases ouS_9 hn n (Nat.le_refl _) (by rw [e]) a b (by omega) h1 h2 with q | q
    · exact (of_decide_eq_true h3) q
    · exact (of_decide_eq_true h4) q
  · exact g
theorem ou_n {m : Nat → Int32} {d : Int32 → Int32 → Int32} {n : Nat} (h : ct (lv m) n < 2) : ouS m d n n = (mI 9, mI 9, nI 0) := by
  rcases PF_ou (m := m) (d := d) (n := n) n with e | ⟨a, b, h1, h2, h3, h4, e⟩
  · exact e
  · exfalso
    have g : ∀ k, (a < k → 1 ≤ ct (lv m) k) ∧ (b < k → 2 ≤ ct (lv m) k) := by
      intro k
      induction k with
      | zero => exact ⟨fun z => absurd z (by omega), fun z => absurd z (by omega)⟩
      | succ k ih =>
        have pa : lv m a = true := decide_eq_true h3
        have pb : lv m b = true := decide_eq_true h4
        refine ⟨fun z => ?_, fun z => ?_⟩
        · rw [ct_s]
          by_cases e : a = k
          · subst e; rw [pa]; simp
          · have := ih.1 (by omega); omega
        · rw [ct_s]
          by_cases e : b = k
          · subst e; rw [pb]
            have := ih.1 (by omega); simp; omega
          · have := ih.2 (by omega); omega
    have := (g n).2 h2
    omega
/-- how many are left after k joins -/
theorem ms_lv {d : Int32 → Int32 → Int32} {n : Nat} {m0 : Nat → Int32} (hn : n ≤ 14) (h0 : WM m0 n) : ∀ k, k ≤ ct (lv m0) n - 1 → ct (lv (ms d n m0 k)) n = ct (lv m0) n - k ∧ WM (ms d n m0 k) n := by
  intro k
  induction k with
  | zero => exact fun _ => ⟨rfl, h0⟩
  | succ k ih =>
    intro hk
    obtain ⟨h1, h2⟩ := ih (by omega)
    obtain ⟨a, b, g1, g2, g3, g4, g5⟩ := ou_y (d := d) hn (show 2 ≤ ct (lv (ms d n m0 k)) n by omega)
    have e : ms d n m0 (k + 1) = jn (ms d n m0 k) a b := by
      show jn _ _ _ = _
      rw [g5]
      show jn _ (nI a).toNatClampNeg (nI b).toNatClampNeg = _
      rw [nI_clamp (by omega), nI_clamp (by omega)]
    rw [e]
    have q := lv_jn (n := n) (show a ≠ b by omega) g2 g3 g4
    exact ⟨by omega, WM_jn h2 (by omega) (by omega) g2⟩
theorem ms_s {d : Int32 → Int32 → Int32} {n k a b : Nat} {m0 : Nat → Int32} {v : Int32} (ha : a < 14) (hb : b < 14) (h : ouS (ms d n m0 k) d n n = (nI a, nI b, v)) : ms d n m0 (k + 1) = jn (ms d n m0 k) a b := by
  show jn _ _ _ = _
  rw [h]
  show jn _ (nI a).toNatClampNeg (nI b).toNatClampNeg = _
  rw [nI_clamp (by omega), nI_clamp (by omega)]
theorem sb_or {x y : Int32} {g : Nat → Nat} {n : Nat} (hn : n ≤ 32) (h : ∀ t, t < 32 → ¬ (bt x t = true ∧ bt y t = true)) : sb (bt (x ||| y)) g n = sb (bt x) g n + sb (bt y) g n := by
  induction n with
  | zero => rfl
  | succ n ih =>
    rw [sb_s, sb_s, sb_s, ih (by omega), bt_or]
    have q := h n (by omega)
    cases c1 : bt x n <;> cases c2 : bt y n
    · simp
    · simp; omega
    · simp; omega
    · exact absurd ⟨c1, c2⟩ q
