/-- the reference and the texts' own cells untouched -/
def RS (σ σ' : St) : Prop := sF σ' 11 = sF σ 11 ∧ (∀ K, 60 ≤ K → sA σ' K = sA σ K) ∧ sF σ' 10 = sF σ 10 ∧ sB σ' = sB σ
theorem RS.rfl' {σ : St} : RS σ σ := ⟨rfl, fun _ _ => rfl, rfl, rfl⟩
theorem RS.trans {a b c : St} (h1 : RS a b) (h2 : RS b c) : RS a c := ⟨h2.1.trans h1.1, fun K k => (h2.2.1 K k).trans (h1.2.1 K k), h2.2.2.1.trans h1.2.2.1, h2.2.2.2.trans h1.2.2.2⟩
theorem RS.sm {a b : St} (h : RS a b) : SM a b := ⟨h.1, fun K k _ => h.2.1 K (by omega)⟩
theorem rs_all {σ : St} {K i : Nat} {f : Nat → Int32} (h : K < 60) : RS σ (setAll σ K i f) := ⟨rfl, fun K' k => sLx (by omega), rfl, rfl⟩
theorem rs_A {σ : St} {K i j : Nat} {x : Int32} (h : K < 60) : RS σ (setA σ K i j x) := ⟨rfl, fun K' k => sAx (by omega), rfl, rfl⟩
theorem rs_F {σ : St} {K i j : Nat} {x : Int32} (h : K ≠ 11) (h2 : K ≠ 10) : RS σ (setF σ K i j x) := ⟨sFx (Ne.symm h), fun K' k => rfl, sFx (Ne.symm h2), rfl⟩
def KP (σ σ' : St) : Prop := Same σ σ' ∧ RS σ σ'
theorem KP.trans {a b c : St} (h1 : KP a b) (h2 : KP b c) : KP a c := ⟨h1.1.trans h2.1, h1.2.trans h2.2⟩
theorem kp_all {σ : St} {K i : Nat} {f : Nat → Int32} (h : K < 60) (h2 : trA K i = false) : KP σ (setAll σ K i f) := ⟨same_all h2, rs_all h⟩
theorem kp_A {σ : St} {K i j : Nat} {x : Int32} (h : K < 60) (h2 : trA K i = false) : KP σ (setA σ K i j x) := ⟨same_A h2, rs_A h⟩
theorem kp_F {σ : St} {K i j : Nat} {x : Int32} (h : K ≠ 11) (h1 : K ≠ 10) (h2 : trF K i = false) : KP σ (setF σ K i j x) := ⟨same_F h2, rs_F h h1⟩
/-- all that the class holds, of n texts and m features -/
def CT (σ : St) (n m : Nat) : Prop := n ≤ 14 ∧ m ≤ 12 ∧ G1 n m σ ∧ G4 n σ ∧ G5 m σ ∧ G6 n m σ
theorem CT.rt {σ : St} {n m : Nat} (h : CT σ n m) : RT σ n m := RT_of h.1 h.2.1 h.2.2.1 h.2.2.2.1 h.2.2.2.2.1
/-- the arrays and fields that CT reads are kept -/
theorem CT_c {σ σ' : St} {n m : Nat} (h : CT σ n m) (s : Same σ σ') : CT σ' n m := by
  obtain ⟨sf, sa, sj, sr⟩ := s
  have kA : ∀ K, (∀ i, trA K i = true) → sA σ' K = sA σ K := fun K t => funext fun i => funext fun j => sa K i j (t i)
  have kA0 : ∀ K, trA K 0 = true → sA σ' K 0 = sA σ K 0 := fun K t => funext fun j => sa K 0 j t
  have kF : ∀ K, (∀ i, trF K i = true) → sF σ' K = sF σ K := fun K t => funext fun i => funext fun j => sf K i j (t i)
  obtain ⟨hn, hm, g1, g4, g5, g6⟩ := h
  have m10 := kF 10 (fun _ => rfl)
  have m11 := kF 11 (fun _ => rfl)
  have m2 := kF 2 (fun _ => rfl)
  have m8 := kF 8 (fun _ => rfl)
  have m0 := kF 0 (fun _ => rfl)
  refine ⟨hn, hm, G1_c g1 (by rw [m10]) (by rw [m11]) (by rw [m2]) (by rw [m11]) sr (kA _ (fun _ => rfl)), fun t ht => ?_, G5_c g5 m0 (kA _ (fun _ => rfl)) (kA _ (fun _ => rfl)) (kA _ (fun _ => rfl)) (kA _ (fun _ => rfl)) (kA _ (fun _ => rfl)) (kA _ (fun _ => rfl)), ?_⟩
  · have t4 : decide (t < 14) = true := decide_eq_true (by omega)
    refine Tx_c (g4 t ht) (funext fun j => sf 4 t j (by unfold trF; rw [t4]; rfl)) (funext fun j => sf 7 t j (by unfold trF; rw [t4]; rfl)) (by rw [m8]) (funext fun j => sa 25 t j (by unfold trA; rw [t4]; rfl)) (funext fun j => sa 26 t j (by unfold trA; rw [t4]; rfl)) (funext fun j => sa 27 t j (by unfold trA; rw [t4]; rfl)) (fun K h1 h2 => kA0 K ?_)
    rcases (show K = 67 ∨ K = 68 ∨ K = 69 ∨ K = 70 ∨ K = 71 ∨ K = 72 ∨ K = 73 ∨ K = 74 ∨ K = 75 ∨ K = 76 ∨ K = 77 by omega) with rfl | rfl | rfl | rfl | rfl | rfl | rfl | rfl | rfl | rfl | rfl <;> rfl
  · exact G6_c g6 (fun t ht => funext fun j => sa 29 t j (by unfold trA; rw [decide_eq_true (show t < 14 by omega)]; rfl)) (kA _ (fun _ => rfl)) (kA _ (fun _ => rfl)) (kA _ (fun _ => rfl)) (kA _ (fun _ => rfl)) (kA _ (fun _ => rfl)) (kA _ (fun _ => rfl)) (kA _ (fun _ => rfl)) (kA _ (fun _ => rfl)) (kA _ (fun _ => rfl))
/-- is there one -/
def fl (p : Nat → Bool) (n : Nat) : Int32 := if ct p n = 0 then nI 0 else nI 1
/-- the rate of a hand -/
def rtH (σ : St) (n : Nat) (p : Nat → Bool) (f : Nat) : Nat := rvN (sb p (cnt σ f) n) (sb p (wh σ f) n)
/-- the class's hands of the writers below k, the text x left out -/
def Hd (σ s : St) (n m : Nat) (x : Int32) (w : Nat) : Prop := sA s 33 0 w = fl (hp σ (nI w) x) n ∧ ∀ f, f < m → sA s 23 (3 + w) f = nI (rtH σ n (hp σ (nI w) x) f)
/-- while a hand's texts are summed -/
def HI (σ s : St) (m : Nat) (x : Int32) (w t : Nat) : Prop := (∀ f, f < m → sA s 29 14 f = nI (sb (hp σ (nI w) x) (cnt σ f) t)) ∧ sF s 7 14 1 = nI (sb (hp σ (nI w) x) (nwM σ) t) ∧ sF s 7 14 2 = nI (sb (hp σ (nI w) x) (mkM σ) t) ∧ sA s 33 0 w = fl (hp σ (nI w) x) t
theorem sb_n {p : Nat → Bool} {g : Nat → Nat} {n : Nat} (h : p n = false) : sb p g (n + 1) = sb p g n := by rw [sb_s, h]; rfl
theorem sb_y {p : Nat → Bool} {g : Nat → Nat} {n : Nat} (h : p n = true) : sb p g (n + 1) = sb p g n + g n := by rw [sb_s, h]; rfl
theorem fl_n {p : Nat → Bool} {n : Nat} (h : p n = false) : fl p (n + 1) = fl p n := by unfold fl; rw [ct_s, h]; rfl
theorem fl_y {p : Nat → Bool} {n : Nat} (h : p n = true) : fl p (n + 1) = nI 1 := by unfold fl; rw [ct_s, h]; rw [if_neg (by simp)]
theorem HI_n {σ s : St} {m w t : Nat} {x : Int32} (h : HI σ s m x w t) (e : hp σ (nI w) x t = false) : HI σ s m x w (t + 1) := by
  unfold HI at h ⊢
  rw [fl_n e, sb_n e, sb_n e]
  exact ⟨fun f hf => by rw [sb_n e]; exact h.1 f hf, h.2⟩
