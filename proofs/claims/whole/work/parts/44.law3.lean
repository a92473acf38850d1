def L00 : List (Nat × Nat) := [(10, 0), (20, 0), (21, 0), (2, 0), (30, 0), (31, 0), (1, 0), (32, 0), (23, 3), (23, 4), (23, 5), (23, 6), (23, 7), (23, 8), (33, 0), (7, 14), (29, 14), (3, 0), (34, 0), (35, 0), (36, 0), (37, 0), (38, 0), (23, 2), (7, 15), (29, 15), (9, 0), (39, 0), (40, 0), (23, 9), (23, 10), (23, 11), (23, 12), (23, 13), (23, 14), (23, 15), (23, 16), (23, 17), (23, 18), (23, 19), (23, 20), (23, 21), (23, 22), (41, 0), (42, 0), (43, 0), (44, 0), (7, 16), (29, 16), (7, 17), (29, 17), (7, 18), (29, 18), (7, 19), (29, 19), (7, 20), (29, 20), (7, 21), (29, 21), (7, 22), (29, 22), (7, 23), (29, 23), (7, 24), (29, 24), (7, 25), (29, 25), (7, 26), (29, 26), (7, 27), (29, 27), (7, 28), (29, 28), (7, 29), (29, 29), (6, 0), (45, 0), (46, 0), (47, 0), (48, 0), (49, 0), (4, 14), (25, 14), (26, 14), (27, 14), (23, 0), (23, 1), (22, 0), (5, 0), (24, 0), (5, 1), (24, 1), (5, 2), (24, 2), (5, 3), (24, 3), (11, 0), (61, 0), (63, 0), (64, 0), (65, 0), (67, 0), (68, 0), (69, 0), (70, 0), (71, 0), (72, 0), (73, 0), (74, 0), (75, 0), (76, 0), (77, 0), (79, 0), (80, 0), (81, 0), (82, 0), (83, 0), (86, 0), (87, 0), (88, 0), (90, 0), (91, 0)]
def lay00 (q0 q1 : Nat) (x0 x1 : Nat → Nat) : Nat → Nat → Nat := fun K i => match K, i with
  | 10, 0 => q0
  | 20, 0 => (x0 0)
  | 21, 0 => (x0 1)
  | 2, 0 => (x0 2)
  | 30, 0 => (x0 3)
  | 31, 0 => (x0 4)
  | 1, 0 => (x0 5)
  | 32, 0 => (x0 6)
  | 23, 3 => (x0 7)
  | 23, 4 => (x0 8)
  | 23, 5 => (x0 9)
  | 23, 6 => (x0 10)
  | 23, 7 => (x0 11)
  | 23, 8 => (x0 12)
  | 33, 0 => (x0 13)
  | 7, 14 => (x0 14)
  | 29, 14 => (x0 15)
  | 3, 0 => (x0 16)
  | 34, 0 => (x0 17)
  | 35, 0 => (x0 18)
  | 36, 0 => (x0 19)
  | 37, 0 => (x0 20)
  | 38, 0 => (x0 21)
  | 23, 2 => (x0 22)
  | 7, 15 => (x0 23)
  | 29, 15 => (x0 24)
  | 9, 0 => (x0 25)
  | 39, 0 => (x0 26)
  | 40, 0 => (x0 27)
  | 23, 9 => (x0 28)
  | 23, 10 => (x0 29)
  | 23, 11 => (x0 30)
  | 23, 12 => (x0 31)
  | 23, 13 => (x0 32)
  | 23, 14 => (x0 33)
  | 23, 15 => (x0 34)
  | 23, 16 => (x0 35)
  | 23, 17 => (x0 36)
  | 23, 18 => (x0 37)
  | 23, 19 => (x0 38)
  | 23, 20 => (x0 39)
  | 23, 21 => (x0 40)
  | 23, 22 => (x0 41)
  | 41, 0 => (x0 42)
  | 42, 0 => (x0 43)
  | 43, 0 => (x0 44)
  | 44, 0 => (x0 45)
  | 7, 16 => (x0 46)
  | 29, 16 => (x0 47)
  | 7, 17 => (x0 48)
  | 29, 17 => (x0 49)
  | 7, 18 => (x0 50)
  | 29, 18 => (x0 51)
  | 7, 19 => (x0 52)
  | 29, 19 => (x0 53)
  | 7, 20 => (x0 54)
  | 29, 20 => (x0 55)
  | 7, 21 => (x0 56)
  | 29, 21 => (x0 57)
  | 7, 22 => (x0 58)
  | 29, 22 => (x0 59)
  | 7, 23 => (x0 60)
  | 29, 23 => (x0 61)
  | 7, 24 => (x0 62)
  | 29, 24 => (x0 63)
  | 7, 25 => (x0 64)
  | 29, 25 => (x0 65)
  | 7, 26 => (x0 66)
  | 29, 26 => (x0 67)
  | 7, 27 => (x0 68)
  | 29, 27 => (x0 69)
  | 7, 28 => (x0 70)
  | 29, 28 => (x0 71)
  | 7, 29 => (x0 72)
  | 29, 29 => (x0 73)
  | 6, 0 => (x0 74)
  | 45, 0 => (x0 75)
  | 46, 0 => (x0 76)
  | 47, 0 => (x0 77)
  | 48, 0 => (x0 78)
  | 49, 0 => (x0 79)
  | 4, 14 => (x0 80)
  | 25, 14 => (x0 81)
  | 26, 14 => (x0 82)
  | 27, 14 => (x0 83)
  | 23, 0 => (x0 84)
  | 23, 1 => (x0 85)
  | 22, 0 => (x0 86)
  | 5, 0 => (x0 87)
  | 24, 0 => (x0 88)
  | 5, 1 => (x0 89)
  | 24, 1 => (x0 90)
  | 5, 2 => (x0 91)
  | 24, 2 => (x0 92)
  | 5, 3 => (x0 93)
  | 24, 3 => (x0 94)
  | 11, 0 => q1
  | 61, 0 => (x1 0)
  | 63, 0 => (x1 1)
  | 64, 0 => (x1 2)
  | 65, 0 => (x1 3)
  | 67, 0 => (x1 4)
  | 68, 0 => (x1 5)
  | 69, 0 => (x1 6)
  | 70, 0 => (x1 7)
  | 71, 0 => (x1 8)
  | 72, 0 => (x1 9)
  | 73, 0 => (x1 10)
  | 74, 0 => (x1 11)
  | 75, 0 => (x1 12)
  | 76, 0 => (x1 13)
  | 77, 0 => (x1 14)
  | 79, 0 => (x1 15)
  | 80, 0 => (x1 16)
  | 81, 0 => (x1 17)
  | 82, 0 => (x1 18)
  | 83, 0 => (x1 19)
  | 86, 0 => (x1 20)
  | 87, 0 => (x1 21)
  | 88, 0 => (x1 22)
  | 90, 0 => (x1 23)
  | 91, 0 => (x1 24)
  | _, _ => 0
def σ00 : St := (fun K _ j => if K = 5 ∧ j = 1 then -1 else 0, fun K i p => if K = 63 ∧ i = 0 ∧ p < 4 then -9 else 0, fun _ _ _ => 0, fun _ _ _ => 0, fun K i p => if K = 20 ∧ i = 0 ∧ p < 4 then some p else if K = 39 ∧ i = 0 ∧ p < 14 then some (16 + p) else if K = 32 ∧ i = 0 ∧ p < 6 then some (3 + p) else if K = 40 ∧ i = 0 ∧ p < 14 then some (9 + p) else none)
theorem cons2 {α : Type} {a b : α} {l m : List α} (h1 : a = b) (h2 : l = m) : a :: l = b :: m := by rw [h1, h2]
set_option maxHeartbeats 40000000 in
set_option maxRecDepth 100000 in
theorem w00 {E : EC} {q0 q1 : Nat} {x0 x1 : Nat → Nat} : w1X10_init E q0 x0 ++ w1X11_init E q1 x1 = Wl E.2 (lay00 q0 q1 x0 x1) L00 σ00 := by
  unfold w1X10_init w1X11_init Wl L00
  simp only [List.map_cons, List.map_nil, List.cons_append, List.nil_append]
  refine cons2 rfl ?_
  refine cons2 (by
    refine congrArg (fun z : Nat → Option Nat => ((_, Sum.inl (_, 4, Sum.inr (Sum.inr (Sum.inr (Sum.inr z))))) : Nat × va_E)) (funext fun p => ?_)
    by_cases h : p < 4
    · rcases (show p = 0 ∨ p = 1 ∨ p = 2 ∨ p = 3 by omega) with rfl | rfl | rfl | rfl <;> rfl
    · simp [va_up, sR, σ00, h, show ¬ p = 0 by omega, show ¬ p = 1 by omega, show ¬ p = 2 by omega, show ¬ p = 3 by omega]) ?_
  refine cons2 (by
    refine congrArg (fun z : Nat → Option Nat => ((_, Sum.inl (_, 14, Sum.inr (Sum.inr (Sum.inr (Sum.inr z))))) : Nat × va_E)) (funext fun p => ?_)
    by_cases h : p < 14
    · rcases (show p = 0 ∨ p = 1 ∨ p = 2 ∨ p = 3 ∨ p = 4 ∨ p = 5 ∨ p = 6 ∨ p = 7 ∨ p = 8 ∨ p = 9 ∨ p = 10 ∨ p = 11 ∨ p = 12 ∨ p = 13 by omega) with rfl | rfl | rfl | rfl | rfl | rfl | rfl | rfl | rfl | rfl | rfl | rfl | rfl | rfl <;> rfl
    · simp [va_up, sR, σ00, h, show ¬ p = 0 by omega, show ¬ p = 1 by omega, show ¬ p = 2 by omega, show ¬ p = 3 by omega, show ¬ p = 4 by omega, show ¬ p = 5 by omega, show ¬ p = 6 by omega, show ¬ p = 7 by omega, show ¬ p = 8 by omega, show ¬ p = 9 by omega, show ¬ p = 10 by omega, show ¬ p = 11 by omega, show ¬ p = 12 by omega, show ¬ p = 13 by omega]) ?_
  refine cons2 rfl ?_
  refine cons2 (by
    refine congrArg (fun z : Nat → Option Nat => ((_, Sum.inl (_, 12, Sum.inr (Sum.inr (Sum.inr (Sum.inr z))))) : Nat × va_E)) (funext fun p => ?_)
    by_cases h : p < 12
    · rcases (show p = 0 ∨ p = 1 ∨ p = 2 ∨ p = 3 ∨ p = 4 ∨ p = 5 ∨ p = 6 ∨ p = 7 ∨ p = 8 ∨ p = 9 ∨ p = 10 ∨ p = 11 by omega) with rfl | rfl | rfl | rfl | rfl | rfl | rfl | rfl | rfl | rfl | rfl | rfl <;> rfl
    · simp [va_up, sR, σ00, h, show ¬ p = 0 by omega, show ¬ p = 1 by omega, show ¬ p = 2 by omega, show ¬ p = 3 by omega, show ¬ p = 4 by omega, show ¬ p = 5 by omega, show ¬ p = 6 by omega, show ¬ p = 7 by omega, show ¬ p = 8 by omega, show ¬ p = 9 by omega, show ¬ p = 10 by omega, show ¬ p = 11 by omega]) ?_
  refine cons2 rfl ?_
  refine cons2 rfl ?_
  refine cons2 (by
    refine congrArg (fun z : Nat → Option Nat => ((_, Sum.inl (_, 6, Sum.inr (Sum.inr (Sum.inr (Sum.inr z))))) : Nat × va_E)) (funext fun p => ?_)
    by_cases h : p < 6
    · rcases (show p = 0 ∨ p = 1 ∨ p = 2 ∨ p = 3 ∨ p = 4 ∨ p = 5 by omega) with rfl | rfl | rfl | rfl | rfl | rfl <;> rfl
    · simp [va_up, sR, σ00, h, show ¬ p = 0 by omega, show ¬ p = 1 by omega, show ¬ p = 2 by omega, show ¬ p = 3 by omega, show ¬ p = 4 by omega, show ¬ p = 5 by omega]) ?_
  refine cons2 rfl ?_
  refine cons2 rfl ?_
  refine cons2 rfl ?_
  refine cons2 rfl ?_
  refine cons2 rfl ?_
  refine cons2 rfl ?_
  refine cons2 rfl ?_
  refine cons2 rfl ?_
  refine cons2 rfl ?_
  refine cons2 rfl ?_
  refine cons2 rfl ?_
  refine cons2 rfl ?_
  refine cons2 rfl ?_
  refine cons2 rfl ?_
  refine cons2 rfl ?_
  refine cons2 rfl ?_
  refine cons2 rfl ?_
  refine cons2 rfl ?_
  refine cons2 rfl ?_
  refine cons2 (by
    refine congrArg (fun z : Nat → Option Nat => ((_, Sum.inl (_, 14, Sum.inr (Sum.inr (Sum.inr (Sum.inr z))))) : Nat × va_E)) (funext fun p => ?_)
    by_cases h : p < 14
    · rcases (show p = 0 ∨ p = 1 ∨ p = 2 ∨ p = 3 ∨ p = 4 ∨ p = 5 ∨ p = 6 ∨ p = 7 ∨ p = 8 ∨ p = 9 ∨ p = 10 ∨ p = 11 ∨ p = 12 ∨ p = 13 by omega) with rfl | rfl | rfl | rfl | rfl | rfl | rfl | rfl | rfl | rfl | rfl | rfl | rfl | rfl <;> rfl
    · simp [va_up, sR, σ00, h, show ¬ p = 0 by omega, show ¬ p = 1 by omega, show ¬ p = 2 by omega, show ¬ p = 3 by omega, show ¬ p = 4 by omega, show ¬ p = 5 by omega, show ¬ p = 6 by omega, show ¬ p = 7 by omega, show ¬ p = 8 by omega, show ¬ p = 9 by omega, show ¬ p = 10 by omega, show ¬ p = 11 by omega, show ¬ p = 12 by omega, show ¬ p = 13 by omega]) ?_
  refine cons2 (by
    refine congrArg (fun z : Nat → Option Nat => ((_, Sum.inl (_, 14, Sum.inr (Sum.inr (Sum.inr (Sum.inr z))))) : Nat × va_E)) (funext fun p => ?_)
    by_cases h : p < 14
    · rcases (show p = 0 ∨ p = 1 ∨ p = 2 ∨ p = 3 ∨ p = 4 ∨ p = 5 ∨ p = 6 ∨ p = 7 ∨ p = 8 ∨ p = 9 ∨ p = 10 ∨ p = 11 ∨ p = 12 ∨ p = 13 by omega) with rfl | rfl | rfl | rfl | rfl | rfl | rfl | rfl | rfl | rfl | rfl | rfl | rfl | rfl <;> rfl
    · simp [va_up, sR, σ00, h, show ¬ p = 0 by omega, show ¬ p = 1 by omega, show ¬ p = 2 by omega, show ¬ p = 3 by omega, show ¬ p = 4 by omega, show ¬ p = 5 by omega, show ¬ p = 6 by omega, show ¬ p = 7 by omega, show ¬ p = 8 by omega, show ¬ p = 9 by omega, show ¬ p = 10 by omega, show ¬ p = 11 by omega, show ¬ p = 12 by omega, show ¬ p = 13 by omega]) ?_
  refine cons2 rfl ?_
  refine cons2 rfl ?_
  refine cons2 rfl ?_
  refine cons2 rfl ?_
  refine cons2 rfl ?_
  refine cons2 rfl ?_
  refine cons2 rfl ?_
  refine cons2 rfl ?_
  refine cons2 rfl ?_
  refine cons2 rfl ?_
  refine cons2 rfl ?_
  refine cons2 rfl ?_
  refine cons2 rfl ?_
  refine cons2 rfl ?_
  refine cons2 rfl ?_
  refine cons2 rfl ?_
  refine cons2 rfl ?_
  refine cons2 rfl ?_
  refine cons2 rfl ?_
  refine cons2 rfl ?_
  refine cons2 rfl ?_
  refine cons2 rfl ?_
  refine cons2 rfl ?_
  refine cons2 rfl ?_
  refine cons2 rfl ?_
  refine cons2 rfl ?_
  refine cons2 rfl ?_
  refine cons2 rfl ?_
  refine cons2 rfl ?_
  refine cons2 rfl ?_
  refine cons2 rfl ?_
  refine cons2 rfl ?_
  refine cons2 rfl ?_
  refine cons2 rfl ?_
  refine cons2 rfl ?_
  refine cons2 rfl ?_
  refine cons2 rfl ?_
  refine cons2 rfl ?_
  refine cons2 rfl ?_
  refine cons2 rfl ?_
  refine cons2 rfl ?_
  refine cons2 rfl ?_
  refine cons2 rfl ?_
  refine cons2 rfl ?_
  refine cons2 rfl ?_
  refine cons2 rfl ?_
  refine cons2 rfl ?_
  refine cons2 rfl ?_
  refine cons2 rfl ?_
  refine cons2 rfl ?_
  refine cons2 rfl ?_
  refine cons2 rfl ?_
  refine cons2 rfl ?_
  refine cons2 rfl ?_
  refine cons2 rfl ?_
  refine cons2 rfl ?_
  refine cons2 rfl ?_
  refine cons2 rfl ?_
  refine cons2 rfl ?_
  refine cons2 rfl ?_
  refine cons2 rfl ?_
  refine cons2 rfl ?_
  refine cons2 rfl ?_
  refine cons2 rfl ?_
  refine cons2 rfl ?_
  refine cons2 rfl ?_
  refine cons2 rfl ?_
  refine cons2 rfl ?_
  refine cons2 rfl ?_
  refine cons2 (by
    refine congrArg (fun z : Nat → Int32 => ((_, Sum.inl (_, 4, Sum.inl z)) : Nat × va_E)) (funext fun p => ?_)
    by_cases h : p < 4
    · rcases (show p = 0 ∨ p = 1 ∨ p = 2 ∨ p = 3 by omega) with rfl | rfl | rfl | rfl <;> rfl
    · simp [upd, sA, σ00, h, show ¬ p = 0 by omega, show ¬ p = 1 by omega, show ¬ p = 2 by omega, show ¬ p = 3 by omega]) ?_
  refine cons2 rfl ?_
  refine cons2 rfl ?_
  refine cons2 rfl ?_
  refine cons2 rfl ?_
  refine cons2 rfl ?_
  refine cons2 rfl ?_
  refine cons2 rfl ?_
  refine cons2 rfl ?_
  refine cons2 rfl ?_
  refine cons2 rfl ?_
  refine cons2 rfl ?_
  refine cons2 rfl ?_
  refine cons2 rfl ?_
  refine cons2 rfl ?_
  refine cons2 rfl ?_
  refine cons2 rfl ?_
  refine cons2 rfl ?_
  refine cons2 rfl ?_
  refine cons2 rfl ?_
  refine cons2 rfl ?_
  refine cons2 rfl ?_
  refine cons2 rfl ?_
  refine cons2 rfl ?_
  rfl
theorem ac_ra {s : State} {args : Array Value} {ty : FieldType} (hty : ∀ C, ty ≠ .object C) (h : (Cond.arrayClass ty).before args s = true) : ∃ cA : ClassId, ArrOfT s cA ty ∧ va_RA s cA ty := by
  obtain ⟨c, k, comp, h1, h2, h3⟩ := Cond.arrayClass_spec h
  refine ⟨c, fun n z => ⟨fun k h => (by cases h), k, h2, comp, h3⟩, ?_⟩
  cases ty with
  | object C => exact absurd rfl (hty C)
  | _ => exact h1
theorem ao_ra {s : State} {args : Array Value} {C : String} (h : (Cond.arrayOver (.object C)).before args s = true) : ∃ cA : ClassId, ArrOfT s cA (.object C) ∧ va_RA s cA (.object C) := by
  obtain ⟨comp, c, k, h1, h2, h3, h4, h5⟩ := Cond.arrayOver_spec h
  exact ⟨c, fun n z => ⟨fun k h => (by cases h), k, h3, comp, h4⟩, k, comp, h3, h4, h1, h5⟩
theorem L00_val : ∀ q ∈ L00, q.1 < 12 ∨ 20 ≤ q.1 := by decide
theorem L00_clo : Clo L00 := by
  intro K i hm j hK hj hf
  have h : ∀ q ∈ L00, q.1 < 12 → ∀ j, j < nfl q.1 → ftp q.1 j = 2 → own q.1 j q.2 ∈ L00 := by decide +kernel
  exact h (K, i) hm hK j hj hf
theorem L00_rc : RC L00 σ00 := by
  intro K i p i' h
  simp only [sR, σ00] at h
  split at h
  · rename_i z; obtain ⟨rfl, rfl, hp⟩ := z; cases h
    rcases (show p = 0 ∨ p = 1 ∨ p = 2 ∨ p = 3 by omega) with rfl | rfl | rfl | rfl <;> decide
  · split at h
    · rename_i z; obtain ⟨rfl, rfl, hp⟩ := z; cases h
      rcases (show p = 0 ∨ p = 1 ∨ p = 2 ∨ p = 3 ∨ p = 4 ∨ p = 5 ∨ p = 6 ∨ p = 7 ∨ p = 8 ∨ p = 9 ∨ p = 10 ∨ p = 11 ∨ p = 12 ∨ p = 13 by omega) with rfl | rfl | rfl | rfl | rfl | rfl | rfl | rfl | rfl | rfl | rfl | rfl | rfl | rfl <;> decide
    · split at h
      · rename_i z; obtain ⟨rfl, rfl, hp⟩ := z; cases h
        rcases (show p = 0 ∨ p = 1 ∨ p = 2 ∨ p = 3 ∨ p = 4 ∨ p = 5 by omega) with rfl | rfl | rfl | rfl | rfl | rfl <;> decide
      · split at h
        · rename_i z; obtain ⟨rfl, rfl, hp⟩ := z; cases h
          rcases (show p = 0 ∨ p = 1 ∨ p = 2 ∨ p = 3 ∨ p = 4 ∨ p = 5 ∨ p = 6 ∨ p = 7 ∨ p = 8 ∨ p = 9 ∨ p = 10 ∨ p = 11 ∨ p = 12 ∨ p = 13 by omega) with rfl | rfl | rfl | rfl | rfl | rfl | rfl | rfl | rfl | rfl | rfl | rfl | rfl | rfl <;> decide
        · cases h
