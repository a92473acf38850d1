-- ===== the state as functions of kind, number, place; the world out of it; the machine's rows over it =====
abbrev St : Type := (Nat → Nat → Nat → Int32) × (Nat → Nat → Nat → Int32) × (Nat → Nat → Nat → Int64) × (Nat → Nat → Nat → Int64) × (Nat → Nat → Nat → Option Nat)
def sF (σ : St) : Nat → Nat → Nat → Int32 := σ.1
def sA (σ : St) : Nat → Nat → Nat → Int32 := σ.2.1
def sJ (σ : St) : Nat → Nat → Nat → Int64 := σ.2.2.1
def sB (σ : St) : Nat → Nat → Nat → Int64 := σ.2.2.2.1
def sR (σ : St) : Nat → Nat → Nat → Option Nat := σ.2.2.2.2
def u3 {α : Type} (f : Nat → Nat → Nat → α) (a b c : Nat) (x : α) : Nat → Nat → Nat → α := fun a' b' c' => if a' = a ∧ b' = b ∧ c' = c then x else f a' b' c'
def setF (σ : St) (K i j : Nat) (x : Int32) : St := (u3 (sF σ) K i j x, sA σ, sJ σ, sB σ, sR σ)
def setA (σ : St) (K i j : Nat) (x : Int32) : St := (sF σ, u3 (sA σ) K i j x, sJ σ, sB σ, sR σ)
def setJ (σ : St) (K i j : Nat) (x : Int64) : St := (sF σ, sA σ, u3 (sJ σ) K i j x, sB σ, sR σ)
def setB (σ : St) (K i j : Nat) (x : Int64) : St := (sF σ, sA σ, sJ σ, u3 (sB σ) K i j x, sR σ)
def setR (σ : St) (K i j : Nat) (x : Option Nat) : St := (sF σ, sA σ, sJ σ, sB σ, u3 (sR σ) K i j x)
def setAll (σ : St) (K i : Nat) (f : Nat → Int32) : St := (sF σ, fun K' i' => if K' = K ∧ i' = i then f else sA σ K' i', sJ σ, sB σ, sR σ)
-- classes by number
abbrev cls : List vw_C := [(RX0, TX0, 4), (RX1, TX1, 3), (RX2, TX2, 4), (RX3, TX3, 8), (RX4, TX4, 8), (RX5, TX5, 2), (RX6, TX6, 10), (RX7, TX7, 3), (RX8, TX8, 6), (RX9, TX9, 7), (RX10, TX10, 14), (RX11, TX11, 32)]
def clsT : Nat → vw_C := fun k => match k with
  | 0 => (RX0, TX0, 4)
  | 1 => (RX1, TX1, 3)
  | 2 => (RX2, TX2, 4)
  | 3 => (RX3, TX3, 8)
  | 4 => (RX4, TX4, 8)
  | 5 => (RX5, TX5, 2)
  | 6 => (RX6, TX6, 10)
  | 7 => (RX7, TX7, 3)
  | 8 => (RX8, TX8, 6)
  | 9 => (RX9, TX9, 7)
  | 10 => (RX10, TX10, 14)
  | _ => (RX11, TX11, 32)
def nfl (K : Nat) : Nat := (clsT K).2.2
theorem cls_get : ∀ K, K < 12 → cls[K]? = some (clsT K)
  | 0, _ => rfl | 1, _ => rfl | 2, _ => rfl | 3, _ => rfl | 4, _ => rfl | 5, _ => rfl | 6, _ => rfl | 7, _ => rfl | 8, _ => rfl | 9, _ => rfl | 10, _ => rfl | 11, _ => rfl
  | _ + 12, h => absurd h (by omega)
def Nst (U : State) : Prop := ∀ w ∈ nstw, va_Nw w U
theorem nest_tab {w : Cond} (h : isNest w = true) : w.onTables = true := by cases w <;> first | rfl | (simp [isNest] at h)
theorem Nst.warm {s U : State} (hW : s.WarmedH U.vm) (h : Nst s) : Nst U := by
  intro w hw
  have h1 := h w hw
  have h2 : isNest w = true := (List.mem_filter.mp hw).2
  cases w <;> first | exact va_Nw.warmF hW h1 | exact va_Nw.warmM hW h1 | (simp [isNest] at h2)
theorem Nst.same {s U : State} (hW : s.vm = U.vm) (h : Nst s) : Nst U := by
  intro w hw
  exact va_Nw.same (nest_tab (List.mem_filter.mp hw).2) hW (h w hw)
theorem in0 : ∀ w ∈ u_ws RX0 TX0 4, w ∈ big := by decide +kernel
theorem in1 : ∀ w ∈ u_ws RX1 TX1 3, w ∈ big := by decide +kernel
theorem in2 : ∀ w ∈ u_ws RX2 TX2 4, w ∈ big := by decide +kernel
theorem in3 : ∀ w ∈ u_ws RX3 TX3 8, w ∈ big := by decide +kernel
theorem in4 : ∀ w ∈ u_ws RX4 TX4 8, w ∈ big := by decide +kernel
theorem in5 : ∀ w ∈ u_ws RX5 TX5 2, w ∈ big := by decide +kernel
theorem in6 : ∀ w ∈ u_ws RX6 TX6 10, w ∈ big := by decide +kernel
theorem in7 : ∀ w ∈ u_ws RX7 TX7 3, w ∈ big := by decide +kernel
theorem in8 : ∀ w ∈ u_ws RX8 TX8 6, w ∈ big := by decide +kernel
theorem in9 : ∀ w ∈ u_ws RX9 TX9 7, w ∈ big := by decide +kernel
theorem in10 : ∀ w ∈ u_ws RX10 TX10 14, w ∈ big := by decide +kernel
theorem in11 : ∀ w ∈ u_ws RX11 TX11 32, w ∈ big := by decide +kernel
theorem inK : ∀ K, K < 12 → ∀ w ∈ u_ws (clsT K).1 (clsT K).2.1 (clsT K).2.2, w ∈ big
  | 0, _ => in0 | 1, _ => in1 | 2, _ => in2 | 3, _ => in3 | 4, _ => in4 | 5, _ => in5 | 6, _ => in6 | 7, _ => in7 | 8, _ => in8 | 9, _ => in9 | 10, _ => in10 | 11, _ => in11
  | _ + 12, h => absurd h (by omega)
theorem nothing_here : True := trivial
def tyT : Nat → Nat → FieldType := fun k => match k with
  | 0 => tyX0 | 1 => tyX1 | 2 => tyX2 | 3 => tyX3 | 4 => tyX4 | 5 => tyX5 | 6 => tyX6 | 7 => tyX7 | 8 => tyX8 | 9 => tyX9 | 10 => tyX10 | _ => tyX11
theorem tyK : ∀ K, K < 12 → ∀ k, k < (clsT K).2.2 → parseFieldDescriptor ((clsT K).2.1 k).2.2.1 = some (tyT K k)
  | 0, _ => tyX0_ok | 1, _ => tyX1_ok | 2, _ => tyX2_ok | 3, _ => tyX3_ok | 4, _ => tyX4_ok | 5, _ => tyX5_ok | 6, _ => tyX6_ok | 7, _ => tyX7_ok | 8, _ => tyX8_ok | 9, _ => tyX9_ok | 10, _ => tyX10_ok | 11, _ => tyX11_ok
  | _ + 12, h => absurd h (by omega)
theorem nmK : ∀ K, K < 12 → ∀ a, a < (clsT K).2.2 → ∀ b, b < (clsT K).2.2 → a ≠ b → ((clsT K).2.1 a).2.1 ≠ ((clsT K).2.1 b).2.1
  | 0, _ => nmX0 | 1, _ => nmX1 | 2, _ => nmX2 | 3, _ => nmX3 | 4, _ => nmX4 | 5, _ => nmX5 | 6, _ => nmX6 | 7, _ => nmX7 | 8, _ => nmX8 | 9, _ => nmX9 | 10, _ => nmX10 | 11, _ => nmX11
  | _ + 12, h => absurd h (by omega)
-- what a field holds: 0 an int or boolean, 1 a long, 2 a cell
def ftp (K j : Nat) : Nat := match tyT K j with
  | .int => 0
  | .boolean => 0
  | .long => 1
  | _ => 2
def own (K j i : Nat) : Nat × Nat := match K, j with
  | 0, 2 => (28, i)
  | 1, 0 => (32, 0)
  | 1, 1 => (33, 0)
  | 1, 2 => (7, 14)
  | 2, 0 => (30, 0)
  | 2, 1 => (31, 0)
  | 3, 0 => (34, 0)
  | 3, 1 => (35, 0)
  | 3, 2 => (36, 0)
  | 3, 3 => (37, 0)
  | 3, 4 => (38, 0)
  | 3, 5 => (23, 2)
  | 3, 6 => (7, 15)
  | 4, 0 => (25, i)
  | 4, 1 => (26, i)
  | 4, 2 => (27, i)
  | 5, 0 => (24, i)
  | 6, 0 => (45, 0)
  | 6, 1 => (46, 0)
  | 6, 2 => (47, 0)
  | 6, 3 => (48, 0)
  | 6, 4 => (49, 0)
  | 7, 0 => (29, i)
  | 8, 3 => (4, i)
  | 8, 4 => (7, i)
  | 9, 0 => (39, 0)
  | 9, 1 => (40, 0)
  | 9, 2 => (41, 0)
  | 9, 3 => (42, 0)
  | 9, 4 => (43, 0)
  | 9, 5 => (44, 0)
  | 10, 0 => (20, 0)
  | 10, 1 => (21, 0)
  | 10, 2 => (2, 0)
  | 10, 3 => (1, 0)
  | 10, 4 => (3, 0)
  | 10, 5 => (9, 0)
  | 10, 6 => (6, 0)
  | 10, 7 => (4, 14)
  | 10, 8 => (23, 0)
  | 10, 9 => (23, 1)
  | 10, 10 => (22, 0)
  | 11, 1 => (61, 0)
  | 11, 3 => (63, 0)
  | 11, 4 => (64, 0)
  | 11, 5 => (65, 0)
  | 11, 7 => (67, 0)
  | 11, 8 => (68, 0)
  | 11, 9 => (69, 0)
  | 11, 10 => (70, 0)
  | 11, 11 => (71, 0)
  | 11, 12 => (72, 0)
  | 11, 13 => (73, 0)
  | 11, 14 => (74, 0)
  | 11, 15 => (75, 0)
  | 11, 16 => (76, 0)
  | 11, 17 => (77, 0)
  | 11, 19 => (79, 0)
  | 11, 20 => (80, 0)
  | 11, 21 => (81, 0)
  | 11, 22 => (82, 0)
  | 11, 23 => (83, 0)
  | 11, 26 => (86, 0)
  | 11, 27 => (87, 0)
  | 11, 28 => (88, 0)
  | 11, 30 => (90, 0)
  | 11, 31 => (91, 0)
  | _, _ => (0, 0)
def elT : Nat → Nat := fun K => match K with
  | 20 => 4
  | 21 => 5
  | 22 => 0
  | 23 => 0
  | 24 => 1
  | 25 => 1
  | 26 => 0
  | 27 => 0
  | 28 => 1
  | 29 => 0
  | 30 => 6
  | 31 => 2
  | 32 => 8
  | 33 => 2
  | 34 => 0
  | 35 => 0
  | 36 => 3
  | 37 => 3
  | 38 => 0
  | 39 => 7
  | 40 => 8
  | 41 => 2
  | 42 => 0
  | 43 => 0
  | 44 => 0
  | 45 => 0
  | 46 => 0
  | 47 => 0
  | 48 => 0
  | 49 => 0
  | 61 => 0
  | 63 => 0
  | 64 => 0
  | 65 => 0
  | 67 => 0
  | 68 => 0
  | 69 => 0
  | 70 => 2
  | 71 => 0
  | 72 => 0
  | 73 => 0
  | 74 => 0
  | 75 => 0
  | 76 => 0
  | 77 => 0
  | 79 => 0
  | 80 => 0
  | 81 => 0
  | 82 => 0
  | 83 => 0
  | 86 => 0
  | 87 => 3
  | 88 => 3
  | 90 => 0
  | 91 => 0
  | _ => 0
def alen : Nat → Nat := fun K => match K with
  | 20 => 4
  | 21 => 14
  | 22 => 6
  | 23 => 12
  | 24 => 200
  | 25 => 200
  | 26 => 100
  | 27 => 100
  | 28 => 12
  | 29 => 12
  | 30 => 12
  | 31 => 12
  | 32 => 6
  | 33 => 6
  | 34 => 100
  | 35 => 100
  | 36 => 101
  | 37 => 101
  | 38 => 100
  | 39 => 14
  | 40 => 14
  | 41 => 14
  | 42 => 14
  | 43 => 14
  | 44 => 14
  | 45 => 14
  | 46 => 14
  | 47 => 14
  | 48 => 15
  | 49 => 15
  | 61 => 6
  | 63 => 4
  | 64 => 800
  | 65 => 200
  | 67 => 15
  | 68 => 15
  | 69 => 15
  | 70 => 15
  | 71 => 15
  | 72 => 3000
  | 73 => 15
  | 74 => 15
  | 75 => 15
  | 76 => 1500
  | 77 => 1500
  | 79 => 12
  | 80 => 12
  | 81 => 12
  | 82 => 144
  | 83 => 168
  | 86 => 100
  | 87 => 101
  | 88 => 101
  | 90 => 39
  | 91 => 14
  | _ => 0
def tk : Nat → Nat := fun K => match K with
  | 20 => 5
  | 21 => 8
  | 30 => 0
  | 32 => 23
  | 39 => 7
  | 40 => 23
  | _ => 0
-- arrays of which class: by number
def tysOf (ca : Nat → ClassId) : List (ClassId × FieldType) := [(ca 0, .int), (ca 1, .byte), (ca 2, .boolean), (ca 3, .long), (ca 4, .object "WhoseHand$Sheet"), (ca 5, .object "WhoseHand$Text"), (ca 6, .object "WhoseHand$Feature"), (ca 7, .object "WhoseHand$Tally"), (ca 8, .array .int)]
def fv (lay : Nat → Nat → Nat) (σ : St) (K i j : Nat) : Value := match ftp K j with
  | 0 => .int (sF σ K i j)
  | 1 => .long (sJ σ K i j)
  | _ => .ref (lay (own K j i).1 (own K j i).2)
def rf (lay : Nat → Nat → Nat) (K : Nat) (r : Option Nat) : Value := va_rf (r.map (lay K))
def cv (ca : Nat → ClassId) (lay : Nat → Nat → Nat) (σ : St) (K i : Nat) : va_E :=
  if K < 20 then .inr (K, (List.range (nfl K)).map (fun j => fv lay σ K i j))
  else .inl (ca (elT K), alen K, if elT K < 3 then .inl (sA σ K i) else if elT K = 3 then .inr (.inl (sB σ K i)) else .inr (.inr (.inr (.inr (fun p => (sR σ K i p).map (lay (tk K)))))))
def cel (ca : Nat → ClassId) (lay : Nat → Nat → Nat) (σ : St) (q : Nat × Nat) : Nat × va_E := (lay q.1 q.2, cv ca lay σ q.1 q.2)
def Wl (ca : Nat → ClassId) (lay : Nat → Nat → Nat) (L : List (Nat × Nat)) (σ : St) : va_W := L.map (cel ca lay σ)
theorem Wl_get {ca : Nat → ClassId} {lay : Nat → Nat → Nat} {L : List (Nat × Nat)} (σ : St) {K i : Nat} (h : (K, i) ∈ L) : ∃ k : Nat, L[k]? = some (K, i) ∧ (Wl ca lay L σ)[k]? = some (lay K i, cv ca lay σ K i) := by
  obtain ⟨k, hk⟩ := List.getElem?_of_mem h
  exact ⟨k, hk, by unfold Wl; rw [List.getElem?_map, hk]; rfl⟩
theorem Wl_set {A : Nat → Prop} {ca : Nat → ClassId} {lay : Nat → Nat → Nat} {L : List (Nat × Nat)} {σ σ' : St} {K i k : Nat} {e : va_E} (hD : va_D A (Wl ca lay L σ)) (hk : L[k]? = some (K, i)) (he : cv ca lay σ' K i = e) (ho : ∀ K' i', ¬ (K' = K ∧ i' = i) → cv ca lay σ' K' i' = cv ca lay σ K' i') : (Wl ca lay L σ).set k (lay K i, e) = Wl ca lay L σ' := by
  apply List.ext_getElem?
  intro n
  by_cases hn : n = k
  · subst hn
    have hl : n < (Wl ca lay L σ).length := by unfold Wl; rw [List.length_map]; exact (List.getElem?_eq_some_iff.mp hk).1
    rw [List.getElem?_set_self hl]
    unfold Wl
    rw [List.getElem?_map, hk]
    show _ = some (lay K i, cv ca lay σ' K i)
    rw [he]
  · rw [List.getElem?_set_ne (Ne.symm hn)]
    unfold Wl
    rw [List.getElem?_map, List.getElem?_map]
    cases hq : L[n]? with
    | none => rfl
    | some q =>
      obtain ⟨K', i'⟩ := q
      show some (lay K' i', cv ca lay σ K' i') = some (lay K' i', cv ca lay σ' K' i')
      rw [ho K' i' (fun z => ?_)]
      obtain ⟨rfl, rfl⟩ := z
      exact hn (hD.1 n k _ _ (by unfold Wl; rw [List.getElem?_map, hq]; rfl) (by unfold Wl; rw [List.getElem?_map, hk]; rfl) rfl)
def Clo (L : List (Nat × Nat)) : Prop := ∀ K i, (K, i) ∈ L → ∀ j, K < 12 → j < nfl K → ftp K j = 2 → own K j i ∈ L
def RC (L : List (Nat × Nat)) (σ : St) : Prop := ∀ K i p i', sR σ K i p = some i' → (tk K, i') ∈ L
abbrev EC : Type := va_G × (Nat → ClassId)
def Bd (E : EC) (lay : Nat → Nat → Nat) (L : List (Nat × Nat)) (A : Nat → Prop) (σ : St) (U : State) : Prop := va_P E.1 cls (Wl E.2 lay L σ) U.heap ∧ va_K E.1 cls (tysOf E.2) U ∧ va_D A (Wl E.2 lay L σ) ∧ Clo L ∧ RC L σ
def Bp (E : EC) (lay : Nat → Nat → Nat) (L : List (Nat × Nat)) (A : Nat → Prop) (σ : St) (U : State) : Prop := (∀ q, U.heap.size ≤ q → A q) ∧ Nst U ∧ Bd E lay L A σ U
def Wo (E : EC) (lay : Nat → Nat → Nat) (L : List (Nat × Nat)) (A : Nat → Prop) (s : State) (σ : St) (H : Heap) (locs : List Loc) : Prop := va_P E.1 cls (Wl E.2 lay L σ) H ∧ va_D A (Wl E.2 lay L σ) ∧ va_S A s.heap H locs ∧ Clo L ∧ RC L σ
def Cx (p : Program) (s : State) (m : MethodId) (args : Array Value) (c : Code) (meth : Method) (own : String) (cc : ByteArray) (nL : Nat) (E : EC) (A : Nat → Prop) : Prop :=
  p.tables.exec = Jvm.exec ∧ c.code = cc ∧ c.maxLocals = nL ∧ s.vm.findClass own = some m.cls ∧ (∀ w ∈ big, w.before args s = true) ∧ va_K E.1 cls (tysOf E.2) s ∧ (∀ q, s.heap.size ≤ q → A q) ∧ meth.locks = false ∧ Nst s
theorem Bp_blind {E : EC} {lay : Nat → Nat → Nat} {L : List (Nat × Nat)} {A : Nat → Prop} {σ : St} {As : List Value} : FrameBlind (va_Pc As (Bp E lay L A σ)) := by
  intro a U g mk q
  obtain ⟨q0, q1, qN, qP, qK, qD⟩ := q
  exact ⟨q0, q1, Nst.same (s := U) (U := U.calling g mk a) rfl qN, qP, va_K.moved (u := U) (U := U.calling g mk a) (Vm.Alike.refl U.vm) qK, qD⟩
theorem tbl_good : GoodIn big big := by
  intro w hw
  exact ⟨hw, good_of_word (List.mem_filter.mp hw).2⟩
-- cells: a write changes one of them
theorem lst_set {n j : Nat} {g g' : Nat → Value} {v : Value} (hj : g' j = v) (ho : ∀ k, k ≠ j → g' k = g k) : (List.range n).map g' = ((List.range n).map g).set j v := by
  apply List.ext_getElem?
  intro k
  by_cases hk : k = j
  · subst hk
    by_cases hl : k < n
    · rw [List.getElem?_set_self (by simpa using hl), List.getElem?_map, List.getElem?_range hl, ← hj]; rfl
    · rw [List.getElem?_eq_none (by simpa using hl), List.getElem?_eq_none (by simpa using hl)]
  · rw [List.getElem?_set_ne (Ne.symm hk), List.getElem?_map, List.getElem?_map]
    by_cases hl : k < n
    · rw [List.getElem?_range hl]; show some (g' k) = some (g k); rw [ho k hk]
    · rw [List.getElem?_eq_none (by simpa using hl)]; rfl
theorem cv_obj {ca : Nat → ClassId} {lay : Nat → Nat → Nat} {σ : St} {K i : Nat} (hK : K < 12) : cv ca lay σ K i = .inr (K, (List.range (nfl K)).map (fun j => fv lay σ K i j)) := by unfold cv; rw [if_pos (by omega)]
theorem cv_setF {ca : Nat → ClassId} {lay : Nat → Nat → Nat} {σ : St} {K i j : Nat} {x : Int32} (hK : K < 12) (hj : ftp K j = 0) : cv ca lay (setF σ K i j x) K i = .inr (K, ((List.range (nfl K)).map (fun j => fv lay σ K i j)).set j (.int x)) := by
  rw [cv_obj hK]
  refine congrArg (fun z => Sum.inr (K, z)) (lst_set ?_ (fun k hk => ?_))
  · simp [fv, hj, setF, sF, u3]
  · unfold fv; split <;> simp [setF, sF, sJ, u3, hk]
theorem cv_setJ {ca : Nat → ClassId} {lay : Nat → Nat → Nat} {σ : St} {K i j : Nat} {x : Int64} (hK : K < 12) (hj : ftp K j = 1) : cv ca lay (setJ σ K i j x) K i = .inr (K, ((List.range (nfl K)).map (fun j => fv lay σ K i j)).set j (.long x)) := by
  rw [cv_obj hK]
  refine congrArg (fun z => Sum.inr (K, z)) (lst_set ?_ (fun k hk => ?_))
  · simp [fv, hj, setJ, sJ, u3]
  · unfold fv; split <;> simp [setJ, sF, sJ, u3, hk]
theorem cv_oF {ca : Nat → ClassId} {lay : Nat → Nat → Nat} {σ : St} {K i j : Nat} {x : Int32} (K' i' : Nat) (h : ¬ (K' = K ∧ i' = i)) : cv ca lay (setF σ K i j x) K' i' = cv ca lay σ K' i' := by
  have e : ∀ n, fv lay (setF σ K i j x) K' i' n = fv lay σ K' i' n := fun n => by
    unfold fv; split <;> simp [setF, sF, sJ, u3]
    intro a b; exact absurd ⟨a, b⟩ h
  unfold cv
  simp only [e]; rfl
theorem cv_oJ {ca : Nat → ClassId} {lay : Nat → Nat → Nat} {σ : St} {K i j : Nat} {x : Int64} (K' i' : Nat) (h : ¬ (K' = K ∧ i' = i)) : cv ca lay (setJ σ K i j x) K' i' = cv ca lay σ K' i' := by
  have e : ∀ n, fv lay (setJ σ K i j x) K' i' n = fv lay σ K' i' n := fun n => by
    unfold fv; split <;> simp [setJ, sF, sJ, u3]
    intro a b; exact absurd ⟨a, b⟩ h
  unfold cv
  simp only [e]; rfl
theorem cv_int {ca : Nat → ClassId} {lay : Nat → Nat → Nat} {σ : St} {K i : Nat} (hK : 20 ≤ K) (h : elT K < 3) : cv ca lay σ K i = .inl (ca (elT K), alen K, .inl (sA σ K i)) := by unfold cv; rw [if_neg (by omega), if_pos h]
theorem cv_long {ca : Nat → ClassId} {lay : Nat → Nat → Nat} {σ : St} {K i : Nat} (hK : 20 ≤ K) (h : elT K = 3) : cv ca lay σ K i = .inl (ca (elT K), alen K, .inr (.inl (sB σ K i))) := by unfold cv; rw [if_neg (by omega), if_neg (by omega), if_pos h]
theorem cv_ref {ca : Nat → ClassId} {lay : Nat → Nat → Nat} {σ : St} {K i : Nat} (hK : 20 ≤ K) (h : 4 ≤ elT K) : cv ca lay σ K i = .inl (ca (elT K), alen K, .inr (.inr (.inr (.inr (fun p => (sR σ K i p).map (lay (tk K))))))) := by unfold cv; rw [if_neg (by omega), if_neg (by omega), if_neg (by omega)]
theorem fv_A {lay : Nat → Nat → Nat} {σ σ' : St} (h1 : sF σ' = sF σ) (h2 : sJ σ' = sJ σ) (K i n : Nat) : fv lay σ' K i n = fv lay σ K i n := by unfold fv; rw [h1, h2]
theorem cv_oA {ca : Nat → ClassId} {lay : Nat → Nat → Nat} {σ σ' : St} {K i : Nat} (h1 : sF σ' = sF σ) (h2 : sJ σ' = sJ σ) (h3 : ∀ K' i', ¬ (K' = K ∧ i' = i) → sA σ' K' i' = sA σ K' i') (h4 : ∀ K' i', ¬ (K' = K ∧ i' = i) → sB σ' K' i' = sB σ K' i') (h5 : ∀ K' i', ¬ (K' = K ∧ i' = i) → sR σ' K' i' = sR σ K' i') (K' i' : Nat) (h : ¬ (K' = K ∧ i' = i)) : cv ca lay σ' K' i' = cv ca lay σ K' i' := by
  unfold cv
  simp only [fv_A h1 h2, h3 K' i' h, h4 K' i' h, h5 K' i' h]
theorem sA_setA {σ : St} {K i j : Nat} {x : Int32} : sA (setA σ K i j x) K i = upd (sA σ K i) j x := by
  funext k; simp [setA, sA, u3, upd]
theorem sA_setA_o {σ : St} {K i j : Nat} {x : Int32} (K' i' : Nat) (h : ¬ (K' = K ∧ i' = i)) : sA (setA σ K i j x) K' i' = sA σ K' i' := by
  funext k; simp only [setA, sA, u3]; rw [if_neg (fun z => h ⟨z.1, z.2.1⟩)]
theorem sB_setB {σ : St} {K i j : Nat} {x : Int64} : sB (setB σ K i j x) K i = vp_updL (sB σ K i) j x := by
  funext k; simp [setB, sB, u3, vp_updL]
theorem sB_setB_o {σ : St} {K i j : Nat} {x : Int64} (K' i' : Nat) (h : ¬ (K' = K ∧ i' = i)) : sB (setB σ K i j x) K' i' = sB σ K' i' := by
  funext k; simp only [setB, sB, u3]; rw [if_neg (fun z => h ⟨z.1, z.2.1⟩)]
theorem sR_setR_o {σ : St} {K i j : Nat} {x : Option Nat} (K' i' : Nat) (h : ¬ (K' = K ∧ i' = i)) : sR (setR σ K i j x) K' i' = sR σ K' i' := by
  funext k; simp only [setR, sR, u3]; rw [if_neg (fun z => h ⟨z.1, z.2.1⟩)]
section XR
variable {p : Program} {l : Launch} {e : Env} {R : Room} {s : State} {m : MethodId} {args : Array Value} {below : List Frame} {meth : Method} {c : Code} {H : Heap} {locs : List Loc} {cells slots : Nat} {Q : State → Prop}
variable {cc : ByteArray} {pc nL : Nat} {ls : Array Slot} {rest : List Value} {E : EC} {lay : Nat → Nat → Nat} {L : List (Nat × Nat)} {A : Nat → Prop} {σ : St} {owc : String}
theorem x_cell {K i : Nat} (hw : Wo E lay L A s σ H locs) (hm : (K, i) ∈ L) : ∃ k : Nat, L[k]? = some (K, i) ∧ (Wl E.2 lay L σ)[k]? = some (lay K i, cv E.2 lay σ K i) := Wl_get σ hm
theorem x_get (C : Cx p s m args c meth owc cc nL E A) (hw : Wo E lay L A s σ H locs) {K i j idx : Nat} {v : Value} (hm : (K, i) ∈ L) (hv : fv lay σ K i j = v) (hK : K < 12) (hj : j < nfl K) (h1 : ((clsT K).2.1 j).1 = (clsT K).1) (hl : Cond.fieldLink owc idx (clsT K).1 ((clsT K).2.1 j).2.1 ((clsT K).2.1 j).2.2.1 ∈ big) (hd : decode cc pc = .ok (.getfield idx, 3))
    (k : W p l e R s m args below meth c H locs cells slots Q (F0 m (pc + 3) ls (v :: rest))) : W p l e R s m args below meth c H locs cells slots Q (F0 m pc ls (.ref (lay K i) :: rest)) := by
  obtain ⟨q, -, hq⟩ := x_cell hw hm
  rw [cv_obj hK] at hq
  exact va_get C.1 C.2.1 C.2.2.2.2.1 (inK K hK) C.2.2.2.1 C.2.2.2.2.2.1 hw.1 q hq (cls_get K hK) j hj (C.2.2.2.2.1 _ hl) (fun x hx => by rw [← h1]; exact hx) (by rw [List.getElem?_map, List.getElem?_range hj]; exact congrArg some hv) hd k
theorem x_getN (C : Cx p s m args c meth owc cc nL E A) (hw : Wo E lay L A s σ H locs) {K i j idx : Nat} {host : String} {v : Value} (hm : (K, i) ∈ L) (hv : fv lay σ K i j = v) (hK : K < 12) (hj : j < nfl K) (h1 : ((clsT K).2.1 j).1 = (clsT K).1) (hl : Cond.fieldLinkNest owc idx (clsT K).1 ((clsT K).2.1 j).2.1 ((clsT K).2.1 j).2.2.1 host ∈ nstw) (hd : decode cc pc = .ok (.getfield idx, 3))
    (k : W p l e R s m args below meth c H locs cells slots Q (F0 m (pc + 3) ls (v :: rest))) : W p l e R s m args below meth c H locs cells slots Q (F0 m pc ls (.ref (lay K i) :: rest)) := by
  obtain ⟨q, -, hq⟩ := x_cell hw hm
  rw [cv_obj hK] at hq
  exact va_getN C.1 C.2.1 C.2.2.2.2.1 (inK K hK) C.2.2.2.1 C.2.2.2.2.2.1 hw.1 q hq (cls_get K hK) j hj (va_Nw.use rfl (C.2.2.2.2.2.2.2.2 _ hl)) (fun x hx => by rw [← h1]; exact hx) (by rw [List.getElem?_map, List.getElem?_range hj]; exact congrArg some hv) hd k
theorem x_wo {σ' : St} {K i k : Nat} {e : va_E} {H1 : Heap} {locs1 : List Loc} (hw : Wo E lay L A s σ H locs) (hk : L[k]? = some (K, i)) (he : cv E.2 lay σ' K i = e) (ho : ∀ K' i', ¬ (K' = K ∧ i' = i) → cv E.2 lay σ' K' i' = cv E.2 lay σ K' i') (hR : RC L σ') (hP : va_P E.1 cls ((Wl E.2 lay L σ).set k (lay K i, e)) H1) (hD : va_D A ((Wl E.2 lay L σ).set k (lay K i, e))) (hS : va_S A s.heap H1 locs1) : Wo E lay L A s σ' H1 locs1 := by
  rw [Wl_set hw.2.1 hk he ho] at hP hD
  exact ⟨hP, hD, hS, hw.2.2.2.1, hR⟩
theorem x_putI (C : Cx p s m args c meth owc cc nL E A) (hw : Wo E lay L A s σ H locs) {K i j idx : Nat} {x : Int32} {ty : FieldType} (hm : (K, i) ∈ L) (hf : ftp K j = 0) (hK : K < 12) (hj : j < nfl K) (h1 : ((clsT K).2.1 j).1 = (clsT K).1) (hfin : ((clsT K).2.1 j).2.2.2 = false) (hty : parseFieldDescriptor ((clsT K).2.1 j).2.2.1 = some ty) (hn : narrow ty (.int x) = .int x) (hfit : fits ty (.int x) = true) (hl : Cond.fieldLink owc idx (clsT K).1 ((clsT K).2.1 j).2.1 ((clsT K).2.1 j).2.2.1 ∈ big) (hd : decode cc pc = .ok (.putfield idx, 3))
    (k : ∀ (σ1 : St) (H1 : Heap) (locs1 : List Loc), σ1 = setF σ K i j x → Wo E lay L A s σ1 H1 locs1 → W p l e R s m args below meth c H1 locs1 cells slots Q (F0 m (pc + 3) ls rest)) : W p l e R s m args below meth c H locs cells slots Q (F0 m pc ls (.int x :: .ref (lay K i) :: rest)) := by
  obtain ⟨q, hq0, hq⟩ := x_cell hw hm
  rw [cv_obj hK] at hq
  exact va_put C.1 C.2.1 C.2.2.2.2.1 (inK K hK) (tyT K) (tyK K hK) (nmK K hK) C.2.2.2.1 C.2.2.2.2.2.1 hw.1 hw.2.1 hw.2.2.1 q hq (cls_get K hK) j hj (C.2.2.2.2.1 _ hl) (fun x hx => by rw [← h1]; exact hx) hfin hty hn hfit (by simpa using hj) hd
    (fun H1 locs1 hP hD hS => k _ H1 locs1 rfl (x_wo hw hq0 (cv_setF hK hf) cv_oF hw.2.2.2.2 hP hD hS))
theorem x_putIN (C : Cx p s m args c meth owc cc nL E A) (hw : Wo E lay L A s σ H locs) {K i j idx : Nat} {host : String} {x : Int32} {ty : FieldType} (hm : (K, i) ∈ L) (hf : ftp K j = 0) (hK : K < 12) (hj : j < nfl K) (h1 : ((clsT K).2.1 j).1 = (clsT K).1) (hfin : ((clsT K).2.1 j).2.2.2 = false) (hty : parseFieldDescriptor ((clsT K).2.1 j).2.2.1 = some ty) (hn : narrow ty (.int x) = .int x) (hfit : fits ty (.int x) = true) (hl : Cond.fieldLinkNest owc idx (clsT K).1 ((clsT K).2.1 j).2.1 ((clsT K).2.1 j).2.2.1 host ∈ nstw) (hd : decode cc pc = .ok (.putfield idx, 3))
    (k : ∀ (σ1 : St) (H1 : Heap) (locs1 : List Loc), σ1 = setF σ K i j x → Wo E lay L A s σ1 H1 locs1 → W p l e R s m args below meth c H1 locs1 cells slots Q (F0 m (pc + 3) ls rest)) : W p l e R s m args below meth c H locs cells slots Q (F0 m pc ls (.int x :: .ref (lay K i) :: rest)) := by
  obtain ⟨q, hq0, hq⟩ := x_cell hw hm
  rw [cv_obj hK] at hq
  exact va_putN C.1 C.2.1 C.2.2.2.2.1 (inK K hK) (tyT K) (tyK K hK) (nmK K hK) C.2.2.2.1 C.2.2.2.2.2.1 hw.1 hw.2.1 hw.2.2.1 q hq (cls_get K hK) j hj (va_Nw.use rfl (C.2.2.2.2.2.2.2.2 _ hl)) (fun x hx => by rw [← h1]; exact hx) hfin hty hn hfit (by simpa using hj) hd
    (fun H1 locs1 hP hD hS => k _ H1 locs1 rfl (x_wo hw hq0 (cv_setF hK hf) cv_oF hw.2.2.2.2 hP hD hS))
theorem x_putJ (C : Cx p s m args c meth owc cc nL E A) (hw : Wo E lay L A s σ H locs) {K i j idx : Nat} {x : Int64} (hm : (K, i) ∈ L) (hf : ftp K j = 1) (hK : K < 12) (hj : j < nfl K) (h1 : ((clsT K).2.1 j).1 = (clsT K).1) (hfin : ((clsT K).2.1 j).2.2.2 = false) (hty : parseFieldDescriptor ((clsT K).2.1 j).2.2.1 = some .long) (hl : Cond.fieldLink owc idx (clsT K).1 ((clsT K).2.1 j).2.1 ((clsT K).2.1 j).2.2.1 ∈ big) (hd : decode cc pc = .ok (.putfield idx, 3))
    (k : ∀ (σ1 : St) (H1 : Heap) (locs1 : List Loc), σ1 = setJ σ K i j x → Wo E lay L A s σ1 H1 locs1 → W p l e R s m args below meth c H1 locs1 cells slots Q (F0 m (pc + 3) ls rest)) : W p l e R s m args below meth c H locs cells slots Q (F0 m pc ls (.long x :: .ref (lay K i) :: rest)) := by
  obtain ⟨q, hq0, hq⟩ := x_cell hw hm
  rw [cv_obj hK] at hq
  exact va_put C.1 C.2.1 C.2.2.2.2.1 (inK K hK) (tyT K) (tyK K hK) (nmK K hK) C.2.2.2.1 C.2.2.2.2.2.1 hw.1 hw.2.1 hw.2.2.1 q hq (cls_get K hK) j hj (C.2.2.2.2.1 _ hl) (fun x hx => by rw [← h1]; exact hx) hfin hty rfl rfl (by simpa using hj) hd
    (fun H1 locs1 hP hD hS => k _ H1 locs1 rfl (x_wo hw hq0 (cv_setJ hK hf) cv_oJ hw.2.2.2.2 hP hD hS))
-- arrays
theorem x_iald (C : Cx p s m args c meth owc cc nL E A) (hw : Wo E lay L A s σ H locs) {K i : Nat} {x : Int32} (hm : (K, i) ∈ L) (hK : 20 ≤ K) (ht : elT K = 0) (hin : vp_in x (alen K)) (hd : decode cc pc = .ok (.iaload, 1))
    (k : W p l e R s m args below meth c H locs cells slots Q (F0 m (pc + 1) ls (.int (sA σ K i x.toNatClampNeg) :: rest))) : W p l e R s m args below meth c H locs cells slots Q (F0 m pc ls (.int x :: .ref (lay K i) :: rest)) := by
  obtain ⟨q, -, hq⟩ := x_cell hw hm
  rw [cv_int hK (by omega)] at hq
  exact va_iald C.1 C.2.1 C.2.2.2.2.2.1 hw.1 q 0 hq (by rw [ht]; rfl) hin hd k
theorem x_bald (C : Cx p s m args c meth owc cc nL E A) (hw : Wo E lay L A s σ H locs) {K i : Nat} {x : Int32} (hm : (K, i) ∈ L) (hK : 20 ≤ K) (ht : elT K = 1) (hin : vp_in x (alen K)) (hd : decode cc pc = .ok (.baload, 1))
    (k : W p l e R s m args below meth c H locs cells slots Q (F0 m (pc + 1) ls (.int (sA σ K i x.toNatClampNeg) :: rest))) : W p l e R s m args below meth c H locs cells slots Q (F0 m pc ls (.int x :: .ref (lay K i) :: rest)) := by
  obtain ⟨q, -, hq⟩ := x_cell hw hm
  rw [cv_int hK (by omega)] at hq
  exact va_bald C.1 C.2.1 C.2.2.2.2.2.1 hw.1 q 1 hq (by rw [ht]; rfl) hin hd k
theorem x_zald (C : Cx p s m args c meth owc cc nL E A) (hw : Wo E lay L A s σ H locs) {K i : Nat} {x : Int32} (hm : (K, i) ∈ L) (hK : 20 ≤ K) (ht : elT K = 2) (hin : vp_in x (alen K)) (hd : decode cc pc = .ok (.baload, 1))
    (k : W p l e R s m args below meth c H locs cells slots Q (F0 m (pc + 1) ls (.int (sA σ K i x.toNatClampNeg) :: rest))) : W p l e R s m args below meth c H locs cells slots Q (F0 m pc ls (.int x :: .ref (lay K i) :: rest)) := by
  obtain ⟨q, -, hq⟩ := x_cell hw hm
  rw [cv_int hK (by omega)] at hq
  exact va_zald C.1 C.2.1 C.2.2.2.2.2.1 hw.1 q 2 hq (by rw [ht]; rfl) hin hd k
theorem x_lald (C : Cx p s m args c meth owc cc nL E A) (hw : Wo E lay L A s σ H locs) {K i : Nat} {x : Int32} (hm : (K, i) ∈ L) (hK : 20 ≤ K) (ht : elT K = 3) (hin : vp_in x (alen K)) (hd : decode cc pc = .ok (.laload, 1))
    (k : W p l e R s m args below meth c H locs cells slots Q (F0 m (pc + 1) ls (.long (sB σ K i x.toNatClampNeg) :: rest))) : W p l e R s m args below meth c H locs cells slots Q (F0 m pc ls (.int x :: .ref (lay K i) :: rest)) := by
  obtain ⟨q, -, hq⟩ := x_cell hw hm
  rw [cv_long hK ht] at hq
  exact va_lald C.1 C.2.1 C.2.2.2.2.2.1 hw.1 q 3 hq (by rw [ht]; rfl) hin hd k
theorem x_aald (C : Cx p s m args c meth owc cc nL E A) (hw : Wo E lay L A s σ H locs) {K i t : Nat} {T : Nat} {x : Int32} {cn : String} (hm : (K, i) ∈ L) (hK : 20 ≤ K) (ht : elT K = t) (h4 : 4 ≤ t) (hcn : (tysOf E.2)[t]? = some (E.2 t, .object cn)) (hin : vp_in x (alen K)) (hT : tk K = T) (hd : decode cc pc = .ok (.aaload, 1))
    (k : W p l e R s m args below meth c H locs cells slots Q (F0 m (pc + 1) ls (rf lay T (sR σ K i x.toNatClampNeg) :: rest))) : W p l e R s m args below meth c H locs cells slots Q (F0 m pc ls (.int x :: .ref (lay K i) :: rest)) := by
  subst hT
  obtain ⟨q, -, hq⟩ := x_cell hw hm
  rw [cv_ref hK (by omega)] at hq
  exact va_aldq C.1 C.2.1 C.2.2.2.2.2.1 hw.1 q t hq (by rw [ht]; exact hcn) hin hd k
theorem x_aaldA (C : Cx p s m args c meth owc cc nL E A) (hw : Wo E lay L A s σ H locs) {K i : Nat} {T : Nat} {x : Int32} (hm : (K, i) ∈ L) (hK : 20 ≤ K) (ht : elT K = 8) (hin : vp_in x (alen K)) (hT : tk K = T) (hd : decode cc pc = .ok (.aaload, 1))
    (k : W p l e R s m args below meth c H locs cells slots Q (F0 m (pc + 1) ls (rf lay T (sR σ K i x.toNatClampNeg) :: rest))) : W p l e R s m args below meth c H locs cells slots Q (F0 m pc ls (.int x :: .ref (lay K i) :: rest)) := by
  subst hT
  obtain ⟨q, -, hq⟩ := x_cell hw hm
  rw [cv_ref hK (by omega)] at hq
  have hlt : x.toNatClampNeg < alen K := Nat.not_le.mp fun q => hin (Or.inr q)
  have hta : (tysOf E.2)[8]? = some (E.2 (elT K), .array .int) := by rw [ht]; rfl
  exact W.aald (v := rf lay (tk K) (sR σ K i x.toNatClampNeg)) (ty := .array .int) C.1 C.2.1 (hw.1 q _ hq) ((C.2.2.2.2.2.1.2 8 _ hta).1 (alen K) (fun j => va_rf ((sR σ K i j).map (lay (tk K))))) rfl (fun q => by cases q) (by show ¬ (x < 0 ∨ (arrV _ _ _).slots.size ≤ _); rw [arrV_size]; exact hin) (by show (arrV _ _ _).slots[_]? = _; rw [arrV_read _ _ hlt]; rfl) rfl rfl hd k
theorem x_alen (C : Cx p s m args c meth owc cc nL E A) (hw : Wo E lay L A s σ H locs) {K i : Nat} {v : Int32} (hm : (K, i) ∈ L) (hK : 20 ≤ K) (ht : elT K < 9) (hv : Int32.ofNat (alen K) = v) (hd : decode cc pc = .ok (.arraylength, 1))
    (k : W p l e R s m args below meth c H locs cells slots Q (F0 m (pc + 1) ls (.int v :: rest))) : W p l e R s m args below meth c H locs cells slots Q (F0 m pc ls (.ref (lay K i) :: rest)) := by
  obtain ⟨q, -, hq⟩ := x_cell hw hm
  have he : ∃ x : vp_A, cv E.2 lay σ K i = .inl (E.2 (elT K), x) ∧ x.1 = alen K := by
    by_cases h3 : elT K < 3
    · exact ⟨_, cv_int hK h3, rfl⟩
    · by_cases h4 : elT K = 3
      · exact ⟨_, cv_long hK h4, rfl⟩
      · exact ⟨_, cv_ref hK (by omega), rfl⟩
  obtain ⟨x, he, hx⟩ := he
  rw [he] at hq
  have hty : ∃ ty, (tysOf E.2)[elT K]? = some (E.2 (elT K), ty) := by
    generalize elT K = t at ht
    match t, ht with
    | 0, _ => exact ⟨_, rfl⟩
    | 1, _ => exact ⟨_, rfl⟩
    | 2, _ => exact ⟨_, rfl⟩
    | 3, _ => exact ⟨_, rfl⟩
    | 4, _ => exact ⟨_, rfl⟩
    | 5, _ => exact ⟨_, rfl⟩
    | 6, _ => exact ⟨_, rfl⟩
    | 7, _ => exact ⟨_, rfl⟩
    | 8, _ => exact ⟨_, rfl⟩
    | t + 9, h => omega
  obtain ⟨ty, hty⟩ := hty
  exact va_alen C.1 C.2.1 C.2.2.2.2.2.1 hw.1 q (elT K) hq hty (by rw [hx]; exact hv) hd k
theorem x_stA {σ' : St} {K i k : Nat} {f : Nat → Int32} {H1 : Heap} {locs1 : List Loc} (hw : Wo E lay L A s σ H locs) (hk : L[k]? = some (K, i)) (hK : 20 ≤ K) (ht : elT K < 3) (hF : sF σ' = sF σ) (hJ : sJ σ' = sJ σ) (hB : sB σ' = sB σ) (hR : sR σ' = sR σ) (hA : sA σ' K i = f) (hO : ∀ K' i', ¬ (K' = K ∧ i' = i) → sA σ' K' i' = sA σ K' i') (hP : va_P E.1 cls ((Wl E.2 lay L σ).set k (lay K i, .inl (E.2 (elT K), alen K, .inl f))) H1) (hD : va_D A ((Wl E.2 lay L σ).set k (lay K i, .inl (E.2 (elT K), alen K, .inl f)))) (hS : va_S A s.heap H1 locs1) : Wo E lay L A s σ' H1 locs1 :=
  x_wo hw hk (by rw [cv_int hK ht, hA]) (cv_oA hF hJ hO (fun _ _ _ => by rw [hB]) (fun _ _ _ => by rw [hR])) (by unfold RC; rw [hR]; exact hw.2.2.2.2) hP hD hS
theorem x_iast (C : Cx p s m args c meth owc cc nL E A) (hw : Wo E lay L A s σ H locs) {K i : Nat} {x y : Int32} (hm : (K, i) ∈ L) (hK : 20 ≤ K) (ht : elT K = 0) (hin : vp_in x (alen K)) (hd : decode cc pc = .ok (.iastore, 1))
    (k : ∀ (σ1 : St) (H1 : Heap) (locs1 : List Loc), σ1 = setA σ K i x.toNatClampNeg y → Wo E lay L A s σ1 H1 locs1 → W p l e R s m args below meth c H1 locs1 cells slots Q (F0 m (pc + 1) ls rest)) : W p l e R s m args below meth c H locs cells slots Q (F0 m pc ls (.int y :: .int x :: .ref (lay K i) :: rest)) := by
  obtain ⟨q, hq0, hq⟩ := x_cell hw hm
  rw [cv_int hK (by omega)] at hq
  exact va_iast C.1 C.2.1 C.2.2.2.2.2.1 hw.1 hw.2.1 hw.2.2.1 q 0 hq (by rw [ht]; rfl) hin hd (fun H1 locs1 hP hD hS => k _ H1 locs1 rfl (x_stA hw hq0 hK (by omega) rfl rfl rfl rfl sA_setA sA_setA_o hP hD hS))
theorem x_bast (C : Cx p s m args c meth owc cc nL E A) (hw : Wo E lay L A s σ H locs) {K i : Nat} {x y : Int32} (hm : (K, i) ∈ L) (hK : 20 ≤ K) (ht : elT K = 1) (hin : vp_in x (alen K)) (hd : decode cc pc = .ok (.bastore, 1))
    (k : ∀ (σ1 : St) (H1 : Heap) (locs1 : List Loc), σ1 = setA σ K i x.toNatClampNeg (vp_nar .byte y) → Wo E lay L A s σ1 H1 locs1 → W p l e R s m args below meth c H1 locs1 cells slots Q (F0 m (pc + 1) ls rest)) : W p l e R s m args below meth c H locs cells slots Q (F0 m pc ls (.int y :: .int x :: .ref (lay K i) :: rest)) := by
  obtain ⟨q, hq0, hq⟩ := x_cell hw hm
  rw [cv_int hK (by omega)] at hq
  exact va_bast C.1 C.2.1 C.2.2.2.2.2.1 hw.1 hw.2.1 hw.2.2.1 q 1 hq (by rw [ht]; rfl) hin hd (fun H1 locs1 hP hD hS => k _ H1 locs1 rfl (x_stA hw hq0 hK (by omega) rfl rfl rfl rfl sA_setA sA_setA_o hP hD hS))
theorem x_zast (C : Cx p s m args c meth owc cc nL E A) (hw : Wo E lay L A s σ H locs) {K i : Nat} {x y : Int32} (hm : (K, i) ∈ L) (hK : 20 ≤ K) (ht : elT K = 2) (hin : vp_in x (alen K)) (hd : decode cc pc = .ok (.bastore, 1))
    (k : ∀ (σ1 : St) (H1 : Heap) (locs1 : List Loc), σ1 = setA σ K i x.toNatClampNeg (vp_nar .boolean y) → Wo E lay L A s σ1 H1 locs1 → W p l e R s m args below meth c H1 locs1 cells slots Q (F0 m (pc + 1) ls rest)) : W p l e R s m args below meth c H locs cells slots Q (F0 m pc ls (.int y :: .int x :: .ref (lay K i) :: rest)) := by
  obtain ⟨q, hq0, hq⟩ := x_cell hw hm
  rw [cv_int hK (by omega)] at hq
  exact va_zast C.1 C.2.1 C.2.2.2.2.2.1 hw.1 hw.2.1 hw.2.2.1 q 2 hq (by rw [ht]; rfl) hin hd (fun H1 locs1 hP hD hS => k _ H1 locs1 rfl (x_stA hw hq0 hK (by omega) rfl rfl rfl rfl sA_setA sA_setA_o hP hD hS))
theorem x_last (C : Cx p s m args c meth owc cc nL E A) (hw : Wo E lay L A s σ H locs) {K i : Nat} {x : Int32} {y : Int64} (hm : (K, i) ∈ L) (hK : 20 ≤ K) (ht : elT K = 3) (hin : vp_in x (alen K)) (hd : decode cc pc = .ok (.lastore, 1))
    (k : ∀ (σ1 : St) (H1 : Heap) (locs1 : List Loc), σ1 = setB σ K i x.toNatClampNeg y → Wo E lay L A s σ1 H1 locs1 → W p l e R s m args below meth c H1 locs1 cells slots Q (F0 m (pc + 1) ls rest)) : W p l e R s m args below meth c H locs cells slots Q (F0 m pc ls (.long y :: .int x :: .ref (lay K i) :: rest)) := by
  obtain ⟨q, hq0, hq⟩ := x_cell hw hm
  rw [cv_long hK ht] at hq
  exact va_last C.1 C.2.1 C.2.2.2.2.2.1 hw.1 hw.2.1 hw.2.2.1 q 3 hq (by rw [ht]; rfl) hin hd (fun H1 locs1 hP hD hS => k _ H1 locs1 rfl (x_wo hw hq0 (by rw [cv_long hK ht, sB_setB]) (cv_oA rfl rfl (fun _ _ _ => rfl) sB_setB_o (fun _ _ _ => rfl)) hw.2.2.2.2 hP hD hS))
theorem x_aast (C : Cx p s m args c meth owc cc nL E A) (hw : Wo E lay L A s σ H locs) {K i t i2 : Nat} {x : Int32} (hm : (K, i) ∈ L) (hm2 : (tk K, i2) ∈ L) (hK : 20 ≤ K) (hK2 : tk K < 12) (ht : elT K = t) (h4 : 4 ≤ t) (hcn : (tysOf E.2)[t]? = some (E.2 t, .object (clsT (tk K)).1)) (hin : vp_in x (alen K)) (hd : decode cc pc = .ok (.aastore, 1))
    (k : ∀ (σ1 : St) (H1 : Heap) (locs1 : List Loc), σ1 = setR σ K i x.toNatClampNeg (some i2) → Wo E lay L A s σ1 H1 locs1 → W p l e R s m args below meth c H1 locs1 cells slots Q (F0 m (pc + 1) ls rest)) : W p l e R s m args below meth c H locs cells slots Q (F0 m pc ls (.ref (lay (tk K) i2) :: .int x :: .ref (lay K i) :: rest)) := by
  obtain ⟨q, hq0, hq⟩ := x_cell hw hm
  obtain ⟨q2, -, hq2⟩ := x_cell hw hm2
  rw [cv_ref hK (by omega)] at hq
  rw [cv_obj hK2] at hq2
  refine va_astq C.1 C.2.1 C.2.2.2.2.2.1 hw.1 hw.2.1 hw.2.2.1 q t q2 (tk K) hq (by rw [ht]; exact hcn) hq2 (cls_get _ hK2) hin hd (fun H1 locs1 hP hD hS => k _ H1 locs1 rfl (x_wo hw hq0 ?_ (cv_oA rfl rfl (fun _ _ _ => rfl) (fun _ _ _ => rfl) sR_setR_o) ?_ hP hD hS))
  · rw [cv_ref hK (by omega)]
    refine congrArg (fun z : Nat → Option Nat => (Sum.inl (E.2 (elT K), alen K, Sum.inr (Sum.inr (Sum.inr (Sum.inr z)))) : va_E)) (funext fun n => ?_)
    show (sR (setR σ K i x.toNatClampNeg (some i2)) K i n).map (lay (tk K)) = va_up (fun p => (sR σ K i p).map (lay (tk K))) x.toNatClampNeg (some (lay (tk K) i2)) n
    by_cases hn : n = x.toNatClampNeg
    · subst hn; simp [setR, sR, u3, va_up]
    · simp [setR, sR, u3, va_up, hn]
  · intro K' j' p' i' h
    simp only [setR, sR, u3] at h
    split at h
    · rename_i z
      cases h
      rw [z.1]; exact hm2
    · exact hw.2.2.2.2 K' j' p' i' h
-- ends
theorem x_bd (C : Cx p s m args c meth owc cc nL E A) (hw : Wo E lay L A s σ H locs) {t : State} (ht : t.heap = H) (hW : s.WarmedH t.vm) : Bd E lay L A σ t ∧ va_F A s t := ⟨⟨by rw [ht]; exact hw.1, va_K.moved hW.alike C.2.2.2.2.2.1, hw.2.1, hw.2.2.2.1, hw.2.2.2.2⟩, hw.2.2.1.F ht⟩
theorem x_iret {Qp : Int32 → St → Prop} {v : Int32} (C : Cx p s m args c meth owc cc nL E A) (hr : meth.sig.returnType = some .int) (hw : Wo E lay L A s σ H locs) (hf : Qp v σ) (hd : decode cc pc = .ok (.ireturn, 1)) : W p l e R s m args below meth c H locs 0 0 (MQ below (va_Qi Qp (Bd E lay L A) A) args s 0 0 A) (F0 m pc ls [.int v]) :=
  W.iret (v := v) C.1 C.2.1 hr (fun t ht hW => ⟨⟨v, σ, rfl, hf, (x_bd C hw ht hW).1⟩, (x_bd C hw ht hW).2⟩) hw.2.2.1.2.2 hd C.2.2.2.2.2.2.2.1
theorem x_zret {Qp : Int32 → St → Prop} {v : Int32} (C : Cx p s m args c meth owc cc nL E A) (hr : meth.sig.returnType = some .boolean) (hn : narrow .boolean (.int v) = .int v) (hw : Wo E lay L A s σ H locs) (hf : Qp v σ) (hd : decode cc pc = .ok (.ireturn, 1)) : W p l e R s m args below meth c H locs 0 0 (MQ below (va_Qi Qp (Bd E lay L A) A) args s 0 0 A) (F0 m pc ls [.int v]) :=
  W.zret (v := v) C.1 C.2.1 hr hn (fun t ht hW => ⟨⟨v, σ, rfl, hf, (x_bd C hw ht hW).1⟩, (x_bd C hw ht hW).2⟩) hw.2.2.1.2.2 hd C.2.2.2.2.2.2.2.1
theorem x_vret {Qp : St → Prop} (C : Cx p s m args c meth owc cc nL E A) (hr : meth.sig.returnType = none) (hw : Wo E lay L A s σ H locs) (hf : Qp σ) (hd : decode cc pc = .ok (.return_, 1)) : W p l e R s m args below meth c H locs 0 0 (MQ below (va_Qv Qp (Bd E lay L A) A) args s 0 0 A) (F0 m pc ls []) :=
  W.vret C.1 C.2.1 hr (fun t ht hW => ⟨⟨σ, rfl, hf, (x_bd C hw ht hW).1⟩, (x_bd C hw ht hW).2⟩) hw.2.2.1.2.2 hd C.2.2.2.2.2.2.2.1
theorem x_lret {Qp : Int64 → St → Prop} {v : Int64} (C : Cx p s m args c meth owc cc nL E A) (hr : meth.sig.returnType = some .long) (hw : Wo E lay L A s σ H locs) (hf : Qp v σ) (hd : decode cc pc = .ok (.lreturn, 1)) : W p l e R s m args below meth c H locs 0 0 (MQ below (va_Ql Qp (Bd E lay L A) A) args s 0 0 A) (F0 m pc ls [.long v]) :=
  W.lret (v := v) C.1 C.2.1 hr (fun t ht hW => ⟨⟨v, σ, rfl, hf, (x_bd C hw ht hW).1⟩, (x_bd C hw ht hW).2⟩) hw.2.2.1.2.2 hd C.2.2.2.2.2.2.2.1
def Qo (lay : Nat → Nat → Nat) (L : List (Nat × Nat)) (K : Nat) (Qp : Option Nat → St → Prop) : Option Nat → St → Prop := fun a u => ∃ r : Option Nat, a = r.map (lay K) ∧ Qp r u ∧ ∀ i, r = some i → (K, i) ∈ L
theorem x_aret {Qp : Option Nat → St → Prop} {K : Nat} {r : Option Nat} {v : Value} {nm : String} (C : Cx p s m args c meth owc cc nL E A) (hr : meth.sig.returnType = some (.object nm)) (hw : Wo E lay L A s σ H locs) (hv : v = rf lay K r) (hm : ∀ i, r = some i → (K, i) ∈ L) (hf : Qp r σ) (hd : decode cc pc = .ok (.areturn, 1)) : W p l e R s m args below meth c H locs 0 0 (MQ below (va_Qq (Qo lay L K Qp) (Bd E lay L A) A) args s 0 0 A) (F0 m pc ls [v]) := by
  subst hv
  exact W.aret (v := rf lay K r) C.1 C.2.1 hr (Or.inl ⟨nm, rfl⟩) (va_rf_or _) (fun t ht hW => ⟨⟨_, σ, rfl, ⟨r, rfl, hf, hm⟩, (x_bd C hw ht hW).1⟩, (x_bd C hw ht hW).2⟩) hw.2.2.1.2.2 hd C.2.2.2.2.2.2.2.1
-- entry
theorem x_met {y : MethodName} {maxL : Nat} {ret : Option FieldType} {rm : Room} {As : List Value} {Qc : Array Value → State → Outcome → State → Prop} (hy : plainName y.cls = true) (hsl : (lg_sl As).length ≤ maxL)
    (body : ∀ (p : Program) (e : Env) (s : State) (m : MethodId) (args : Array Value) (below : List Frame) (meth : Method) (c : Code) (ls : Array Slot), Cx p s m args c meth y.cls cc maxL E A → meth.sig.returnType = ret → Wo E lay L A s σ s.heap [] → lv_has ls maxL (lv_args 0 As) → W p l e rm s m args below meth c s.heap [] 0 0 (MQ below Qc args s 0 0 A) (F0 m 0 ls [])) : Met l y (.code y cc maxL ret :: big) rm (va_Pc As (Bp E lay L A σ)) Qc 0 0 A := by
  refine Met.ofW (cc := cc) (maxL := maxL) (ret := ret) hy rfl ?_
  intro p e s m args below meth c s₁ B hml hv
  obtain ⟨rfl, hA, hN, hP, hK, hD, hC, hR⟩ := hv
  have hts := atoms_spec (ws := .code y cc maxL ret :: big) B.pre
  rw [lg_entry_eq]
  exact body p e s m _ below meth c _ ⟨B.exec, B.bytes, hml, findClass_of_methodNamed B.named, fun w hw => hts w (List.mem_cons_of_mem _ hw), hK, hA, B.notSynchronized, hN⟩ B.returns ⟨hP, hD, va_S.rf, hC, hR⟩ (lv_entry As hsl)
-- calls
theorem x_gw {own Cn : String} {idx : Nat} {y : MethodName} {bytes : ByteArray} {maxL : Nat} {ret : Option FieldType} (h1 : Cond.methodLink own idx y ∈ big) (h2 : Cond.instanceMethod y ∈ big) (h3 : Cond.selects Cn y y ∈ big) (h4 : Cond.initialized Cn ∈ big) (h5 : Cond.code y bytes maxL ret ∈ big) : GoodIn big (wsV own idx Cn y (.code y bytes maxL ret :: big)) := by
  intro w hw
  refine tbl_good w ?_
  unfold wsV at hw
  rcases List.mem_append.mp hw with hw | hw
  · simp only [List.mem_cons, List.not_mem_nil, or_false] at hw
    rcases hw with rfl | rfl | rfl | rfl <;> assumption
  · rcases List.mem_cons.mp hw with rfl | hw
    · exact h5
    · exact hw
theorem x_gs {own : String} {idx : Nat} {y : MethodName} {bytes : ByteArray} {maxL : Nat} {ret : Option FieldType} (h1 : Cond.methodLink own idx y ∈ big) (h2 : Cond.static y ∈ big) (h4 : Cond.initialized own ∈ big) (h5 : Cond.code y bytes maxL ret ∈ big) : GoodIn big (wsS own idx y (.code y bytes maxL ret :: big)) := by
  intro w hw
  refine tbl_good w ?_
  unfold wsS at hw
  rcases List.mem_append.mp hw with hw | hw
  · simp only [List.mem_cons, List.not_mem_nil, or_false] at hw
    rcases hw with rfl | rfl | rfl <;> assumption
  · rcases List.mem_cons.mp hw with rfl | hw
    · exact h5
    · exact hw
theorem x_gc {y : MethodName} {bytes : ByteArray} {maxL : Nat} {ret : Option FieldType} (h5 : Cond.code y bytes maxL ret ∈ big) : GoodIn big (.code y bytes maxL ret :: big) := by
  intro w hw
  refine tbl_good w ?_
  rcases List.mem_cons.mp hw with rfl | hw
  · exact h5
  · exact hw
theorem x_pre (C : Cx p s m args c meth owc cc nL E A) (hw : Wo E lay L A s σ H locs) {As : List Value} : ∀ U : State, U.heap = H → s.WarmedH U.vm → va_Pc As (Bp E lay L A σ) As.toArray U := fun U hU hW => ⟨rfl, fun q hq => C.2.2.2.2.2.2.1 q (Nat.le_trans hw.2.2.1.1 (by rw [hU] at hq; exact hq)), C.2.2.2.2.2.2.2.2.warm hW, by rw [hU]; exact hw.1, va_K.moved hW.alike C.2.2.2.2.2.1, hw.2.1, hw.2.2.2.1, hw.2.2.2.2⟩
theorem x_preV (C : Cx p s m args c meth owc cc nL E A) (hw : Wo E lay L A s σ H locs) {As : List Value} {K i : Nat} (hm : (K, i) ∈ L) (hK : K < 12) : PreV s H (clsT K).1 (lay K i) (va_Pc (.ref (lay K i) :: As) (Bp E lay L A σ)) As := by
  obtain ⟨q, -, hq⟩ := x_cell hw hm
  rw [cv_obj hK] at hq
  exact ⟨Bp_blind, va_recv C.2.2.2.2.2.1 hw.1 (cls_get K hK) hq, x_pre C hw⟩
theorem x_wo2 {σ1 : St} {H1 : Heap} {locs1 : List Loc} {t : State} (ht : t.heap = H1) (hb : Bd E lay L A σ1 t) (hS : va_S A s.heap H1 locs1) : Wo E lay L A s σ1 H1 locs1 := ⟨by rw [← ht]; exact hb.1, hb.2.2.1, hS, hb.2.2.2.1, hb.2.2.2.2⟩
theorem x_runi {st0 : List Value} {aa : Array Value} {Qp : Int32 → St → Prop} (hw : Wo E lay L A s σ H locs) (hr : va_Run p l e R s m args below meth c H locs 0 0 0 0 (F0 m pc ls st0) rest (va_Qi Qp (Bd E lay L A) A aa) A)
    (k : ∀ (r : Int32) (σ1 : St) (H1 : Heap) (locs1 : List Loc), Qp r σ1 → Wo E lay L A s σ1 H1 locs1 → W p l e R s m args below meth c H1 locs1 0 0 Q (F0 m (pc + 3) ls (.int r :: rest))) : W p l e R s m args below meth c H locs 0 0 Q (F0 m pc ls st0) :=
  va_calli hr hw.2.2.1 (fun q _ h => h) (fun q h => h) (fun r u t H1 locs1 ht hvm hq hb hz hk hS => k r u H1 locs1 hq (x_wo2 ht hb hS))
theorem x_runl {st0 : List Value} {aa : Array Value} {Qp : Int64 → St → Prop} (hw : Wo E lay L A s σ H locs) (hr : va_Run p l e R s m args below meth c H locs 0 0 0 0 (F0 m pc ls st0) rest (va_Ql Qp (Bd E lay L A) A aa) A)
    (k : ∀ (r : Int64) (σ1 : St) (H1 : Heap) (locs1 : List Loc), Qp r σ1 → Wo E lay L A s σ1 H1 locs1 → W p l e R s m args below meth c H1 locs1 0 0 Q (F0 m (pc + 3) ls (.long r :: rest))) : W p l e R s m args below meth c H locs 0 0 Q (F0 m pc ls st0) :=
  va_calll hr hw.2.2.1 (fun q _ h => h) (fun q h => h) (fun r u t H1 locs1 ht hvm hq hb hz hk hS => k r u H1 locs1 hq (x_wo2 ht hb hS))
theorem x_runv {st0 : List Value} {aa : Array Value} {Qp : St → Prop} (hw : Wo E lay L A s σ H locs) (hr : va_Run p l e R s m args below meth c H locs 0 0 0 0 (F0 m pc ls st0) rest (va_Qv Qp (Bd E lay L A) A aa) A)
    (k : ∀ (σ1 : St) (H1 : Heap) (locs1 : List Loc), Qp σ1 → Wo E lay L A s σ1 H1 locs1 → W p l e R s m args below meth c H1 locs1 0 0 Q (F0 m (pc + 3) ls rest)) : W p l e R s m args below meth c H locs 0 0 Q (F0 m pc ls st0) :=
  va_callv hr hw.2.2.1 (fun q _ h => h) (fun q h => h) (fun u t H1 locs1 ht hvm hq hb hz hk hS => k u H1 locs1 hq (x_wo2 ht hb hS))
theorem x_runq {st0 : List Value} {aa : Array Value} {K : Nat} {Qp : Option Nat → St → Prop} (hw : Wo E lay L A s σ H locs) (hr : va_Run p l e R s m args below meth c H locs 0 0 0 0 (F0 m pc ls st0) rest (va_Qq (Qo lay L K Qp) (Bd E lay L A) A aa) A)
    (k : ∀ (r : Option Nat) (σ1 : St) (H1 : Heap) (locs1 : List Loc), Qp r σ1 → (∀ i, r = some i → (K, i) ∈ L) → Wo E lay L A s σ1 H1 locs1 → W p l e R s m args below meth c H1 locs1 0 0 Q (F0 m (pc + 3) ls (rf lay K r :: rest))) : W p l e R s m args below meth c H locs 0 0 Q (F0 m pc ls st0) :=
  va_callq hr hw.2.2.1 (fun q _ h => h) (fun q h => h) (fun a u t H1 locs1 ht hvm hq hb hz hk hS => by
    obtain ⟨r, rfl, h1, h2⟩ := hq
    exact k r u H1 locs1 h1 h2 (x_wo2 ht hb hS))
theorem x_V (C : Cx p s m args c meth owc cc nL E A) (hw : Wo E lay L A s σ H locs) {K i idx n maxL : Nat} {y : MethodName} {bytes : ByteArray} {ret : Option FieldType} {rm : Room} {As st0 : List Value} {Qc : Array Value → State → Outcome → State → Prop} (hm : (K, i) ∈ L) (hK : K < 12) (hM : Met l y (.code y bytes maxL ret :: big) rm (va_Pc (.ref (lay K i) :: As) (Bp E lay L A σ)) Qc 0 0 A)
    (h1 : Cond.methodLink owc idx y ∈ big) (h2 : Cond.instanceMethod y ∈ big) (h3 : Cond.selects (clsT K).1 y y ∈ big) (h4 : Cond.initialized (clsT K).1 ∈ big) (h5 : Cond.code y bytes maxL ret ∈ big) (hrc : rm.cells = 0) (hrs : rm.slots = 0) (hy : y.cls = (clsT K).1 ∧ y.cls ≠ "java/lang/invoke/MethodHandle" ∧ y.cls ≠ "java/lang/invoke/VarHandle" ∧ (parseMethodDescriptor y.desc).map (fun d => d.parameters.length) = some n) (hR : rm.frames + 1 ≤ R.frames ∧ 8 + (maxL + 11) + rm.locals ≤ R.locals)
    (hn : As.length = n) (hls : ls.size = nL) (hst : st0 = As.reverse ++ .ref (lay K i) :: rest) (hroom : (rest.map fun v => v.category).sum ≤ 8) (hd : decode cc pc = .ok (.invokevirtual idx, 3)) : va_Run p l e R s m args below meth c H locs 0 0 0 0 (F0 m pc ls st0) rest (Qc (Value.ref (lay K i) :: As).toArray) A :=
  va_runV (As := As) (rest := rest) ⟨C.1, C.2.1, C.2.2.1, C.2.2.2.1, C.2.2.2.2.1⟩ hM (cwV n C.2.2.2.2.1 (x_gw h1 h2 h3 h4 h5) rfl hrc hrs hy hR) (x_preV C hw hm hK) rfl hn hls hst (lv_room hroom) hd ⟨Nat.zero_le _, Nat.zero_le _⟩
theorem x_VN (C : Cx p s m args c meth owc cc nL E A) (hw : Wo E lay L A s σ H locs) {K i idx n maxL : Nat} {host : String} {y : MethodName} {bytes : ByteArray} {ret : Option FieldType} {rm : Room} {As st0 : List Value} {Qc : Array Value → State → Outcome → State → Prop} (hm : (K, i) ∈ L) (hK : K < 12) (hM : Met l y (.code y bytes maxL ret :: big) rm (va_Pc (.ref (lay K i) :: As) (Bp E lay L A σ)) Qc 0 0 A)
    (h1 : Cond.methodLinkNest owc idx y host ∈ nstw) (h2 : Cond.instanceMethod y ∈ big) (h3 : Cond.selects (clsT K).1 y y ∈ big) (h4 : Cond.initialized y.cls ∈ big) (h5 : Cond.code y bytes maxL ret ∈ big) (hrc : rm.cells = 0) (hrs : rm.slots = 0) (hy : y.cls ≠ "java/lang/invoke/MethodHandle" ∧ y.cls ≠ "java/lang/invoke/VarHandle" ∧ (parseMethodDescriptor y.desc).map (fun d => d.parameters.length) = some n) (hR : rm.frames + 1 ≤ R.frames ∧ 8 + (maxL + 11) + rm.locals ≤ R.locals)
    (hn : As.length = n) (hls : ls.size = nL) (hst : st0 = As.reverse ++ .ref (lay K i) :: rest) (hroom : (rest.map fun v => v.category).sum ≤ 8) (hd : decode cc pc = .ok (.invokevirtual idx, 3)) : va_Run p l e R s m args below meth c H locs 0 0 0 0 (F0 m pc ls st0) rest (Qc (Value.ref (lay K i) :: As).toArray) A :=
  va_runVN (As := As) (rest := rest) ⟨C.1, C.2.1, C.2.2.1, C.2.2.2.1, C.2.2.2.2.1⟩ hM ⟨va_cnB n C.2.2.2.2.1 (x_gc h5) rfl hrc hrs (C.2.2.2.2.2.2.2.2 _ h1) (C.2.2.2.2.1 _ h4) hy hR, C.2.2.2.2.1 _ h2, C.2.2.2.2.1 _ h3⟩ (x_preV C hw hm hK) rfl hn hls hst (lv_room hroom) hd ⟨Nat.zero_le _, Nat.zero_le _⟩
theorem x_S (C : Cx p s m args c meth owc cc nL E A) (hw : Wo E lay L A s σ H locs) {idx n maxL : Nat} {y : MethodName} {bytes : ByteArray} {ret : Option FieldType} {rm : Room} {As st0 : List Value} {Qc : Array Value → State → Outcome → State → Prop} (hM : Met l y (.code y bytes maxL ret :: big) rm (va_Pc As (Bp E lay L A σ)) Qc 0 0 A)
    (h1 : Cond.methodLink owc idx y ∈ big) (h2 : Cond.static y ∈ big) (h4 : Cond.initialized owc ∈ big) (h5 : Cond.code y bytes maxL ret ∈ big) (hrc : rm.cells = 0) (hrs : rm.slots = 0) (hy : y.cls = owc ∧ y.cls ≠ "java/lang/invoke/MethodHandle" ∧ y.cls ≠ "java/lang/invoke/VarHandle" ∧ (parseMethodDescriptor y.desc).map (fun d => d.parameters.length) = some n) (hR : rm.frames + 1 ≤ R.frames ∧ 8 + (maxL + 11) + rm.locals ≤ R.locals)
    (hn : As.length = n) (hls : ls.size = nL) (hst : st0 = As.reverse ++ rest) (hroom : (rest.map fun v => v.category).sum ≤ 8) (hd : decode cc pc = .ok (.invokestatic idx, 3)) : va_Run p l e R s m args below meth c H locs 0 0 0 0 (F0 m pc ls st0) rest (Qc As.toArray) A :=
  va_runS (As := As) (rest := rest) ⟨C.1, C.2.1, C.2.2.1, C.2.2.2.1, C.2.2.2.2.1⟩ hM (cwS n C.2.2.2.2.1 (x_gs h1 h2 h4 h5) rfl hrc hrs hy hR) ⟨Bp_blind, x_pre C hw⟩ rfl hn hls hst (lv_room hroom) hd ⟨Nat.zero_le _, Nat.zero_le _⟩
theorem x_SN (C : Cx p s m args c meth owc cc nL E A) (hw : Wo E lay L A s σ H locs) {idx n maxL : Nat} {host : String} {y : MethodName} {bytes : ByteArray} {ret : Option FieldType} {rm : Room} {As st0 : List Value} {Qc : Array Value → State → Outcome → State → Prop} (hM : Met l y (.code y bytes maxL ret :: big) rm (va_Pc As (Bp E lay L A σ)) Qc 0 0 A)
    (h1 : Cond.methodLinkNest owc idx y host ∈ nstw) (h2 : Cond.static y ∈ big) (h4 : Cond.initialized y.cls ∈ big) (h5 : Cond.code y bytes maxL ret ∈ big) (hrc : rm.cells = 0) (hrs : rm.slots = 0) (hy : y.cls ≠ "java/lang/invoke/MethodHandle" ∧ y.cls ≠ "java/lang/invoke/VarHandle" ∧ (parseMethodDescriptor y.desc).map (fun d => d.parameters.length) = some n) (hR : rm.frames + 1 ≤ R.frames ∧ 8 + (maxL + 11) + rm.locals ≤ R.locals)
    (hn : As.length = n) (hls : ls.size = nL) (hst : st0 = As.reverse ++ rest) (hroom : (rest.map fun v => v.category).sum ≤ 8) (hd : decode cc pc = .ok (.invokestatic idx, 3)) : va_Run p l e R s m args below meth c H locs 0 0 0 0 (F0 m pc ls st0) rest (Qc As.toArray) A :=
  va_runSN (As := As) (rest := rest) ⟨C.1, C.2.1, C.2.2.1, C.2.2.2.1, C.2.2.2.2.1⟩ hM ⟨va_cnB n C.2.2.2.2.1 (x_gc h5) rfl hrc hrs (C.2.2.2.2.2.2.2.2 _ h1) (C.2.2.2.2.1 _ h4) hy hR, C.2.2.2.2.1 _ h2, trivial⟩ ⟨Bp_blind, x_pre C hw⟩ rfl hn hls hst (lv_room hroom) hd ⟨Nat.zero_le _, Nat.zero_le _⟩
end XR
