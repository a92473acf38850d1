theorem aoa_ra {s : State} (h : va_AOA .int s) : ∃ cA : ClassId, ArrOfT s cA (.array .int) ∧ va_RA s cA (.array .int) := by
  obtain ⟨comp, c, k, h1, h2, h3, h4⟩ := Cond.arrayOver_specA h
  exact ⟨c, fun n z => ⟨fun k h => (by cases h), k, h2, comp, h3⟩, h4⟩
set_option maxHeartbeats 40000000 in
set_option maxRecDepth 100000 in
/-- from the law's entry, over the pure steps -/
theorem start_open {p : Program} {e : Env} {s : State} {m : MethodId} {below : List Frame} {meth : Method} {c : Code} {N : Nat} {I : St → List (Nat × Nat) → Prop} (hS : Steps N I) (h0 : I σ00 L00) (l : Launch) {b L : Nat} {xs : Nat → Int32} (hL : L ≤ 3072) (C0 : lw_At p s m meth c b L xs) : W p l e room_1 s m #[Value.ref b] below meth c s.heap [] 0 0 (lw_Z below #[Value.ref b] s) (entryFrame m ([Value.ref b] : List Value).toArray 4) := by
  obtain ⟨hx, hb, hr, hml, hown, hts, hX, hbl, hlocks, hgv⟩ := id C0
  have htb : ∀ w ∈ big, w.before #[Value.ref b] s = true := fun w hw => hts w (List.mem_filter.mp hw).1
  have hN : Nst s := fun w hw => va_Nw.of (nest_tab (List.mem_filter.mp hw).2) (hts w (List.mem_filter.mp hw).1)
  have hAo : Aos s := ⟨va_AO.of (hts _ (List.mem_of_getElem? (i := 67) (by decide +kernel : lw_tbl[67]? = some (.arrayOver (.object "WhoseHand$Sheet"))))), va_AO.of (hts _ (List.mem_of_getElem? (i := 69) (by decide +kernel : lw_tbl[69]? = some (.arrayOver (.object "WhoseHand$Text"))))), va_AO.of (hts _ (List.mem_of_getElem? (i := 77) (by decide +kernel : lw_tbl[77]? = some (.arrayOver (.object "WhoseHand$Feature"))))), va_AO.of (hts _ (List.mem_of_getElem? (i := 172) (by decide +kernel : lw_tbl[172]? = some (.arrayOver (.object "WhoseHand$Tally"))))), (show (Cond.arrayOver (.array .int)).before #[] s = true from hts _ (List.mem_of_getElem? (i := 101) (by decide +kernel : lw_tbl[101]? = some (.arrayOver (.array .int)))))⟩
  obtain ⟨c0, iS0, hKn0⟩ := u_known (C := RX0) (T := TX0) (N := 4) (n := 4) htb in0 (htb _ q490)
  obtain ⟨c1, iS1, hKn1⟩ := u_known (C := RX1) (T := TX1) (N := 3) (n := 3) htb in1 (htb _ q95)
  obtain ⟨c2, iS2, hKn2⟩ := u_known (C := RX2) (T := TX2) (N := 4) (n := 4) htb in2 (htb _ q71)
  obtain ⟨c3, iS3, hKn3⟩ := u_known (C := RX3) (T := TX3) (N := 8) (n := 8) htb in3 (htb _ q132)
  obtain ⟨c4, iS4, hKn4⟩ := u_known (C := RX4) (T := TX4) (N := 8) (n := 8) htb in4 (htb _ q236)
  obtain ⟨c5, iS5, hKn5⟩ := u_known (C := RX5) (T := TX5) (N := 2) (n := 2) htb in5 (htb _ q276)
  obtain ⟨c6, iS6, hKn6⟩ := u_known (C := RX6) (T := TX6) (N := 10) (n := 10) htb in6 (htb _ q198)
  obtain ⟨c7, iS7, hKn7⟩ := u_known (C := RX7) (T := TX7) (N := 3) (n := 3) htb in7 (htb _ q103)
  obtain ⟨c8, iS8, hKn8⟩ := u_known (C := RX8) (T := TX8) (N := 6) (n := 6) htb in8 (htb _ q395)
  obtain ⟨c9, iS9, hKn9⟩ := u_known (C := RX9) (T := TX9) (N := 7) (n := 7) htb in9 (htb _ q166)
  obtain ⟨c10, iS10, hKn10⟩ := u_known (C := RX10) (T := TX10) (N := 14) (n := 14) htb in10 (htb _ q59)
  obtain ⟨c11, iS11, hKn11⟩ := u_known (C := RX11) (T := TX11) (N := 32) (n := 32) htb in11 (htb _ q875)
  obtain ⟨a0, hr0⟩ := ac_ra (ty := .int) (fun C h => by cases h) (htb _ q120)
  obtain ⟨a1, hr1⟩ := ac_ra (ty := .byte) (fun C h => by cases h) (htb _ q275)
  obtain ⟨a2, hr2⟩ := ac_ra (ty := .boolean) (fun C h => by cases h) (htb _ q93)
  obtain ⟨a3, hr3⟩ := ac_ra (ty := .long) (fun C h => by cases h) (htb _ q164)
  obtain ⟨a4, hr4⟩ := ao_ra (C := "WhoseHand$Sheet") (args := #[]) hAo.1
  obtain ⟨a5, hr5⟩ := ao_ra (C := "WhoseHand$Text") (args := #[]) hAo.2.1
  obtain ⟨a6, hr6⟩ := ao_ra (C := "WhoseHand$Feature") (args := #[]) hAo.2.2.1
  obtain ⟨a7, hr7⟩ := ao_ra (C := "WhoseHand$Tally") (args := #[]) hAo.2.2.2.1
  obtain ⟨a8, hr8⟩ : ∃ cA : ClassId, ArrOfT s cA (.array .int) ∧ va_RA s cA (.array .int) := aoa_ra hAo.2.2.2.2
  let E : EC := ((fun k => match k with | 0 => c0 | 1 => c1 | 2 => c2 | 3 => c3 | 4 => c4 | 5 => c5 | 6 => c6 | 7 => c7 | 8 => c8 | 9 => c9 | 10 => c10 | _ => c11, fun k => match k with | 0 => iS0 | 1 => iS1 | 2 => iS2 | 3 => iS3 | 4 => iS4 | 5 => iS5 | 6 => iS6 | 7 => iS7 | 8 => iS8 | 9 => iS9 | 10 => iS10 | _ => iS11), fun k => match k with | 0 => a0 | 1 => a1 | 2 => a2 | 3 => a3 | 4 => a4 | 5 => a5 | 6 => a6 | 7 => a7 | _ => a8)
  have hK : va_K E.1 cls (tysOf E.2) s := by
    refine ⟨fun k q hq => ?_, fun k q hq => ?_⟩
    · match k, hq with
      | 0, hq => cases hq; exact hKn0
      | 1, hq => cases hq; exact hKn1
      | 2, hq => cases hq; exact hKn2
      | 3, hq => cases hq; exact hKn3
      | 4, hq => cases hq; exact hKn4
      | 5, hq => cases hq; exact hKn5
      | 6, hq => cases hq; exact hKn6
      | 7, hq => cases hq; exact hKn7
      | 8, hq => cases hq; exact hKn8
      | 9, hq => cases hq; exact hKn9
      | 10, hq => cases hq; exact hKn10
      | 11, hq => cases hq; exact hKn11
      | k + 12, hq => simp [cls] at hq
    · match k, hq with
      | 0, hq => cases hq; exact hr0
      | 1, hq => cases hq; exact hr1
      | 2, hq => cases hq; exact hr2
      | 3, hq => cases hq; exact hr3
      | 4, hq => cases hq; exact hr4
      | 5, hq => cases hq; exact hr5
      | 6, hq => cases hq; exact hr6
      | 7, hq => cases hq; exact hr7
      | 8, hq => cases hq; exact hr8
      | k + 9, hq => simp [tysOf] at hq
  clear_value E
  have hA : ∀ q : Nat, s.heap.size ≤ q → (fun q : Nat => s.heap.size ≤ q) q := fun _ h => h
  have C : Cx p s m #[Value.ref b] c meth RL cL_law 4 E (fun q : Nat => s.heap.size ≤ q) := ⟨hx, hb, hml, hown, htb, hK, hA, hlocks, hN⟩
  have IX : Ix p s m #[Value.ref b] c meth RL cL_law 4 E := ⟨hx, hb, hml, hown, htb, hK, hAo, hN, hlocks⟩
  have hS0 : va_S (fun q : Nat => s.heap.size ≤ q) s.heap s.heap [] := va_S.rf
  have hP : va_P E.1 cls [] s.heap := fun k q h => by simp at h
  have hD : va_D (fun q : Nat => s.heap.size ≤ q) [] := ⟨fun i j p q h => by simp at h, fun k q h => by simp at h⟩
  have hl := lv_entry ([.ref b]) (n := 4) (Nat.le_of_ble_eq_true rfl)
  rw [lg_entry_eq]
  generalize (lg_sl ([.ref b]) ++ List.replicate (4 - (lg_sl ([.ref b])).length) Slot.unset).toArray = ls at hl ⊢
  have hl : lv_has ls 4 [(0, .ref b)] := hl
  refine i_new (fs := [.null, .null, .null, .null, .null, .null, .null, .null, .null, .null, .null, .int 0, .int 0, .long 0]) (N := 14) IX hP hD hS0 hA 10 (by decide) rfl q58 q59 q44 (fun j hj => by have hj : j < 14 := hj; rcases (show j = 0 ∨ j = 1 ∨ j = 2 ∨ j = 3 ∨ j = 4 ∨ j = 5 ∨ j = 6 ∨ j = 7 ∨ j = 8 ∨ j = 9 ∨ j = 10 ∨ j = 11 ∨ j = 12 ∨ j = 13 by omega) with rfl | rfl | rfl | rfl | rfl | rfl | rfl | rfl | rfl | rfl | rfl | rfl | rfl | rfl <;> rfl) (Nat.le_of_ble_eq_true rfl) (Nat.le_of_ble_eq_true rfl) dL_law_0 (fun q0 H hP hD hS1 => ?_)
  refine lv_dup hx hb dL_law_3 rfl ?_
  refine z_fin (w := []) (rest := [.ref q0]) C hP hD hS1 (i_I (n := 0) (rest := [.ref q0]) IX (z_last hP) (kX10_init q0 _) q60 q61 q44 q62 rfl rfl rfl (by decide +kernel) ⟨(Nat.le_of_ble_eq_true rfl), (Nat.le_of_ble_eq_true rfl)⟩ ⟨(Nat.le_of_ble_eq_true rfl), (Nat.le_of_ble_eq_true rfl)⟩ rfl hl.1 rfl (Nat.le_of_ble_eq_true rfl) dL_law_4) (fun x0 H locs hP hD hS2 => ?_)
  refine lv_astore_n (lv' := [(1, .ref q0), (0, .ref b)]) hx hb dL_law_7 rfl hl (by decide) rfl (fun ls hl => ?_)
  refine i_new (fs := [.int 0, .null, .long 0, .null, .null, .null, .int 0, .null, .null, .null, .null, .null, .null, .null, .null, .null, .null, .null, .int 0, .null, .null, .null, .null, .null, .int 0, .int 0, .null, .null, .null, .int 0, .null, .null]) (N := 32) IX hP hD hS2 hA 11 (by decide) rfl q874 q875 q53 (fun j hj => by have hj : j < 32 := hj; rcases (show j = 0 ∨ j = 1 ∨ j = 2 ∨ j = 3 ∨ j = 4 ∨ j = 5 ∨ j = 6 ∨ j = 7 ∨ j = 8 ∨ j = 9 ∨ j = 10 ∨ j = 11 ∨ j = 12 ∨ j = 13 ∨ j = 14 ∨ j = 15 ∨ j = 16 ∨ j = 17 ∨ j = 18 ∨ j = 19 ∨ j = 20 ∨ j = 21 ∨ j = 22 ∨ j = 23 ∨ j = 24 ∨ j = 25 ∨ j = 26 ∨ j = 27 ∨ j = 28 ∨ j = 29 ∨ j = 30 ∨ j = 31 by omega) with rfl | rfl | rfl | rfl | rfl | rfl | rfl | rfl | rfl | rfl | rfl | rfl | rfl | rfl | rfl | rfl | rfl | rfl | rfl | rfl | rfl | rfl | rfl | rfl | rfl | rfl | rfl | rfl | rfl | rfl | rfl | rfl <;> rfl) (Nat.le_of_ble_eq_true rfl) (Nat.le_of_ble_eq_true rfl) dL_law_8 (fun q1 H hP hD hS3 => ?_)
  refine lv_dup hx hb dL_law_11 rfl ?_
  refine z_fin (w := [] ++ w1X10_init E q0 x0) (rest := [.ref q1]) C hP hD hS3 (i_I (n := 0) (rest := [.ref q1]) IX (z_last hP) (kX11_init q1 _) q876 q877 q53 q878 rfl rfl rfl (by decide +kernel) ⟨(Nat.le_of_ble_eq_true rfl), (Nat.le_of_ble_eq_true rfl)⟩ ⟨(Nat.le_of_ble_eq_true rfl), (Nat.le_of_ble_eq_true rfl)⟩ rfl hl.1 rfl (Nat.le_of_ble_eq_true rfl) dL_law_12) (fun x1 H locs hP hD hS4 => ?_)
  refine lv_astore_n (lv' := [(2, .ref q1), (1, .ref q0), (0, .ref b)]) hx hb dL_law_15 rfl hl (by decide) rfl (fun ls hl => ?_)
  refine lv_iconst (v := 0) hx hb dL_law_16 (by decide) ?_
  refine lv_istore_n (lv' := [(3, .int 0), (2, .ref q1), (1, .ref q0), (0, .ref b)]) hx hb dL_law_17 rfl hl (by decide) rfl (fun ls hl => ?_)
  have hP : va_P E.1 cls (w1X10_init E q0 x0 ++ w1X11_init E q1 x1) H := hP
  have hD : va_D (fun q : Nat => s.heap.size ≤ q) (w1X10_init E q0 x0 ++ w1X11_init E q1 x1) := hD
  rw [w00] at hP hD
  exact law_loop C hr hAo hX hbl hL hS 600 0 σ00 (lay00 q0 q1 x0 x1) L00 H locs ls _ _ (by omega) (by omega) (by show 0 + 1 + 95 + 1 + 25 ≤ _; omega) (by show 0 + 14 + 2482 + 32 + 7833 ≤ _; omega) h0 (by decide) (by decide) ⟨hP, hD, hS4, L00_clo, L00_rc⟩ (lv_sub hl [3, 2, 1, 0] rfl)
