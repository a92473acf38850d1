def S0 (N : Nat) (I : St → List (Nat × Nat) → Prop) (σ : St) (L : List (Nat × Nat)) : Prop := ∀ (a1 : Int32) (a2 : Int32), fX10_sheet N σ a1 a2 (fun (r : Int32) (σ1 : St) => fX11_sheet N σ1 a1 a2 (fun (r2 : Int32) (σ2 : St) => r = r2 ∧ I σ2 L))
def S1 (N : Nat) (I : St → List (Nat × Nat) → Prop) (σ : St) (L : List (Nat × Nat)) : Prop := ∀ (a1 : Int32) (a2 : Int32) (a3 : Int32), fX10_lay N σ a1 a2 a3 (fun (r : Int32) (σ1 : St) => fX11_lay N σ1 a1 a2 a3 (fun (r2 : Int32) (σ2 : St) => r = r2 ∧ I σ2 L))
def S2 (N : Nat) (I : St → List (Nat × Nat) → Prop) (σ : St) (L : List (Nat × Nat)) : Prop := ∀ (a1 : Int32), fX10_tear N σ a1 (fun (r : Int32) (σ1 : St) => fX11_tear N σ1 a1 (fun (r2 : Int32) (σ2 : St) => r = r2 ∧ I σ2 L))
def S3 (N : Nat) (I : St → List (Nat × Nat) → Prop) (σ : St) (L : List (Nat × Nat)) : Prop := ∀ (a1 : Int32) (a2 : Int32) (a3 : Int32) (a4 : Int32) (a5 : Int32), fX10_copy N σ a1 a2 a3 a4 a5 (fun (r : Int32) (σ1 : St) => fX11_copy N σ1 a1 a2 a3 a4 a5 (fun (r2 : Int32) (σ2 : St) => r = r2 ∧ I σ2 L))
def S4 (N : Nat) (I : St → List (Nat × Nat) → Prop) (σ : St) (L : List (Nat × Nat)) : Prop := ∃ tt : Nat, (∀ z ∈ idsT tt, z ∉ L) ∧ ∀ (a1 : Int32) (a2 : Int32) (a3 : Int32) (a4 : Int32), fX10_text N σ tt L a1 a2 a3 a4 (fun (r : Int32) (σ1 : St) (L1 : List (Nat × Nat)) => fX11_text N σ1 a1 a2 a3 a4 (fun (r2 : Int32) (σ2 : St) => r = r2 ∧ I σ2 L1))
def S5 (N : Nat) (I : St → List (Nat × Nat) → Prop) (σ : St) (L : List (Nat × Nat)) : Prop := ∀ (a1 : Int32) (a2 : Int32), fX10_told N σ a1 a2 (fun (r : Int32) (σ1 : St) => fX11_told N σ1 a1 a2 (fun (r2 : Int32) (σ2 : St) => r = r2 ∧ I σ2 L))
def S6 (N : Nat) (I : St → List (Nat × Nat) → Prop) (σ : St) (L : List (Nat × Nat)) : Prop := ∀ (a1 : Int32) (a2 : Int32), fX10_mark N σ a1 a2 (fun (r : Int32) (σ1 : St) => fX11_mark N σ1 a1 a2 (fun (r2 : Int32) (σ2 : St) => r = r2 ∧ I σ2 L))
def S7 (N : Nat) (I : St → List (Nat × Nat) → Prop) (σ : St) (L : List (Nat × Nat)) : Prop := ∀ (a1 : Int32), fX10_withdraw N σ a1 (fun (r : Int32) (σ1 : St) => fX11_withdraw N σ1 a1 (fun (r2 : Int32) (σ2 : St) => r = r2 ∧ I σ2 L))
def S8 (N : Nat) (I : St → List (Nat × Nat) → Prop) (σ : St) (L : List (Nat × Nat)) : Prop := ∃ tt : Nat, (∀ z ∈ idsF tt, z ∉ L) ∧ ∀ (a1 : Int32) (a2 : Int32), fX10_feature N σ tt L a1 a2 (fun (r : Int32) (σ1 : St) (L1 : List (Nat × Nat)) => fX11_feature N σ1 a1 a2 (fun (r2 : Int32) (σ2 : St) => r = r2 ∧ I σ2 L1))
def S9 (N : Nat) (I : St → List (Nat × Nat) → Prop) (σ : St) (L : List (Nat × Nat)) : Prop := ∀ (a1 : Int32) (a2 : Int32), fX10_counts N σ a1 a2 (fun (r : Int32) (σ1 : St) => fX11_counts N σ1 a1 a2 (fun (r2 : Int32) (σ2 : St) => r = r2 ∧ I σ2 L))
def S10 (N : Nat) (I : St → List (Nat × Nat) → Prop) (σ : St) (L : List (Nat × Nat)) : Prop := ∀ (a1 : Int32) (a2 : Int32), fX10_rate N σ a1 a2 (fun (r : Int32) (σ1 : St) => fX11_rate N σ1 a1 a2 (fun (r2 : Int32) (σ2 : St) => r = r2 ∧ I σ2 L))
def S11 (N : Nat) (I : St → List (Nat × Nat) → Prop) (σ : St) (L : List (Nat × Nat)) : Prop := ∀ (a1 : Int32) (a2 : Int32), fX10_hand N σ a1 a2 (fun (r : Int32) (σ1 : St) => fX11_hand N σ1 a1 a2 (fun (r2 : Int32) (σ2 : St) => r = r2 ∧ I σ2 L))
def S12 (N : Nat) (I : St → List (Nat × Nat) → Prop) (σ : St) (L : List (Nat × Nat)) : Prop := ∀ (a1 : Int32), fX10_mean N σ a1 (fun (r : Int32) (σ1 : St) => fX11_mean N σ1 a1 (fun (r2 : Int32) (σ2 : St) => r = r2 ∧ I σ2 L))
def S13 (N : Nat) (I : St → List (Nat × Nat) → Prop) (σ : St) (L : List (Nat × Nat)) : Prop := ∀ (a1 : Int32), fX10_sort N σ a1 (fun (r : Int32) (σ1 : St) => fX11_sort N σ1 a1 (fun (r2 : Int32) (σ2 : St) => r = r2 ∧ I σ2 L))
def S14 (N : Nat) (I : St → List (Nat × Nat) → Prop) (σ : St) (L : List (Nat × Nat)) : Prop := ∀ (a1 : Int32) (a2 : Int32), fX10_far N σ a1 a2 (fun (r : Int32) (σ1 : St) => fX11_far N σ1 a1 a2 (fun (r2 : Int32) (σ2 : St) => r = r2 ∧ I σ2 L))
def S15 (N : Nat) (I : St → List (Nat × Nat) → Prop) (σ : St) (L : List (Nat × Nat)) : Prop := ∀ (a1 : Int32) (a2 : Int32), fX10_from N σ a1 a2 (fun (r : Int32) (σ1 : St) => fX11_from N σ1 a1 a2 (fun (r2 : Int32) (σ2 : St) => r = r2 ∧ I σ2 L))
def S16 (N : Nat) (I : St → List (Nat × Nat) → Prop) (σ : St) (L : List (Nat × Nat)) : Prop := ∀ (a1 : Int32), fX10_nearest N σ a1 (fun (r : Int32) (σ1 : St) => fX11_nearest N σ1 a1 (fun (r2 : Int32) (σ2 : St) => r = r2 ∧ I σ2 L))
def S17 (N : Nat) (I : St → List (Nat × Nat) → Prop) (σ : St) (L : List (Nat × Nat)) : Prop := ∀ (a1 : Int32) (a2 : Int32), fX10_place N σ a1 a2 (fun (r : Int32) (σ1 : St) => fX11_place N σ1 a1 a2 (fun (r2 : Int32) (σ2 : St) => r = r2 ∧ I σ2 L))
def S18 (N : Nat) (I : St → List (Nat × Nat) → Prop) (σ : St) (L : List (Nat × Nat)) : Prop := ∀ (a1 : Int32), fX10_trial N σ a1 (fun (r : Int32) (σ1 : St) => fX11_trial N σ1 a1 (fun (r2 : Int32) (σ2 : St) => r = r2 ∧ I σ2 L))
def S19 (N : Nat) (I : St → List (Nat × Nat) → Prop) (σ : St) (L : List (Nat × Nat)) : Prop := ∀ (a1 : Int32) (a2 : Int32), fX10_taken N σ a1 a2 (fun (r : Int32) (σ1 : St) => fX11_taken N σ1 a1 a2 (fun (r2 : Int32) (σ2 : St) => r = r2 ∧ I σ2 L))
def S20 (N : Nat) (I : St → List (Nat × Nat) → Prop) (σ : St) (L : List (Nat × Nat)) : Prop := ∀ (a1 : Int32) (a2 : Int32) (a3 : Int32) (a4 : Int64), fX10_impostors N σ a1 a2 a3 a4 (fun (r : Int32) (σ1 : St) => fX11_impostors N σ1 a1 a2 a3 a4 (fun (r2 : Int32) (σ2 : St) => r = r2 ∧ I σ2 L))
def S21 (N : Nat) (I : St → List (Nat × Nat) → Prop) (σ : St) (L : List (Nat × Nat)) : Prop := ∀ (a1 : Int32) (a2 : Int32) (a3 : Int32) (a4 : Int32) (a5 : Int32), fX10_part N σ a1 a2 a3 a4 a5 (fun (r : Int32) (σ1 : St) => fX11_part N σ1 a1 a2 a3 a4 a5 (fun (r2 : Int32) (σ2 : St) => r = r2 ∧ I σ2 L))
def S22 (N : Nat) (I : St → List (Nat × Nat) → Prop) (σ : St) (L : List (Nat × Nat)) : Prop := ∀ (a1 : Int32), fX10_window N σ a1 (fun (r : Int32) (σ1 : St) => fX11_window N σ1 a1 (fun (r2 : Int32) (σ2 : St) => r = r2 ∧ I σ2 L))
def S23 (N : Nat) (I : St → List (Nat × Nat) → Prop) (σ : St) (L : List (Nat × Nat)) : Prop := fX10_tree N σ (fun (r : Int32) (σ1 : St) => fX11_tree N σ1 (fun (r2 : Int32) (σ2 : St) => r = r2 ∧ I σ2 L))
def S24 (N : Nat) (I : St → List (Nat × Nat) → Prop) (σ : St) (L : List (Nat × Nat)) : Prop := ∀ (a1 : Int32) (a2 : Int32), fX10_join N σ a1 a2 (fun (r : Int32) (σ1 : St) => fX11_join N σ1 a1 a2 (fun (r2 : Int32) (σ2 : St) => r = r2 ∧ I σ2 L))
def S25 (N : Nat) (I : St → List (Nat × Nat) → Prop) (σ : St) (L : List (Nat × Nat)) : Prop := ∀ (a1 : Int32) (a2 : Int32) (a3 : Int32), fX10_shuffle N σ a1 a2 a3 (fun (r : Int32) (σ1 : St) => fX11_shuffle N σ1 a1 a2 a3 (fun (r2 : Int32) (σ2 : St) => r = r2 ∧ I σ2 L))
def S26 (N : Nat) (I : St → List (Nat × Nat) → Prop) (σ : St) (L : List (Nat × Nat)) : Prop := fX10_asked N σ (fun (r : Int64) (σ1 : St) => fX11_asked N σ1 (fun (r2 : Int64) (σ2 : St) => r = r2 ∧ I σ2 L))
def S27 (N : Nat) (I : St → List (Nat × Nat) → Prop) (σ : St) (L : List (Nat × Nat)) : Prop := ∀ (a1 : Int32), fX10_count N σ a1 (fun (r : Int32) (σ1 : St) => fX11_count N σ1 a1 (fun (r2 : Int32) (σ2 : St) => r = r2 ∧ I σ2 L))
def S28 (N : Nat) (I : St → List (Nat × Nat) → Prop) (σ : St) (L : List (Nat × Nat)) : Prop := fX10_finding N σ (fun (r : Int32) (σ1 : St) => fX11_finding N σ1 (fun (r2 : Int32) (σ2 : St) => r = r2 ∧ I σ2 L))
def S29 (N : Nat) (I : St → List (Nat × Nat) → Prop) (σ : St) (L : List (Nat × Nat)) : Prop := ∀ (a1 : Int32), fX10_findings N σ a1 (fun (r : Int32) (σ1 : St) => fX11_findings N σ1 a1 (fun (r2 : Int32) (σ2 : St) => r = r2 ∧ I σ2 L))
def S30 (N : Nat) (I : St → List (Nat × Nat) → Prop) (σ : St) (L : List (Nat × Nat)) : Prop := fX10_digest N σ (fun (r : Int64) (σ1 : St) => fX11_digest N σ1 (fun (r2 : Int64) (σ2 : St) => r = r2 ∧ I σ2 L))
def Steps (N : Nat) (I : St → List (Nat × Nat) → Prop) : Prop := ∀ (σ : St) (L : List (Nat × Nat)), I σ L → (∀ q ∈ L, q.1 < 12 ∨ 20 ≤ q.1) ∧ S0 N I σ L ∧ S1 N I σ L ∧ S2 N I σ L ∧ S3 N I σ L ∧ S4 N I σ L ∧ S5 N I σ L ∧ S6 N I σ L ∧ S7 N I σ L ∧ S8 N I σ L ∧ S9 N I σ L ∧ S10 N I σ L ∧ S11 N I σ L ∧ S12 N I σ L ∧ S13 N I σ L ∧ S14 N I σ L ∧ S15 N I σ L ∧ S16 N I σ L ∧ S17 N I σ L ∧ S18 N I σ L ∧ S19 N I σ L ∧ S20 N I σ L ∧ S21 N I σ L ∧ S22 N I σ L ∧ S23 N I σ L ∧ S24 N I σ L ∧ S25 N I σ L ∧ S26 N I σ L ∧ S27 N I σ L ∧ S28 N I σ L ∧ S29 N I σ L ∧ S30 N I σ L
set_option maxHeartbeats 4000000 in
set_option maxRecDepth 100000 in
theorem law_loop {p : Program} {l : Launch} {e : Env} {s : State} {m : MethodId} {below : List Frame} {meth : Method} {c : Code} {E : EC} {I : St → List (Nat × Nat) → Prop} {N b Ln : Nat} {xs : Nat → Int32} (C : Cx p s m #[Value.ref b] c meth RL cL_law 4 E (fun q : Nat => s.heap.size ≤ q)) (hr : meth.sig.returnType = ret) (hAo : Aos s) (hX : va_X b Ln xs s s.heap) (hbl : b < s.heap.size) (hLn : Ln ≤ 3072) (hS : Steps N I) :
    ∀ (n k : Nat) (σ : St) (lay : Nat → Nat → Nat) (L : List (Nat × Nat)) (H : Heap) (locs : List Loc) (ls : Array Slot) (cells slots : Nat), 600 ≤ n + k → 6 * k ≤ Ln + 5 → cells ≤ 1000 + 7 * k → slots ≤ 100000 + 429 * k → I σ L → (10, 0) ∈ L → (11, 0) ∈ L → Wo E lay L (fun q : Nat => s.heap.size ≤ q) s σ H locs → lv_has ls 4 [(0, .ref b), (1, .ref (lay 10 0)), (2, .ref (lay 11 0)), (3, .int (nI (6 * k)))] → W p l e room_1 s m #[Value.ref b] below meth c H locs cells slots (lw_Z below #[Value.ref b] s) (F0 m 18 ls []) := by
  have hx := C.1
  have hb := C.2.1
  have hRS : 400000 ≤ room_1.slots := Nat.le_of_ble_eq_true rfl
  have hbA : ¬ (fun q : Nat => s.heap.size ≤ q) b := Nat.not_le.mpr hbl
  intro n
  induction n with
  | zero => intro k _ _ _ _ _ _ _ _ h1 h2; exfalso; omega
  | succ n ih =>
    intro k σ lay L H locs ls cells slots hnk hk hc hs hI hm1 hm2 hw hl
    refine lv_iload_n hx hb dL_law_18 rfl (lv_at hl 3 rfl) ?_
    refine lv_aload_n hx hb dL_law_19 rfl (lv_at hl 0 rfl) ?_
    refine va_slen hx hb hX hbl hbA hw.2.2.1 dL_law_20 ?_
    refine lv_bipush (v := 6) hx hb dL_law_21 (by decide) ?_
    refine lv_isub hx hb dL_law_23 ?_
    have hsub : (Int32.ofNat Ln - 6 : Int32).toInt = (Ln : Int) - 6 := pk_sub_toInt (a := Ln) (b := 6) (by omega) (by omega)
    refine lv_icmp_gt (tgt := 1183) hx hb dL_law_24 (by decide) (fun hgt => ?_) (fun hle => ?_)
    · refine va_forget (fun q hq => hw.2.2.1.2.2 q hq) ?_
      refine W.widen (k := 600000) (n := room_1.slots) (by omega) (by omega) ?_
      refine lv_iconst (v := 1) hx hb dL_law_1183 (by decide) ?_
      exact lw_ret hx hb hr C.2.2.2.2.2.2.2.1 dL_law_1184
    · have hk6 : 6 * k + 6 ≤ Ln := by
        have h1 := Int32.le_iff_toInt_le.mp (Int32.not_lt.mp hle)
        rw [hsub, nI_toInt (by omega)] at h1
        omega
      have hin : ∀ i : Nat, i < 6 → vp_in (nI (6 * k) + nI i) Ln := fun i hi => by
        rw [nI_add]; exact vp_in_nI (by omega) (by omega)
      refine lv_aload_n hx hb dL_law_27 rfl (lv_at hl 0 rfl) ?_
      refine lv_iload_n hx hb dL_law_28 rfl (lv_at hl 3 rfl) ?_
      refine va_sld hx hb hX hbl hbA hw.2.2.1 (vp_in_nI (by omega) (by omega)) dL_law_29 ?_
      refine lv_bipush (v := 31) hx hb dL_law_30 (by decide) ?_
      refine lv_iand hx hb dL_law_32 ?_
      have next : ∀ (σ2 : St) (lay2 : Nat → Nat → Nat) (L2 : List (Nat × Nat)) (H1 : Heap) (locs1 : List Loc) (cells2 slots2 : Nat), cells2 ≤ cells + 7 → slots2 ≤ slots + 429 → I σ2 L2 → (10, 0) ∈ L2 → (11, 0) ∈ L2 → Wo E lay2 L2 (fun q : Nat => s.heap.size ≤ q) s σ2 H1 locs1 → lv_has ls 4 [(0, .ref b), (1, .ref (lay2 10 0)), (2, .ref (lay2 11 0)), (3, .int (nI (6 * k)))] → W p l e room_1 s m #[Value.ref b] below meth c H1 locs1 cells2 slots2 (lw_Z below #[Value.ref b] s) (F0 m 1177 ls []) := by
        intro σ2 lay2 L2 H1 locs1 cells2 slots2 h1 h2 hI2 hm12 hm22 hw2 hl2
        refine lv_iinc (v := nI (6 * (k + 1))) (lv' := [(3, .int (nI (6 * (k + 1)))), (0, .ref b), (1, .ref (lay2 10 0)), (2, .ref (lay2 11 0))]) hx hb dL_law_1177 hl2 (k := 3) rfl (by show nI (6 * k) + nI 6 = _; rw [nI_add]; congr 1) (by decide) rfl (fun ls3 hl3 => ?_)
        refine lv_goto (tgt := 18) hx hb dL_law_1180 (by decide) ?_
        exact ih (k + 1) σ2 lay2 L2 H1 locs1 ls3 cells2 slots2 (by omega) (by omega) (by omega) (by omega) hI2 hm12 hm22 hw2 (lv_sub hl3 [1, 2, 3, 0] rfl)
      obtain ⟨hval, h0, h1, h2, h3, h4, h5, h6, h7, h8, h9, h10, h11, h12, h13, h14, h15, h16, h17, h18, h19, h20, h21, h22, h23, h24, h25, h26, h27, h28, h29, h30⟩ := hS σ L hI
      obtain ⟨j, hj, ej⟩ := pk_andE (xs (nI (6 * k)).toNatClampNeg) (m := 31) 5 (by decide)
      rw [ej]
      rcases (show j = 0 ∨ j = 1 ∨ j = 2 ∨ j = 3 ∨ j = 4 ∨ j = 5 ∨ j = 6 ∨ j = 7 ∨ j = 8 ∨ j = 9 ∨ j = 10 ∨ j = 11 ∨ j = 12 ∨ j = 13 ∨ j = 14 ∨ j = 15 ∨ j = 16 ∨ j = 17 ∨ j = 18 ∨ j = 19 ∨ j = 20 ∨ j = 21 ∨ j = 22 ∨ j = 23 ∨ j = 24 ∨ j = 25 ∨ j = 26 ∨ j = 27 ∨ j = 28 ∨ j = 29 ∨ j = 30 ∨ j = 31 by omega) with rfl | rfl | rfl | rfl | rfl | rfl | rfl | rfl | rfl | rfl | rfl | rfl | rfl | rfl | rfl | rfl | rfl | rfl | rfl | rfl | rfl | rfl | rfl | rfl | rfl | rfl | rfl | rfl | rfl | rfl | rfl | rfl
      · refine lv_tableIn (off := 139) (tgt := 172) hx hb dL_law_33 (by decide) (by decide) (by decide) (by decide) ?_
        exact lc_0 (I := I) (N := N) C hX hbl hbA hm1 hm2 hin ⟨by omega, by omega⟩ hw hl h0 (fun σ2 H1 locs1 hI2 hw2 => next σ2 lay L H1 locs1 _ _ (by omega) (by omega) hI2 hm1 hm2 hw2 hl)
      · refine lv_tableIn (off := 172) (tgt := 205) hx hb dL_law_33 (by decide) (by decide) (by decide) (by decide) ?_
        exact lc_1 (I := I) (N := N) C hX hbl hbA hm1 hm2 hin ⟨by omega, by omega⟩ hw hl h1 (fun σ2 H1 locs1 hI2 hw2 => next σ2 lay L H1 locs1 _ _ (by omega) (by omega) hI2 hm1 hm2 hw2 hl)
      · refine lv_tableIn (off := 215) (tgt := 248) hx hb dL_law_33 (by decide) (by decide) (by decide) (by decide) ?_
        exact lc_2 (I := I) (N := N) C hX hbl hbA hm1 hm2 hin ⟨by omega, by omega⟩ hw hl h2 (fun σ2 H1 locs1 hI2 hw2 => next σ2 lay L H1 locs1 _ _ (by omega) (by omega) hI2 hm1 hm2 hw2 hl)
      · refine lv_tableIn (off := 238) (tgt := 271) hx hb dL_law_33 (by decide) (by decide) (by decide) (by decide) ?_
        exact lc_3 (I := I) (N := N) C hX hbl hbA hm1 hm2 hin ⟨by omega, by omega⟩ hw hl h3 (fun σ2 H1 locs1 hI2 hw2 => next σ2 lay L H1 locs1 _ _ (by omega) (by omega) hI2 hm1 hm2 hw2 hl)
      · refine lv_tableIn (off := 301) (tgt := 334) hx hb dL_law_33 (by decide) (by decide) (by decide) (by decide) ?_
        obtain ⟨tt, hfr, h4⟩ := h4
        exact lc_4 (I := I) (N := N) C hX hbl hbA hm1 hm2 hin ⟨by omega, by omega⟩ hw hl hAo hval hfr h4 (fun σ2 lay2 L2 H1 locs1 hI2 hL hw2 hl2 => next σ2 lay2 L2 H1 locs1 _ _ (by omega) (by omega) hI2 (hL _ hm1) (hL _ hm2) hw2 hl2)
      · refine lv_tableIn (off := 354) (tgt := 387) hx hb dL_law_33 (by decide) (by decide) (by decide) (by decide) ?_
        exact lc_5 (I := I) (N := N) C hX hbl hbA hm1 hm2 hin ⟨by omega, by omega⟩ hw hl h5 (fun σ2 H1 locs1 hI2 hw2 => next σ2 lay L H1 locs1 _ _ (by omega) (by omega) hI2 hm1 hm2 hw2 hl)
      · refine lv_tableIn (off := 387) (tgt := 420) hx hb dL_law_33 (by decide) (by decide) (by decide) (by decide) ?_
        exact lc_6 (I := I) (N := N) C hX hbl hbA hm1 hm2 hin ⟨by omega, by omega⟩ hw hl h6 (fun σ2 H1 locs1 hI2 hw2 => next σ2 lay L H1 locs1 _ _ (by omega) (by omega) hI2 hm1 hm2 hw2 hl)
      · refine lv_tableIn (off := 420) (tgt := 453) hx hb dL_law_33 (by decide) (by decide) (by decide) (by decide) ?_
        exact lc_7 (I := I) (N := N) C hX hbl hbA hm1 hm2 hin ⟨by omega, by omega⟩ hw hl h7 (fun σ2 H1 locs1 hI2 hw2 => next σ2 lay L H1 locs1 _ _ (by omega) (by omega) hI2 hm1 hm2 hw2 hl)
      · refine lv_tableIn (off := 443) (tgt := 476) hx hb dL_law_33 (by decide) (by decide) (by decide) (by decide) ?_
        obtain ⟨tt, hfr, h8⟩ := h8
        exact lc_8 (I := I) (N := N) C hX hbl hbA hm1 hm2 hin ⟨by omega, by omega⟩ hw hl hAo hval hfr h8 (fun σ2 lay2 L2 H1 locs1 hI2 hL hw2 hl2 => next σ2 lay2 L2 H1 locs1 _ _ (by omega) (by omega) hI2 (hL _ hm1) (hL _ hm2) hw2 hl2)
      · refine lv_tableIn (off := 476) (tgt := 509) hx hb dL_law_33 (by decide) (by decide) (by decide) (by decide) ?_
        exact lc_9 (I := I) (N := N) C hX hbl hbA hm1 hm2 hin ⟨by omega, by omega⟩ hw hl h9 (fun σ2 H1 locs1 hI2 hw2 => next σ2 lay L H1 locs1 _ _ (by omega) (by omega) hI2 hm1 hm2 hw2 hl)
      · refine lv_tableIn (off := 509) (tgt := 542) hx hb dL_law_33 (by decide) (by decide) (by decide) (by decide) ?_
        exact lc_10 (I := I) (N := N) C hX hbl hbA hm1 hm2 hin ⟨by omega, by omega⟩ hw hl h10 (fun σ2 H1 locs1 hI2 hw2 => next σ2 lay L H1 locs1 _ _ (by omega) (by omega) hI2 hm1 hm2 hw2 hl)
      · refine lv_tableIn (off := 542) (tgt := 575) hx hb dL_law_33 (by decide) (by decide) (by decide) (by decide) ?_
        exact lc_11 (I := I) (N := N) C hX hbl hbA hm1 hm2 hin ⟨by omega, by omega⟩ hw hl h11 (fun σ2 H1 locs1 hI2 hw2 => next σ2 lay L H1 locs1 _ _ (by omega) (by omega) hI2 hm1 hm2 hw2 hl)
      · refine lv_tableIn (off := 575) (tgt := 608) hx hb dL_law_33 (by decide) (by decide) (by decide) (by decide) ?_
        exact lc_12 (I := I) (N := N) C hX hbl hbA hm1 hm2 hin ⟨by omega, by omega⟩ hw hl h12 (fun σ2 H1 locs1 hI2 hw2 => next σ2 lay L H1 locs1 _ _ (by omega) (by omega) hI2 hm1 hm2 hw2 hl)
      · refine lv_tableIn (off := 598) (tgt := 631) hx hb dL_law_33 (by decide) (by decide) (by decide) (by decide) ?_
        exact lc_13 (I := I) (N := N) C hX hbl hbA hm1 hm2 hin ⟨by omega, by omega⟩ hw hl h13 (fun σ2 H1 locs1 hI2 hw2 => next σ2 lay L H1 locs1 _ _ (by omega) (by omega) hI2 hm1 hm2 hw2 hl)
      · refine lv_tableIn (off := 621) (tgt := 654) hx hb dL_law_33 (by decide) (by decide) (by decide) (by decide) ?_
        exact lc_14 (I := I) (N := N) C hX hbl hbA hm1 hm2 hin ⟨by omega, by omega⟩ hw hl h14 (fun σ2 H1 locs1 hI2 hw2 => next σ2 lay L H1 locs1 _ _ (by omega) (by omega) hI2 hm1 hm2 hw2 hl)
      · refine lv_tableIn (off := 654) (tgt := 687) hx hb dL_law_33 (by decide) (by decide) (by decide) (by decide) ?_
        exact lc_15 (I := I) (N := N) C hX hbl hbA hm1 hm2 hin ⟨by omega, by omega⟩ hw hl h15 (fun σ2 H1 locs1 hI2 hw2 => next σ2 lay L H1 locs1 _ _ (by omega) (by omega) hI2 hm1 hm2 hw2 hl)
      · refine lv_tableIn (off := 687) (tgt := 720) hx hb dL_law_33 (by decide) (by decide) (by decide) (by decide) ?_
        exact lc_16 (I := I) (N := N) C hX hbl hbA hm1 hm2 hin ⟨by omega, by omega⟩ hw hl h16 (fun σ2 H1 locs1 hI2 hw2 => next σ2 lay L H1 locs1 _ _ (by omega) (by omega) hI2 hm1 hm2 hw2 hl)
      · refine lv_tableIn (off := 710) (tgt := 743) hx hb dL_law_33 (by decide) (by decide) (by decide) (by decide) ?_
        exact lc_17 (I := I) (N := N) C hX hbl hbA hm1 hm2 hin ⟨by omega, by omega⟩ hw hl h17 (fun σ2 H1 locs1 hI2 hw2 => next σ2 lay L H1 locs1 _ _ (by omega) (by omega) hI2 hm1 hm2 hw2 hl)
      · refine lv_tableIn (off := 743) (tgt := 776) hx hb dL_law_33 (by decide) (by decide) (by decide) (by decide) ?_
        exact lc_18 (I := I) (N := N) C hX hbl hbA hm1 hm2 hin ⟨by omega, by omega⟩ hw hl h18 (fun σ2 H1 locs1 hI2 hw2 => next σ2 lay L H1 locs1 _ _ (by omega) (by omega) hI2 hm1 hm2 hw2 hl)
      · refine lv_tableIn (off := 766) (tgt := 799) hx hb dL_law_33 (by decide) (by decide) (by decide) (by decide) ?_
        exact lc_19 (I := I) (N := N) C hX hbl hbA hm1 hm2 hin ⟨by omega, by omega⟩ hw hl h19 (fun σ2 H1 locs1 hI2 hw2 => next σ2 lay L H1 locs1 _ _ (by omega) (by omega) hI2 hm1 hm2 hw2 hl)
      · refine lv_tableIn (off := 799) (tgt := 832) hx hb dL_law_33 (by decide) (by decide) (by decide) (by decide) ?_
        exact lc_20 (I := I) (N := N) C hX hbl hbA hm1 hm2 hin ⟨by omega, by omega⟩ hw hl h20 (fun σ2 H1 locs1 hI2 hw2 => next σ2 lay L H1 locs1 _ _ (by omega) (by omega) hI2 hm1 hm2 hw2 hl)
      · refine lv_tableIn (off := 882) (tgt := 915) hx hb dL_law_33 (by decide) (by decide) (by decide) (by decide) ?_
        exact lc_21 (I := I) (N := N) C hX hbl hbA hm1 hm2 hin ⟨by omega, by omega⟩ hw hl h21 (fun σ2 H1 locs1 hI2 hw2 => next σ2 lay L H1 locs1 _ _ (by omega) (by omega) hI2 hm1 hm2 hw2 hl)
      · refine lv_tableIn (off := 945) (tgt := 978) hx hb dL_law_33 (by decide) (by decide) (by decide) (by decide) ?_
        exact lc_22 (I := I) (N := N) C hX hbl hbA hm1 hm2 hin ⟨by omega, by omega⟩ hw hl h22 (fun σ2 H1 locs1 hI2 hw2 => next σ2 lay L H1 locs1 _ _ (by omega) (by omega) hI2 hm1 hm2 hw2 hl)
      · refine lv_tableIn (off := 968) (tgt := 1001) hx hb dL_law_33 (by decide) (by decide) (by decide) (by decide) ?_
        exact lc_23 (I := I) (N := N) C hX hbl hbA hm1 hm2 hin ⟨by omega, by omega⟩ hw hl h23 (fun σ2 H1 locs1 hI2 hw2 => next σ2 lay L H1 locs1 _ _ (by omega) (by omega) hI2 hm1 hm2 hw2 hl)
      · refine lv_tableIn (off := 981) (tgt := 1014) hx hb dL_law_33 (by decide) (by decide) (by decide) (by decide) ?_
        exact lc_24 (I := I) (N := N) C hX hbl hbA hm1 hm2 hin ⟨by omega, by omega⟩ hw hl h24 (fun σ2 H1 locs1 hI2 hw2 => next σ2 lay L H1 locs1 _ _ (by omega) (by omega) hI2 hm1 hm2 hw2 hl)
      · refine lv_tableIn (off := 1014) (tgt := 1047) hx hb dL_law_33 (by decide) (by decide) (by decide) (by decide) ?_
        exact lc_25 (I := I) (N := N) C hX hbl hbA hm1 hm2 hin ⟨by omega, by omega⟩ hw hl h25 (fun σ2 H1 locs1 hI2 hw2 => next σ2 lay L H1 locs1 _ _ (by omega) (by omega) hI2 hm1 hm2 hw2 hl)
      · refine lv_tableIn (off := 1057) (tgt := 1090) hx hb dL_law_33 (by decide) (by decide) (by decide) (by decide) ?_
        exact lc_26 (I := I) (N := N) C hX hbl hbA hm1 hm2 hin ⟨by omega, by omega⟩ hw hl h26 (fun σ2 H1 locs1 hI2 hw2 => next σ2 lay L H1 locs1 _ _ (by omega) (by omega) hI2 hm1 hm2 hw2 hl)
      · refine lv_tableIn (off := 1071) (tgt := 1104) hx hb dL_law_33 (by decide) (by decide) (by decide) (by decide) ?_
        exact lc_27 (I := I) (N := N) C hX hbl hbA hm1 hm2 hin ⟨by omega, by omega⟩ hw hl h27 (fun σ2 H1 locs1 hI2 hw2 => next σ2 lay L H1 locs1 _ _ (by omega) (by omega) hI2 hm1 hm2 hw2 hl)
      · refine lv_tableIn (off := 1094) (tgt := 1127) hx hb dL_law_33 (by decide) (by decide) (by decide) (by decide) ?_
        exact lc_28 (I := I) (N := N) C hX hbl hbA hm1 hm2 hin ⟨by omega, by omega⟩ hw hl h28 (fun σ2 H1 locs1 hI2 hw2 => next σ2 lay L H1 locs1 _ _ (by omega) (by omega) hI2 hm1 hm2 hw2 hl)
      · refine lv_tableIn (off := 1107) (tgt := 1140) hx hb dL_law_33 (by decide) (by decide) (by decide) (by decide) ?_
        exact lc_29 (I := I) (N := N) C hX hbl hbA hm1 hm2 hin ⟨by omega, by omega⟩ hw hl h29 (fun σ2 H1 locs1 hI2 hw2 => next σ2 lay L H1 locs1 _ _ (by omega) (by omega) hI2 hm1 hm2 hw2 hl)
      · refine lv_tableIn (off := 1130) (tgt := 1163) hx hb dL_law_33 (by decide) (by decide) (by decide) (by decide) ?_
        exact lc_30 (I := I) (N := N) C hX hbl hbA hm1 hm2 hin ⟨by omega, by omega⟩ hw hl h30 (fun σ2 H1 locs1 hI2 hw2 => next σ2 lay L H1 locs1 _ _ (by omega) (by omega) hI2 hm1 hm2 hw2 hl)
      · refine lv_tableOut (tgt := 1177) hx hb dL_law_33 (Or.inr (by decide)) (by decide) ?_
        exact next σ lay L H locs _ _ (by omega) (by omega) hI hm1 hm2 hw hl
