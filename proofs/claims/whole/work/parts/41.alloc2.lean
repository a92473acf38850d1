-- X10_text
abbrev rmX10_text : Room := { frames := 6, cells := 7, slots := 429, locals := 138 }
def fX10_text_t (N : Nat) (tt : Nat) (L0 : List (Nat × Nat)) (a1 : Int32) (a2 : Int32) (a3 : Int32) (a4 : Int32) (L : List (Nat × Nat)) (Q : Int32 → St → List (Nat × Nat) → Prop) (σ : St) (v5 : Nat) : Prop := fX4_read N σ tt v5 (fun (σ22 : St) => fX2_tallyText N σ22 tt (fun (σ24 : St) => (vp_in (sF σ24 10 0 11) 14 ∧ ∀ σ26 : St, σ26 = setR σ24 21 0 ((sF σ24 10 0 11)).toNatClampNeg (some tt) → ∀ σ27 : St, σ27 = setF σ26 10 0 11 ((sF σ26 10 0 11) + (1 : Int32)) → Q (sF σ26 10 0 11) σ27 L)))
def fX10_text_b74 (N : Nat) (tt : Nat) (L0 : List (Nat × Nat)) (a1 : Int32) (a2 : Int32) (a3 : Int32) (a4 : Int32) (Q : Int32 → St → List (Nat × Nat) → Prop) (σ : St) (v5 : Option Nat) (v6 : Int32) : Prop := (((sF σ 10 0 11) < (14 : Int32) → (∃ i12, v5 = some i12 ∧ fX5_isMissing N σ i12 (fun (r15 : Int32) (σ14 : St) => ((r15 = 0 → ((v6 = 0 → ((¬ a1 = (2 : Int32) → fX10_text_t N tt L0 a1 a2 a3 a4 (L0 ++ idsT tt) Q (newText σ14 tt a1 (-9 : Int32) (-9 : Int32)) i12) ∧ (a1 = (2 : Int32) → fX10_text_t N tt L0 a1 a2 a3 a4 (L0 ++ idsT tt) Q (newText σ14 tt a1 (-9 : Int32) a4) i12))) ∧ (¬ v6 = 0 → ((¬ a1 = (2 : Int32) → fX10_text_t N tt L0 a1 a2 a3 a4 (L0 ++ idsT tt) Q (newText σ14 tt a1 a3 (-9 : Int32)) i12) ∧ (a1 = (2 : Int32) → fX10_text_t N tt L0 a1 a2 a3 a4 (L0 ++ idsT tt) Q (newText σ14 tt a1 a3 a4) i12))))) ∧ (¬ r15 = 0 → fX10_found N σ14 (1 : Int32) (fun (r33 : Int32) (σ32 : St) => Q r33 σ32 L0)))))) ∧ (¬ (sF σ 10 0 11) < (14 : Int32) → Q (-2 : Int32) σ L0))
def fX10_text_b54 (N : Nat) (tt : Nat) (L0 : List (Nat × Nat)) (a1 : Int32) (a2 : Int32) (a3 : Int32) (a4 : Int32) (Q : Int32 → St → List (Nat × Nat) → Prop) (σ : St) (v5 : Option Nat) (v6 : Int32) : Prop := ((¬ a1 = (2 : Int32) → fX10_text_b74 N tt L0 a1 a2 a3 a4 Q σ v5 v6) ∧ (a1 = (2 : Int32) → ((a4 < 0 → Q (-1 : Int32) σ L0) ∧ (¬ a4 < 0 → ((a4 ≤ (9999 : Int32) → fX10_text_b74 N tt L0 a1 a2 a3 a4 Q σ v5 v6) ∧ (¬ a4 ≤ (9999 : Int32) → Q (-1 : Int32) σ L0))))))
def fX10_text_b38 (N : Nat) (tt : Nat) (L0 : List (Nat × Nat)) (a1 : Int32) (a2 : Int32) (a3 : Int32) (a4 : Int32) (Q : Int32 → St → List (Nat × Nat) → Prop) (σ : St) (v5 : Option Nat) (t0 : Int32) : Prop := ((t0 = 0 → fX10_text_b54 N tt L0 a1 a2 a3 a4 Q σ v5 t0) ∧ (¬ t0 = 0 → fX10_isWriter N σ a3 (fun (r37 : Int32) (σ36 : St) => ((¬ r37 = 0 → fX10_text_b54 N tt L0 a1 a2 a3 a4 Q σ36 v5 t0) ∧ (r37 = 0 → Q (-1 : Int32) σ36 L0)))))
def fX10_text_b33 (N : Nat) (tt : Nat) (L0 : List (Nat × Nat)) (a1 : Int32) (a2 : Int32) (a3 : Int32) (a4 : Int32) (Q : Int32 → St → List (Nat × Nat) → Prop) (σ : St) (v5 : Option Nat) : Prop := fX10_text_b38 N tt L0 a1 a2 a3 a4 Q σ v5 (1 : Int32)
def fX10_text (N : Nat) (σ : St) (tt : Nat) (L0 : List (Nat × Nat)) (a1 : Int32) (a2 : Int32) (a3 : Int32) (a4 : Int32) (Q : Int32 → St → List (Nat × Nat) → Prop) : Prop := fX10_sheetAt N σ a2 (fun (r2 : Option Nat) (σ1 : St) => ((r2 = none → Q (-1 : Int32) σ1 L0) ∧ (∀ i3, r2 = some i3 → ((a1 < 0 → Q (-1 : Int32) σ1 L0) ∧ (¬ a1 < 0 → ((a1 ≤ (3 : Int32) → ((a1 = (1 : Int32) → fX10_text_b33 N tt L0 a1 a2 a3 a4 Q σ1 (some i3)) ∧ (¬ a1 = (1 : Int32) → ((¬ a1 = (2 : Int32) → fX10_text_b38 N tt L0 a1 a2 a3 a4 Q σ1 (some i3) (0 : Int32)) ∧ (a1 = (2 : Int32) → fX10_text_b33 N tt L0 a1 a2 a3 a4 Q σ1 (some i3)))))) ∧ (¬ a1 ≤ (3 : Int32) → Q (-1 : Int32) σ1 L0)))))))
set_option maxHeartbeats 4000000 in
set_option maxRecDepth 100000 in
theorem eX10_text_t {p : Program} {l : Launch} {e : Env} {s : State} {m : MethodId} {args : Array Value} {below : List Frame} {meth : Method} {c : Code} {E : EC} {lay0 : Nat → Nat → Nat} {L0 : List (Nat × Nat)} {lay : Nat → Nat → Nat} {L : List (Nat × Nat)} {A : Nat → Prop} {tt : Nat} (hAo : Aos s) (hag : ∀ q ∈ L0, lay q.1 q.2 = lay0 q.1 q.2) (hL : ∀ q ∈ L0, q ∈ L) (C : Cx p s m args c meth yX10_text.cls cX10_text 8 E A) (hret : meth.sig.returnType = some .int) {N : Nat} {a1 : Int32} {a2 : Int32} {a3 : Int32} {a4 : Int32} {Q : Int32 → St → List (Nat × Nat) → Prop} {v5 : Nat} (hm0 : (10, 0) ∈ L) (hv5 : (5, v5) ∈ L) (hmT : (8, tt) ∈ L) (σ : St) (H : Heap) (locs : List Loc) (ls : Array Slot) (hf : fX10_text_t N tt L0 a1 a2 a3 a4 L Q σ v5) (hw : Wo E lay L A s σ H locs) (hl : lv_has ls 8 [(0, .ref (lay 10 0)), (5, .ref (lay 5 v5))]) : W p l e rmX10_text s m args below meth c H locs (0 + 1 + 6) (0 + 6 + 423) (MQ below (va_Qi (Qa lay0 L0 Q) (Bda E A) A) args s 7 429 A) (F0 m 134 ls [.ref (lay 8 tt)]) := by
  have hx := C.1
  have hb := C.2.1
  unfold fX10_text_t at hf
  refine lv_astore (lv' := [(7, .ref (lay 8 tt)), (0, .ref (lay 10 0)), (5, .ref (lay 5 v5))]) hx hb dX10_text_134 hl (by decide) rfl (fun ls hl => ?_)
  refine lv_aload hx hb dX10_text_136 (lv_at hl 0 rfl) ?_
  have hm_21 : (4, tt) ∈ L := hw.2.2.2.1 8 tt hmT 3 (by decide) (by decide) rfl
  refine x_getN (v := .ref (lay 4 tt)) (j := 3) (host := "WhoseHand") C hw hmT rfl (by decide) (by decide) rfl q412 dX10_text_138 ?_
  refine lv_aload hx hb dX10_text_141 (lv_at hl 2 rfl) ?_
  refine y_runv hw (y_V (n := 1) (rest := []) C hw hm_21 (by decide) (eX4_read hf hm_21 hv5) q434 q435 q436 q51 q437 rfl rfl (by decide +kernel) ⟨Nat.le_of_ble_eq_true rfl, Nat.le_of_ble_eq_true rfl⟩ rfl hl.1 rfl (Nat.le_of_ble_eq_true rfl) ⟨Nat.le_of_ble_eq_true rfl, Nat.le_of_ble_eq_true rfl⟩ dX10_text_143) (fun σ22 H locs hf hw => ?_)
  try dsimp only at hf
  refine lv_aload_n hx hb dX10_text_146 rfl (lv_at hl 1 rfl) ?_
  have hm_23 : (2, 0) ∈ L := hw.2.2.2.1 10 0 hm0 2 (by decide) (by decide) rfl
  refine x_get (v := .ref (lay 2 0)) (j := 2) C hw hm0 rfl (by decide) (by decide) rfl q291 dX10_text_147 ?_
  refine lv_aload hx hb dX10_text_150 (lv_at hl 0 rfl) ?_
  refine y_runv hw (y_V (n := 1) (rest := []) C hw hm_23 (by decide) (eX2_tallyText hf hm_23 hmT) q467 q468 q469 q45 q470 rfl rfl (by decide +kernel) ⟨Nat.le_of_ble_eq_true rfl, Nat.le_of_ble_eq_true rfl⟩ rfl hl.1 rfl (Nat.le_of_ble_eq_true rfl) ⟨Nat.le_of_ble_eq_true rfl, Nat.le_of_ble_eq_true rfl⟩ dX10_text_152) (fun σ24 H locs hf hw => ?_)
  try dsimp only at hf
  refine lv_aload_n hx hb dX10_text_155 rfl (lv_at hl 1 rfl) ?_
  have hm_25 : (21, 0) ∈ L := hw.2.2.2.1 10 0 hm0 1 (by decide) (by decide) rfl
  refine x_get (v := .ref (lay 21 0)) (j := 1) C hw hm0 rfl (by decide) (by decide) rfl q290 dX10_text_156 ?_
  refine lv_aload_n hx hb dX10_text_159 rfl (lv_at hl 1 rfl) ?_
  refine x_get (v := .int (sF σ24 10 0 11)) (j := 11) C hw hm0 rfl (by decide) (by decide) rfl q300 dX10_text_160 ?_
  refine lv_aload hx hb dX10_text_163 (lv_at hl 0 rfl) ?_
  refine x_aast (K := 21) (t := 5) (i2 := tt) C hw hm_25 hmT (by decide) (by decide) rfl (by decide) rfl hf.1 dX10_text_165 (fun σ26 H locs eσ26 hw => ?_)
  replace hf := hf.2 σ26 eσ26
  refine lv_aload_n hx hb dX10_text_166 rfl (lv_at hl 1 rfl) ?_
  refine lv_dup hx hb dX10_text_167 rfl ?_
  refine x_get (v := .int (sF σ26 10 0 11)) (j := 11) C hw hm0 rfl (by decide) (by decide) rfl q300 dX10_text_168 ?_
  refine lv_dup_x1 hx hb dX10_text_171 rfl rfl ?_
  refine lv_iconst (v := 1) hx hb dX10_text_172 (by decide) ?_
  refine lv_iadd hx hb dX10_text_173 ?_
  refine x_putI (j := 11) (ty := .int) C hw hm0 rfl (by decide) (by decide) rfl rfl (by decide +kernel) rfl rfl q300 dX10_text_174 (fun σ27 H locs eσ27 hw => ?_)
  replace hf := hf σ27 eσ27
  exact z_iret C hret hw hag hL hf (Nat.le_of_ble_eq_true rfl) (Nat.le_of_ble_eq_true rfl) dX10_text_177
set_option maxHeartbeats 4000000 in
set_option maxRecDepth 100000 in
theorem eX10_text_b74 {p : Program} {l : Launch} {e : Env} {s : State} {m : MethodId} {args : Array Value} {below : List Frame} {meth : Method} {c : Code} {E : EC} {lay0 : Nat → Nat → Nat} {L0 : List (Nat × Nat)} {lay : Nat → Nat → Nat} {L : List (Nat × Nat)} {A : Nat → Prop} {tt : Nat} (hAo : Aos s) (hag : ∀ q ∈ L0, lay q.1 q.2 = lay0 q.1 q.2) (hL : ∀ q ∈ L0, q ∈ L) (hval : ∀ q ∈ L, q.1 < 12 ∨ 20 ≤ q.1) (hfr : ∀ z ∈ idsT tt, z ∉ L) (hLe : L = L0) (C : Cx p s m args c meth yX10_text.cls cX10_text 8 E A) (hret : meth.sig.returnType = some .int) {N : Nat} {a1 : Int32} {a2 : Int32} {a3 : Int32} {a4 : Int32} {Q : Int32 → St → List (Nat × Nat) → Prop} (hm0 : (10, 0) ∈ L) (σ : St) (v5 : Option Nat) (v6 : Int32) (H : Heap) (locs : List Loc) (ls : Array Slot) (hf : fX10_text_b74 N tt L0 a1 a2 a3 a4 Q σ v5 v6) (hw : Wo E lay L A s σ H locs) (hl : lv_has ls 8 [(0, .ref (lay 10 0)), (1, .int a1), (3, .int a3), (4, .int a4), (5, rf lay 5 v5), (6, .int v6)]) (hv5 : ∀ i, v5 = some i → (5, i) ∈ L) : W p l e rmX10_text s m args below meth c H locs 0 0 (MQ below (va_Qi (Qa lay0 L0 Q) (Bda E A) A) args s 7 429 A) (F0 m 74 ls []) := by
  subst hLe
  have hx := C.1
  have hb := C.2.1
  unfold fX10_text_b74 at hf
  refine lv_aload_n hx hb dX10_text_74 rfl (lv_at hl 0 rfl) ?_
  refine x_get (v := .int (sF σ 10 0 11)) (j := 11) C hw hm0 rfl (by decide) (by decide) rfl q300 dX10_text_75 ?_
  refine lv_aload_n hx hb dX10_text_78 rfl (lv_at hl 0 rfl) ?_
  have hm_10 : (21, 0) ∈ L := hw.2.2.2.1 10 0 hm0 1 (by decide) (by decide) rfl
  refine x_get (v := .ref (lay 21 0)) (j := 1) C hw hm0 rfl (by decide) (by decide) rfl q290 dX10_text_79 ?_
  refine x_alen (v := 14) C hw hm_10 (by decide) (by decide) (by decide) dX10_text_82 ?_
  refine lv_icmp_lt (tgt := 89) hx hb dX10_text_83 (by decide) (fun c11 => ?_) (fun c11 => ?_)
  · replace hf := hf.1 c11
    refine x_aload hx hb dX10_text_89 (lv_at hl 4 rfl) ?_
    obtain ⟨i12, eni12, hf⟩ := hf
    have hn_13 := hv5 i12 eni12
    try rw [eni12] at hl
    rw [show rf lay 5 v5 = .ref (lay 5 i12) from by rw [eni12]; rfl]
    refine x_runi hw (x_V (n := 0) (rest := []) C hw hn_13 (by decide) (eX5_isMissing hf hn_13) q352 q353 q354 q52 q355 rfl rfl (by decide +kernel) ⟨Nat.le_of_ble_eq_true rfl, Nat.le_of_ble_eq_true rfl⟩ rfl hl.1 rfl (Nat.le_of_ble_eq_true rfl) dX10_text_91) (fun r15 σ14 H locs hf hw => ?_)
    have hzr15 := hf.2
    replace hf := hf.1
    try dsimp only at hf
    refine lv_if_eq (tgt := 103) hx hb dX10_text_94 (by decide) (fun c16 => ?_) (fun c16 => ?_)
    · replace hf := hf.1 c16
      refine va_new (fs := [.int 0, .int 0, .int 0, .null, .null, .int 0]) hx hb C.2.2.2.2.1 (inK 8 (by decide)) (tyT 8) (tyK 8 (by decide)) C.2.2.2.1 (C.2.2.2.2.1 _ q68) (C.2.2.2.2.1 _ q395) (C.2.2.2.2.1 _ q55) C.2.2.2.2.2.1 hw.1 hw.2.1 hw.2.2.1 C.2.2.2.2.2.2.1 (cls_get 8 (by decide)) (fun j hj => by have hj : j < 6 := hj; rcases (show j = 0 ∨ j = 1 ∨ j = 2 ∨ j = 3 ∨ j = 4 ∨ j = 5 by omega) with rfl | rfl | rfl | rfl | rfl | rfl <;> rfl) (Nat.le_of_ble_eq_true rfl) (Nat.le_of_ble_eq_true rfl) dX10_text_103 (fun qn17 H hPn hDn hSn => ?_)
      refine lv_dup hx hb dX10_text_106 rfl ?_
      refine lv_iload_n hx hb dX10_text_107 rfl (lv_at hl 1 rfl) ?_
      refine lv_iload hx hb dX10_text_108 (lv_at hl 5 rfl) ?_
      refine lv_if_eq (tgt := 117) hx hb dX10_text_110 (by decide) (fun c18 => ?_) (fun c18 => ?_)
      · replace hf := hf.1 c18
        refine lv_bipush (v := (-9)) hx hb dX10_text_117 (by decide) ?_
        refine lv_iload_n hx hb dX10_text_119 rfl (lv_at hl 1 rfl) ?_
        refine lv_iconst (v := 2) hx hb dX10_text_120 (by decide) ?_
        refine lv_icmp_ne (tgt := 129) hx hb dX10_text_121 (by decide) (fun c19 => ?_) (fun c19 => ?_)
        · replace hf := hf.1 c19
          refine lv_bipush (v := (-9)) hx hb dX10_text_129 (by decide) ?_
          have IX : Ix p s m args c meth yX10_text.cls cX10_text 8 E := ⟨C.1, C.2.1, C.2.2.1, C.2.2.2.1, C.2.2.2.2.1, C.2.2.2.2.2.1, hAo, C.2.2.2.2.2.2.2.2, C.2.2.2.2.2.2.2.1⟩
          refine z_fin (rest := [.ref qn17]) C hPn hDn hSn (i_I (n := 3) (rest := [.ref qn17]) IX (z_last hPn) (kX8_init qn17 _ a1 (-9 : Int32) (-9 : Int32)) q396 q397 q55 q398 rfl rfl rfl (by decide +kernel) ⟨(Nat.le_of_ble_eq_true rfl), (Nat.le_of_ble_eq_true rfl)⟩ ⟨(Nat.le_of_ble_eq_true rfl), (Nat.le_of_ble_eq_true rfl)⟩ rfl hl.1 rfl (Nat.le_of_ble_eq_true rfl) dX10_text_131) (fun x20 H locs hPn hDn hSn => ?_)
          rw [w1_T (lay := lay) (σ := σ14) (t := tt)] at hPn hDn
          have hw2 : Wo E (layT lay tt qn17 x20) (L ++ idsT tt) A s (newText σ14 tt a1 (-9 : Int32) (-9 : Int32)) H locs := z_commit hPn hDn hSn hw.2.2.2.1 hw.2.2.2.2 hval (layT_ag hfr) (newText_same hfr) rfl rfl clo_T
          have hl2 := lv_sub (l' := [(0, .ref (lay 10 0)), (5, .ref (lay 5 i12))]) hl [0, 4] rfl
          rw [← show layT lay tt qn17 x20 10 0 = lay 10 0 from layT_ag hfr (10, 0) hm0, ← show layT lay tt qn17 x20 5 i12 = lay 5 i12 from layT_ag hfr (5, i12) hn_13] at hl2
          rw [show qn17 = layT lay tt qn17 x20 8 tt from by simp [layT]]
          exact eX10_text_t hAo (fun z hz => (layT_ag hfr z hz).trans (hag z hz)) (fun z hz => List.mem_append_left _ hz) C hret (List.mem_append_left _ hm0) (List.mem_append_left _ hn_13) (List.mem_append_right _ (by simp [idsT])) _ _ _ _ hf hw2 hl2
        · replace hf := hf.2 c19
          refine lv_iload hx hb dX10_text_124 (lv_at hl 3 rfl) ?_
          refine lv_goto (tgt := 131) hx hb dX10_text_126 (by decide) ?_
          have IX : Ix p s m args c meth yX10_text.cls cX10_text 8 E := ⟨C.1, C.2.1, C.2.2.1, C.2.2.2.1, C.2.2.2.2.1, C.2.2.2.2.2.1, hAo, C.2.2.2.2.2.2.2.2, C.2.2.2.2.2.2.2.1⟩
          refine z_fin (rest := [.ref qn17]) C hPn hDn hSn (i_I (n := 3) (rest := [.ref qn17]) IX (z_last hPn) (kX8_init qn17 _ a1 (-9 : Int32) a4) q396 q397 q55 q398 rfl rfl rfl (by decide +kernel) ⟨(Nat.le_of_ble_eq_true rfl), (Nat.le_of_ble_eq_true rfl)⟩ ⟨(Nat.le_of_ble_eq_true rfl), (Nat.le_of_ble_eq_true rfl)⟩ rfl hl.1 rfl (Nat.le_of_ble_eq_true rfl) dX10_text_131) (fun x28 H locs hPn hDn hSn => ?_)
          rw [w1_T (lay := lay) (σ := σ14) (t := tt)] at hPn hDn
          have hw2 : Wo E (layT lay tt qn17 x28) (L ++ idsT tt) A s (newText σ14 tt a1 (-9 : Int32) a4) H locs := z_commit hPn hDn hSn hw.2.2.2.1 hw.2.2.2.2 hval (layT_ag hfr) (newText_same hfr) rfl rfl clo_T
          have hl2 := lv_sub (l' := [(0, .ref (lay 10 0)), (5, .ref (lay 5 i12))]) hl [0, 4] rfl
          rw [← show layT lay tt qn17 x28 10 0 = lay 10 0 from layT_ag hfr (10, 0) hm0, ← show layT lay tt qn17 x28 5 i12 = lay 5 i12 from layT_ag hfr (5, i12) hn_13] at hl2
          rw [show qn17 = layT lay tt qn17 x28 8 tt from by simp [layT]]
          exact eX10_text_t hAo (fun z hz => (layT_ag hfr z hz).trans (hag z hz)) (fun z hz => List.mem_append_left _ hz) C hret (List.mem_append_left _ hm0) (List.mem_append_left _ hn_13) (List.mem_append_right _ (by simp [idsT])) _ _ _ _ hf hw2 hl2
      · replace hf := hf.2 c18
        refine lv_iload_n hx hb dX10_text_113 rfl (lv_at hl 2 rfl) ?_
        refine lv_goto (tgt := 119) hx hb dX10_text_114 (by decide) ?_
        refine lv_iload_n hx hb dX10_text_119 rfl (lv_at hl 1 rfl) ?_
        refine lv_iconst (v := 2) hx hb dX10_text_120 (by decide) ?_
        refine lv_icmp_ne (tgt := 129) hx hb dX10_text_121 (by decide) (fun c29 => ?_) (fun c29 => ?_)
        · replace hf := hf.1 c29
          refine lv_bipush (v := (-9)) hx hb dX10_text_129 (by decide) ?_
          have IX : Ix p s m args c meth yX10_text.cls cX10_text 8 E := ⟨C.1, C.2.1, C.2.2.1, C.2.2.2.1, C.2.2.2.2.1, C.2.2.2.2.2.1, hAo, C.2.2.2.2.2.2.2.2, C.2.2.2.2.2.2.2.1⟩
          refine z_fin (rest := [.ref qn17]) C hPn hDn hSn (i_I (n := 3) (rest := [.ref qn17]) IX (z_last hPn) (kX8_init qn17 _ a1 a3 (-9 : Int32)) q396 q397 q55 q398 rfl rfl rfl (by decide +kernel) ⟨(Nat.le_of_ble_eq_true rfl), (Nat.le_of_ble_eq_true rfl)⟩ ⟨(Nat.le_of_ble_eq_true rfl), (Nat.le_of_ble_eq_true rfl)⟩ rfl hl.1 rfl (Nat.le_of_ble_eq_true rfl) dX10_text_131) (fun x30 H locs hPn hDn hSn => ?_)
          rw [w1_T (lay := lay) (σ := σ14) (t := tt)] at hPn hDn
          have hw2 : Wo E (layT lay tt qn17 x30) (L ++ idsT tt) A s (newText σ14 tt a1 a3 (-9 : Int32)) H locs := z_commit hPn hDn hSn hw.2.2.2.1 hw.2.2.2.2 hval (layT_ag hfr) (newText_same hfr) rfl rfl clo_T
          have hl2 := lv_sub (l' := [(0, .ref (lay 10 0)), (5, .ref (lay 5 i12))]) hl [0, 4] rfl
          rw [← show layT lay tt qn17 x30 10 0 = lay 10 0 from layT_ag hfr (10, 0) hm0, ← show layT lay tt qn17 x30 5 i12 = lay 5 i12 from layT_ag hfr (5, i12) hn_13] at hl2
          rw [show qn17 = layT lay tt qn17 x30 8 tt from by simp [layT]]
          exact eX10_text_t hAo (fun z hz => (layT_ag hfr z hz).trans (hag z hz)) (fun z hz => List.mem_append_left _ hz) C hret (List.mem_append_left _ hm0) (List.mem_append_left _ hn_13) (List.mem_append_right _ (by simp [idsT])) _ _ _ _ hf hw2 hl2
        · replace hf := hf.2 c29
          refine lv_iload hx hb dX10_text_124 (lv_at hl 3 rfl) ?_
          refine lv_goto (tgt := 131) hx hb dX10_text_126 (by decide) ?_
          have IX : Ix p s m args c meth yX10_text.cls cX10_text 8 E := ⟨C.1, C.2.1, C.2.2.1, C.2.2.2.1, C.2.2.2.2.1, C.2.2.2.2.2.1, hAo, C.2.2.2.2.2.2.2.2, C.2.2.2.2.2.2.2.1⟩
          refine z_fin (rest := [.ref qn17]) C hPn hDn hSn (i_I (n := 3) (rest := [.ref qn17]) IX (z_last hPn) (kX8_init qn17 _ a1 a3 a4) q396 q397 q55 q398 rfl rfl rfl (by decide +kernel) ⟨(Nat.le_of_ble_eq_true rfl), (Nat.le_of_ble_eq_true rfl)⟩ ⟨(Nat.le_of_ble_eq_true rfl), (Nat.le_of_ble_eq_true rfl)⟩ rfl hl.1 rfl (Nat.le_of_ble_eq_true rfl) dX10_text_131) (fun x31 H locs hPn hDn hSn => ?_)
          rw [w1_T (lay := lay) (σ := σ14) (t := tt)] at hPn hDn
          have hw2 : Wo E (layT lay tt qn17 x31) (L ++ idsT tt) A s (newText σ14 tt a1 a3 a4) H locs := z_commit hPn hDn hSn hw.2.2.2.1 hw.2.2.2.2 hval (layT_ag hfr) (newText_same hfr) rfl rfl clo_T
          have hl2 := lv_sub (l' := [(0, .ref (lay 10 0)), (5, .ref (lay 5 i12))]) hl [0, 4] rfl
          rw [← show layT lay tt qn17 x31 10 0 = lay 10 0 from layT_ag hfr (10, 0) hm0, ← show layT lay tt qn17 x31 5 i12 = lay 5 i12 from layT_ag hfr (5, i12) hn_13] at hl2
          rw [show qn17 = layT lay tt qn17 x31 8 tt from by simp [layT]]
          exact eX10_text_t hAo (fun z hz => (layT_ag hfr z hz).trans (hag z hz)) (fun z hz => List.mem_append_left _ hz) C hret (List.mem_append_left _ hm0) (List.mem_append_left _ hn_13) (List.mem_append_right _ (by simp [idsT])) _ _ _ _ hf hw2 hl2
    · replace hf := hf.2 c16
      refine lv_aload_n hx hb dX10_text_97 rfl (lv_at hl 0 rfl) ?_
      refine lv_iconst (v := 1) hx hb dX10_text_98 (by decide) ?_
      refine x_runi hw (x_V (n := 1) (rest := []) C hw hm0 (by decide) (eX10_found hf hm0) q340 q342 q1 q44 q343 rfl rfl (by decide +kernel) ⟨Nat.le_of_ble_eq_true rfl, Nat.le_of_ble_eq_true rfl⟩ rfl hl.1 rfl (Nat.le_of_ble_eq_true rfl) dX10_text_99) (fun r33 σ32 H locs hf hw => ?_)
      try dsimp only at hf
      exact z_iret C hret hw hag hL hf (Nat.le_of_ble_eq_true rfl) (Nat.le_of_ble_eq_true rfl) dX10_text_102
  · replace hf := hf.2 c11
    refine lv_bipush (v := (-2)) hx hb dX10_text_86 (by decide) ?_
    exact z_iret C hret hw hag hL hf (Nat.le_of_ble_eq_true rfl) (Nat.le_of_ble_eq_true rfl) dX10_text_88
set_option maxHeartbeats 4000000 in
set_option maxRecDepth 100000 in
theorem eX10_text_b54 {p : Program} {l : Launch} {e : Env} {s : State} {m : MethodId} {args : Array Value} {below : List Frame} {meth : Method} {c : Code} {E : EC} {lay0 : Nat → Nat → Nat} {L0 : List (Nat × Nat)} {lay : Nat → Nat → Nat} {L : List (Nat × Nat)} {A : Nat → Prop} {tt : Nat} (hAo : Aos s) (hag : ∀ q ∈ L0, lay q.1 q.2 = lay0 q.1 q.2) (hL : ∀ q ∈ L0, q ∈ L) (hval : ∀ q ∈ L, q.1 < 12 ∨ 20 ≤ q.1) (hfr : ∀ z ∈ idsT tt, z ∉ L) (hLe : L = L0) (C : Cx p s m args c meth yX10_text.cls cX10_text 8 E A) (hret : meth.sig.returnType = some .int) {N : Nat} {a1 : Int32} {a2 : Int32} {a3 : Int32} {a4 : Int32} {Q : Int32 → St → List (Nat × Nat) → Prop} (hm0 : (10, 0) ∈ L) (σ : St) (v5 : Option Nat) (v6 : Int32) (H : Heap) (locs : List Loc) (ls : Array Slot) (hf : fX10_text_b54 N tt L0 a1 a2 a3 a4 Q σ v5 v6) (hw : Wo E lay L A s σ H locs) (hl : lv_has ls 8 [(0, .ref (lay 10 0)), (1, .int a1), (3, .int a3), (4, .int a4), (5, rf lay 5 v5), (6, .int v6)]) (hv5 : ∀ i, v5 = some i → (5, i) ∈ L) : W p l e rmX10_text s m args below meth c H locs 0 0 (MQ below (va_Qi (Qa lay0 L0 Q) (Bda E A) A) args s 7 429 A) (F0 m 54 ls []) := by
  subst hLe
  have hx := C.1
  have hb := C.2.1
  unfold fX10_text_b54 at hf
  refine lv_iload_n hx hb dX10_text_54 rfl (lv_at hl 1 rfl) ?_
  refine lv_iconst (v := 2) hx hb dX10_text_55 (by decide) ?_
  refine lv_icmp_ne (tgt := 74) hx hb dX10_text_56 (by decide) (fun c9 => ?_) (fun c9 => ?_)
  · replace hf := hf.1 c9
    exact eX10_text_b74 hAo hag hL hval hfr rfl C hret hm0 σ v5 v6 _ _ _ hf hw (lv_sub hl [0, 1, 2, 3, 4, 5] rfl) hv5
  · replace hf := hf.2 c9
    refine lv_iload hx hb dX10_text_59 (lv_at hl 3 rfl) ?_
    refine lv_if_lt (tgt := 72) hx hb dX10_text_61 (by decide) (fun c34 => ?_) (fun c34 => ?_)
    · replace hf := hf.1 c34
      refine lv_iconst (v := (-1)) hx hb dX10_text_72 (by decide) ?_
      exact z_iret C hret hw hag hL hf (Nat.le_of_ble_eq_true rfl) (Nat.le_of_ble_eq_true rfl) dX10_text_73
    · replace hf := hf.2 c34
      refine lv_iload hx hb dX10_text_64 (lv_at hl 3 rfl) ?_
      refine lv_sipush (v := 9999) hx hb dX10_text_66 (by decide) ?_
      refine lv_icmp_le (tgt := 74) hx hb dX10_text_69 (by decide) (fun c35 => ?_) (fun c35 => ?_)
      · replace hf := hf.1 c35
        exact eX10_text_b74 hAo hag hL hval hfr rfl C hret hm0 σ v5 v6 _ _ _ hf hw (lv_sub hl [0, 1, 2, 3, 4, 5] rfl) hv5
      · replace hf := hf.2 c35
        refine lv_iconst (v := (-1)) hx hb dX10_text_72 (by decide) ?_
        exact z_iret C hret hw hag hL hf (Nat.le_of_ble_eq_true rfl) (Nat.le_of_ble_eq_true rfl) dX10_text_73
set_option maxHeartbeats 4000000 in
set_option maxRecDepth 100000 in
theorem eX10_text_b38 {p : Program} {l : Launch} {e : Env} {s : State} {m : MethodId} {args : Array Value} {below : List Frame} {meth : Method} {c : Code} {E : EC} {lay0 : Nat → Nat → Nat} {L0 : List (Nat × Nat)} {lay : Nat → Nat → Nat} {L : List (Nat × Nat)} {A : Nat → Prop} {tt : Nat} (hAo : Aos s) (hag : ∀ q ∈ L0, lay q.1 q.2 = lay0 q.1 q.2) (hL : ∀ q ∈ L0, q ∈ L) (hval : ∀ q ∈ L, q.1 < 12 ∨ 20 ≤ q.1) (hfr : ∀ z ∈ idsT tt, z ∉ L) (hLe : L = L0) (C : Cx p s m args c meth yX10_text.cls cX10_text 8 E A) (hret : meth.sig.returnType = some .int) {N : Nat} {a1 : Int32} {a2 : Int32} {a3 : Int32} {a4 : Int32} {Q : Int32 → St → List (Nat × Nat) → Prop} (hm0 : (10, 0) ∈ L) (σ : St) (v5 : Option Nat) (t0 : Int32) (H : Heap) (locs : List Loc) (ls : Array Slot) (hf : fX10_text_b38 N tt L0 a1 a2 a3 a4 Q σ v5 t0) (hw : Wo E lay L A s σ H locs) (hl : lv_has ls 8 [(0, .ref (lay 10 0)), (1, .int a1), (3, .int a3), (4, .int a4), (5, rf lay 5 v5)]) (hv5 : ∀ i, v5 = some i → (5, i) ∈ L) : W p l e rmX10_text s m args below meth c H locs 0 0 (MQ below (va_Qi (Qa lay0 L0 Q) (Bda E A) A) args s 7 429 A) (F0 m 38 ls [.int t0]) := by
  subst hLe
  have hx := C.1
  have hb := C.2.1
  unfold fX10_text_b38 at hf
  refine lv_istore (lv' := [(6, .int t0), (0, .ref (lay 10 0)), (1, .int a1), (3, .int a3), (4, .int a4), (5, rf lay 5 v5)]) hx hb dX10_text_38 hl (by decide) (by simp [rf_cat]) (fun ls hl => ?_)
  refine lv_iload hx hb dX10_text_40 (lv_at hl 0 rfl) ?_
  refine lv_if_eq (tgt := 54) hx hb dX10_text_42 (by decide) (fun c8 => ?_) (fun c8 => ?_)
  · replace hf := hf.1 c8
    exact eX10_text_b54 hAo hag hL hval hfr rfl C hret hm0 σ v5 t0 _ _ _ hf hw (lv_sub hl [1, 2, 3, 4, 5, 0] rfl) hv5
  · replace hf := hf.2 c8
    refine lv_iload_n hx hb dX10_text_45 rfl (lv_at hl 3 rfl) ?_
    refine x_runi hw (x_S (n := 1) (rest := []) C hw (eX10_isWriter hf) q392 q393 q44 q394 rfl rfl (by decide +kernel) ⟨Nat.le_of_ble_eq_true rfl, Nat.le_of_ble_eq_true rfl⟩ rfl hl.1 rfl (Nat.le_of_ble_eq_true rfl) dX10_text_46) (fun r37 σ36 H locs hf hw => ?_)
    have hzr37 := hf.2
    replace hf := hf.1
    try dsimp only at hf
    refine lv_if_ne (tgt := 54) hx hb dX10_text_49 (by decide) (fun c38 => ?_) (fun c38 => ?_)
    · replace hf := hf.1 c38
      exact eX10_text_b54 hAo hag hL hval hfr rfl C hret hm0 σ36 v5 t0 _ _ _ hf hw (lv_sub hl [1, 2, 3, 4, 5, 0] rfl) hv5
    · replace hf := hf.2 c38
      refine lv_iconst (v := (-1)) hx hb dX10_text_52 (by decide) ?_
      exact z_iret C hret hw hag hL hf (Nat.le_of_ble_eq_true rfl) (Nat.le_of_ble_eq_true rfl) dX10_text_53
set_option maxHeartbeats 4000000 in
set_option maxRecDepth 100000 in
theorem eX10_text_b33 {p : Program} {l : Launch} {e : Env} {s : State} {m : MethodId} {args : Array Value} {below : List Frame} {meth : Method} {c : Code} {E : EC} {lay0 : Nat → Nat → Nat} {L0 : List (Nat × Nat)} {lay : Nat → Nat → Nat} {L : List (Nat × Nat)} {A : Nat → Prop} {tt : Nat} (hAo : Aos s) (hag : ∀ q ∈ L0, lay q.1 q.2 = lay0 q.1 q.2) (hL : ∀ q ∈ L0, q ∈ L) (hval : ∀ q ∈ L, q.1 < 12 ∨ 20 ≤ q.1) (hfr : ∀ z ∈ idsT tt, z ∉ L) (hLe : L = L0) (C : Cx p s m args c meth yX10_text.cls cX10_text 8 E A) (hret : meth.sig.returnType = some .int) {N : Nat} {a1 : Int32} {a2 : Int32} {a3 : Int32} {a4 : Int32} {Q : Int32 → St → List (Nat × Nat) → Prop} (hm0 : (10, 0) ∈ L) (σ : St) (v5 : Option Nat) (H : Heap) (locs : List Loc) (ls : Array Slot) (hf : fX10_text_b33 N tt L0 a1 a2 a3 a4 Q σ v5) (hw : Wo E lay L A s σ H locs) (hl : lv_has ls 8 [(0, .ref (lay 10 0)), (1, .int a1), (3, .int a3), (4, .int a4), (5, rf lay 5 v5)]) (hv5 : ∀ i, v5 = some i → (5, i) ∈ L) : W p l e rmX10_text s m args below meth c H locs 0 0 (MQ below (va_Qi (Qa lay0 L0 Q) (Bda E A) A) args s 7 429 A) (F0 m 33 ls []) := by
  subst hLe
  have hx := C.1
  have hb := C.2.1
  unfold fX10_text_b33 at hf
  refine lv_iconst (v := 1) hx hb dX10_text_33 (by decide) ?_
  refine lv_goto (tgt := 38) hx hb dX10_text_34 (by decide) ?_
  exact eX10_text_b38 hAo hag hL hval hfr rfl C hret hm0 σ v5 (1 : Int32) _ _ _ hf hw (lv_sub hl [0, 1, 2, 3, 4] rfl) hv5
set_option maxHeartbeats 4000000 in
set_option maxRecDepth 100000 in
theorem eX10_text {l : Launch} {E : EC} {lay0 : Nat → Nat → Nat} {L0 : List (Nat × Nat)} {A : Nat → Prop} {N tt : Nat} {σ : St} {a1 : Int32} {a2 : Int32} {a3 : Int32} {a4 : Int32} {Q : Int32 → St → List (Nat × Nat) → Prop} (hf : fX10_text N σ tt L0 a1 a2 a3 a4 Q) (hm0 : (10, 0) ∈ L0) (hval : ∀ q ∈ L0, q.1 < 12 ∨ 20 ≤ q.1) (hfr : ∀ z ∈ idsT tt, z ∉ L0) : Met l yX10_text (.code yX10_text cX10_text 8 (some .int) :: big) rmX10_text (va_Pc [.ref (lay0 10 0), .int a1, .int a2, .int a3, .int a4] (Bpa E lay0 L0 A σ)) (va_Qi (Qa lay0 L0 Q) (Bda E A) A) 7 429 A := by
  refine z_met (by decide +kernel) (Nat.le_of_ble_eq_true rfl) ?_
  intro p e s m args below meth c ls hAo C hret hw hl
  have hx := C.1
  have hb := C.2.1
  have hl : lv_has ls 8 [(0, .ref (lay0 10 0)), (1, .int a1), (2, .int a2), (3, .int a3), (4, .int a4)] := hl
  unfold fX10_text at hf
  have hag : ∀ q ∈ L0, lay0 q.1 q.2 = lay0 q.1 q.2 := fun _ _ => rfl
  have hL : ∀ q ∈ L0, q ∈ L0 := fun _ h => h
  have hLe : L0 = L0 := rfl
  refine lv_aload_n hx hb dX10_text_0 rfl (lv_at hl 0 rfl) ?_
  refine lv_iload_n hx hb dX10_text_1 rfl (lv_at hl 2 rfl) ?_
  refine x_runq hw (x_V (n := 1) (rest := []) C hw hm0 (by decide) (eX10_sheetAt hf hm0) q336 q338 q0 q44 q339 rfl rfl (by decide +kernel) ⟨Nat.le_of_ble_eq_true rfl, Nat.le_of_ble_eq_true rfl⟩ rfl hl.1 rfl (Nat.le_of_ble_eq_true rfl) dX10_text_2) (fun r2 σ1 H locs hf hOr2 hw => ?_)
  try dsimp only at hf
  refine x_astore (lv' := [(5, rf lay0 5 r2), (0, .ref (lay0 10 0)), (1, .int a1), (2, .int a2), (3, .int a3), (4, .int a4)]) hx hb dX10_text_5 hl (by decide) rfl (fun ls hl => ?_)
  refine x_aload hx hb dX10_text_7 (lv_at hl 0 rfl) ?_
  refine x_ifnull (r := r2) (tgt := 21) hx hb dX10_text_9 (by decide) (fun eni3 => ?_) (fun i3 eni3 => ?_)
  · replace hf := hf.1 eni3
    refine lv_iconst (v := (-1)) hx hb dX10_text_21 (by decide) ?_
    exact z_iret C hret hw hag hL hf (Nat.le_of_ble_eq_true rfl) (Nat.le_of_ble_eq_true rfl) dX10_text_22
  · replace hf := hf.2 i3 eni3
    have hn_4 := hOr2 i3 eni3
    rw [eni3] at hl
    try rw [eni3]
    have hl : lv_has ls 8 [(5, .ref (lay0 5 i3)), (0, .ref (lay0 10 0)), (1, .int a1), (2, .int a2), (3, .int a3), (4, .int a4)] := hl
    refine lv_iload_n hx hb dX10_text_12 rfl (lv_at hl 2 rfl) ?_
    refine lv_if_lt (tgt := 21) hx hb dX10_text_13 (by decide) (fun c5 => ?_) (fun c5 => ?_)
    · replace hf := hf.1 c5
      refine lv_iconst (v := (-1)) hx hb dX10_text_21 (by decide) ?_
      exact z_iret C hret hw hag hL hf (Nat.le_of_ble_eq_true rfl) (Nat.le_of_ble_eq_true rfl) dX10_text_22
    · replace hf := hf.2 c5
      refine lv_iload_n hx hb dX10_text_16 rfl (lv_at hl 2 rfl) ?_
      refine lv_iconst (v := 3) hx hb dX10_text_17 (by decide) ?_
      refine lv_icmp_le (tgt := 23) hx hb dX10_text_18 (by decide) (fun c6 => ?_) (fun c6 => ?_)
      · replace hf := hf.1 c6
        refine lv_iload_n hx hb dX10_text_23 rfl (lv_at hl 2 rfl) ?_
        refine lv_iconst (v := 1) hx hb dX10_text_24 (by decide) ?_
        refine lv_icmp_eq (tgt := 33) hx hb dX10_text_25 (by decide) (fun c7 => ?_) (fun c7 => ?_)
        · replace hf := hf.1 c7
          exact eX10_text_b33 hAo hag hL hval hfr rfl C hret hm0 σ1 (some i3) _ _ _ hf hw (lv_sub hl [1, 2, 4, 5, 0] rfl) (fun i h => by cases h; exact hn_4)
        · replace hf := hf.2 c7
          refine lv_iload_n hx hb dX10_text_28 rfl (lv_at hl 2 rfl) ?_
          refine lv_iconst (v := 2) hx hb dX10_text_29 (by decide) ?_
          refine lv_icmp_ne (tgt := 37) hx hb dX10_text_30 (by decide) (fun c39 => ?_) (fun c39 => ?_)
          · replace hf := hf.1 c39
            refine lv_iconst (v := 0) hx hb dX10_text_37 (by decide) ?_
            exact eX10_text_b38 hAo hag hL hval hfr rfl C hret hm0 σ1 (some i3) (0 : Int32) _ _ _ hf hw (lv_sub hl [1, 2, 4, 5, 0] rfl) (fun i h => by cases h; exact hn_4)
          · replace hf := hf.2 c39
            exact eX10_text_b33 hAo hag hL hval hfr rfl C hret hm0 σ1 (some i3) _ _ _ hf hw (lv_sub hl [1, 2, 4, 5, 0] rfl) (fun i h => by cases h; exact hn_4)
      · replace hf := hf.2 c6
        refine lv_iconst (v := (-1)) hx hb dX10_text_21 (by decide) ?_
        exact z_iret C hret hw hag hL hf (Nat.le_of_ble_eq_true rfl) (Nat.le_of_ble_eq_true rfl) dX10_text_22
-- X10_feature
abbrev rmX10_feature : Room := { frames := 6, cells := 2, slots := 16, locals := 139 }
def fX10_feature_t (N : Nat) (tt : Nat) (L0 : List (Nat × Nat)) (a1 : Int32) (a2 : Int32) (L : List (Nat × Nat)) (Q : Int32 → St → List (Nat × Nat) → Prop) (σ : St) : Prop := ((¬ a1 = (3 : Int32) → fX2_take N σ tt (fun (r16 : Int32) (σ15 : St) => Q r16 σ15 L)) ∧ (a1 = (3 : Int32) → fX0_learnWord N σ tt 14 (0 : Int32) (fun (σ18 : St) => fX2_take N σ18 tt (fun (r22 : Int32) (σ21 : St) => Q r22 σ21 L))))
def fX10_feature_b75 (N : Nat) (tt : Nat) (L0 : List (Nat × Nat)) (a1 : Int32) (a2 : Int32) (Q : Int32 → St → List (Nat × Nat) → Prop) (σ : St) : Prop := ∀ r10 : Int32, r10 = smallV a2 → fX10_feature_t N tt L0 a1 a2 (L0 ++ idsF tt) Q (newFeat σ tt a1 r10)
def fX10_feature_b45 (N : Nat) (tt : Nat) (L0 : List (Nat × Nat)) (a1 : Int32) (a2 : Int32) (Q : Int32 → St → List (Nat × Nat) → Prop) (σ : St) : Prop := fX10_found N σ (1 : Int32) (fun (r37 : Int32) (σ36 : St) => Q r37 σ36 L0)
def fX10_feature (N : Nat) (σ : St) (tt : Nat) (L0 : List (Nat × Nat)) (a1 : Int32) (a2 : Int32) (Q : Int32 → St → List (Nat × Nat) → Prop) : Prop := fX10_isFeatureValue N σ a1 a2 (fun (r2 : Int32) (σ1 : St) => ((¬ r2 = 0 → fX2_isFull N σ1 (fun (r6 : Int32) (σ5 : St) => ((r6 = 0 → ((¬ a1 = (3 : Int32) → fX10_feature_b75 N tt L0 a1 a2 Q σ5) ∧ (a1 = (3 : Int32) → fX10_sheetAt N σ5 a2 (fun (r24 : Option Nat) (σ23 : St) => ((r24 = none → fX10_feature_b45 N tt L0 a1 a2 Q σ23) ∧ (∀ i25, r24 = some i25 → fX5_isMissing N σ23 i25 (fun (r28 : Int32) (σ27 : St) => ((r28 = 0 → fX4_read N σ27 14 i25 (fun (σ31 : St) => ((¬ (sF σ31 4 14 4) = 0 → fX10_feature_b75 N tt L0 a1 a2 Q σ31) ∧ ((sF σ31 4 14 4) = 0 → fX10_found N σ31 (5 : Int32) (fun (r35 : Int32) (σ34 : St) => Q r35 σ34 L0))))) ∧ (¬ r28 = 0 → fX10_feature_b45 N tt L0 a1 a2 Q σ27))))))))) ∧ (¬ r6 = 0 → Q (-2 : Int32) σ5 L0)))) ∧ (r2 = 0 → Q (-1 : Int32) σ1 L0)))
set_option maxHeartbeats 4000000 in
set_option maxRecDepth 100000 in
theorem eX10_feature_t {p : Program} {l : Launch} {e : Env} {s : State} {m : MethodId} {args : Array Value} {below : List Frame} {meth : Method} {c : Code} {E : EC} {lay0 : Nat → Nat → Nat} {L0 : List (Nat × Nat)} {lay : Nat → Nat → Nat} {L : List (Nat × Nat)} {A : Nat → Prop} {tt : Nat} (hAo : Aos s) (hag : ∀ q ∈ L0, lay q.1 q.2 = lay0 q.1 q.2) (hL : ∀ q ∈ L0, q ∈ L) (C : Cx p s m args c meth yX10_feature.cls cX10_feature 4 E A) (hret : meth.sig.returnType = some .int) {N : Nat} {a1 : Int32} {a2 : Int32} {Q : Int32 → St → List (Nat × Nat) → Prop} (hm0 : (10, 0) ∈ L) (hmT : (0, tt) ∈ L) (σ : St) (H : Heap) (locs : List Loc) (ls : Array Slot) (hf : fX10_feature_t N tt L0 a1 a2 L Q σ) (hw : Wo E lay L A s σ H locs) (hl : lv_has ls 4 [(0, .ref (lay 10 0)), (1, .int a1)]) : W p l e rmX10_feature s m args below meth c H locs (0 + 1 + 1) (0 + 4 + 12) (MQ below (va_Qi (Qa lay0 L0 Q) (Bda E A) A) args s 2 16 A) (F0 m 87 ls [.ref (lay 0 tt)]) := by
  have hx := C.1
  have hb := C.2.1
  unfold fX10_feature_t at hf
  refine lv_astore_n (lv' := [(3, .ref (lay 0 tt)), (0, .ref (lay 10 0)), (1, .int a1)]) hx hb dX10_feature_87 rfl hl (by decide) rfl (fun ls hl => ?_)
  refine lv_iload_n hx hb dX10_feature_88 rfl (lv_at hl 2 rfl) ?_
  refine lv_iconst (v := 3) hx hb dX10_feature_89 (by decide) ?_
  refine lv_icmp_ne (tgt := 102) hx hb dX10_feature_90 (by decide) (fun c12 => ?_) (fun c12 => ?_)
  · replace hf := hf.1 c12
    refine lv_aload_n hx hb dX10_feature_102 rfl (lv_at hl 1 rfl) ?_
    have hm_13 : (2, 0) ∈ L := hw.2.2.2.1 10 0 hm0 2 (by decide) (by decide) rfl
    refine x_get (v := .ref (lay 2 0)) (j := 2) C hw hm0 rfl (by decide) (by decide) rfl q291 dX10_feature_103 ?_
    refine lv_aload_n hx hb dX10_feature_106 rfl (lv_at hl 0 rfl) ?_
    refine lv_aload_n hx hb dX10_feature_107 rfl (lv_at hl 1 rfl) ?_
    have hm_14 : (21, 0) ∈ L := hw.2.2.2.1 10 0 hm0 1 (by decide) (by decide) rfl
    refine x_get (v := .ref (lay 21 0)) (j := 1) C hw hm0 rfl (by decide) (by decide) rfl q290 dX10_feature_108 ?_
    refine y_runi hw (y_V (n := 2) (rest := []) C hw hm_13 (by decide) (eX2_take hf hm_13 hmT hm_14) q570 q571 q572 q45 q573 rfl rfl (by decide +kernel) ⟨Nat.le_of_ble_eq_true rfl, Nat.le_of_ble_eq_true rfl⟩ rfl hl.1 rfl (Nat.le_of_ble_eq_true rfl) ⟨Nat.le_of_ble_eq_true rfl, Nat.le_of_ble_eq_true rfl⟩ dX10_feature_111) (fun r16 σ15 H locs hf hw => ?_)
    try dsimp only at hf
    exact z_iret C hret hw hag hL hf (Nat.le_of_ble_eq_true rfl) (Nat.le_of_ble_eq_true rfl) dX10_feature_114
  · replace hf := hf.2 c12
    refine lv_aload_n hx hb dX10_feature_93 rfl (lv_at hl 0 rfl) ?_
    refine lv_aload_n hx hb dX10_feature_94 rfl (lv_at hl 1 rfl) ?_
    have hm_17 : (4, 14) ∈ L := hw.2.2.2.1 10 0 hm0 7 (by decide) (by decide) rfl
    refine x_get (v := .ref (lay 4 14)) (j := 7) C hw hm0 rfl (by decide) (by decide) rfl q296 dX10_feature_95 ?_
    refine lv_iconst (v := 0) hx hb dX10_feature_98 (by decide) ?_
    refine y_runv hw (y_V (n := 2) (rest := []) C hw hmT (by decide) (eX0_learnWord hf hmT hm_17) q566 q567 q568 q57 q569 rfl rfl (by decide +kernel) ⟨Nat.le_of_ble_eq_true rfl, Nat.le_of_ble_eq_true rfl⟩ rfl hl.1 rfl (Nat.le_of_ble_eq_true rfl) ⟨Nat.le_of_ble_eq_true rfl, Nat.le_of_ble_eq_true rfl⟩ dX10_feature_99) (fun σ18 H locs hf hw => ?_)
    try dsimp only at hf
    refine lv_aload_n hx hb dX10_feature_102 rfl (lv_at hl 1 rfl) ?_
    have hm_19 : (2, 0) ∈ L := hw.2.2.2.1 10 0 hm0 2 (by decide) (by decide) rfl
    refine x_get (v := .ref (lay 2 0)) (j := 2) C hw hm0 rfl (by decide) (by decide) rfl q291 dX10_feature_103 ?_
    refine lv_aload_n hx hb dX10_feature_106 rfl (lv_at hl 0 rfl) ?_
    refine lv_aload_n hx hb dX10_feature_107 rfl (lv_at hl 1 rfl) ?_
    have hm_20 : (21, 0) ∈ L := hw.2.2.2.1 10 0 hm0 1 (by decide) (by decide) rfl
    refine x_get (v := .ref (lay 21 0)) (j := 1) C hw hm0 rfl (by decide) (by decide) rfl q290 dX10_feature_108 ?_
    refine y_runi hw (y_V (n := 2) (rest := []) C hw hm_19 (by decide) (eX2_take hf hm_19 hmT hm_20) q570 q571 q572 q45 q573 rfl rfl (by decide +kernel) ⟨Nat.le_of_ble_eq_true rfl, Nat.le_of_ble_eq_true rfl⟩ rfl hl.1 rfl (Nat.le_of_ble_eq_true rfl) ⟨Nat.le_of_ble_eq_true rfl, Nat.le_of_ble_eq_true rfl⟩ dX10_feature_111) (fun r22 σ21 H locs hf hw => ?_)
    try dsimp only at hf
    exact z_iret C hret hw hag hL hf (Nat.le_of_ble_eq_true rfl) (Nat.le_of_ble_eq_true rfl) dX10_feature_114
set_option maxHeartbeats 4000000 in
set_option maxRecDepth 100000 in
theorem eX10_feature_b75 {p : Program} {l : Launch} {e : Env} {s : State} {m : MethodId} {args : Array Value} {below : List Frame} {meth : Method} {c : Code} {E : EC} {lay0 : Nat → Nat → Nat} {L0 : List (Nat × Nat)} {lay : Nat → Nat → Nat} {L : List (Nat × Nat)} {A : Nat → Prop} {tt : Nat} (hAo : Aos s) (hag : ∀ q ∈ L0, lay q.1 q.2 = lay0 q.1 q.2) (hL : ∀ q ∈ L0, q ∈ L) (hval : ∀ q ∈ L, q.1 < 12 ∨ 20 ≤ q.1) (hfr : ∀ z ∈ idsF tt, z ∉ L) (hLe : L = L0) (C : Cx p s m args c meth yX10_feature.cls cX10_feature 4 E A) (hret : meth.sig.returnType = some .int) {N : Nat} {a1 : Int32} {a2 : Int32} {Q : Int32 → St → List (Nat × Nat) → Prop} (hm0 : (10, 0) ∈ L) (σ : St) (H : Heap) (locs : List Loc) (ls : Array Slot) (hf : fX10_feature_b75 N tt L0 a1 a2 Q σ) (hw : Wo E lay L A s σ H locs) (hl : lv_has ls 4 [(0, .ref (lay 10 0)), (1, .int a1), (2, .int a2)]) : W p l e rmX10_feature s m args below meth c H locs 0 0 (MQ below (va_Qi (Qa lay0 L0 Q) (Bda E A) A) args s 2 16 A) (F0 m 75 ls []) := by
  subst hLe
  have hx := C.1
  have hb := C.2.1
  unfold fX10_feature_b75 at hf
  refine va_new (fs := [.int 0, .int 0, .null, .int 0]) hx hb C.2.2.2.2.1 (inK 0 (by decide)) (tyT 0) (tyK 0 (by decide)) C.2.2.2.1 (C.2.2.2.2.1 _ q546) (C.2.2.2.2.1 _ q490) (C.2.2.2.2.1 _ q57) C.2.2.2.2.2.1 hw.1 hw.2.1 hw.2.2.1 C.2.2.2.2.2.2.1 (cls_get 0 (by decide)) (fun j hj => by have hj : j < 4 := hj; rcases (show j = 0 ∨ j = 1 ∨ j = 2 ∨ j = 3 by omega) with rfl | rfl | rfl | rfl <;> rfl) (Nat.le_of_ble_eq_true rfl) (Nat.le_of_ble_eq_true rfl) dX10_feature_75 (fun qn9 H hPn hDn hSn => ?_)
  refine lv_dup hx hb dX10_feature_78 rfl ?_
  refine lv_iload_n hx hb dX10_feature_79 rfl (lv_at hl 1 rfl) ?_
  refine lv_iload_n hx hb dX10_feature_80 rfl (lv_at hl 2 rfl) ?_
  refine z_pure (σ' := zSt) (lay' := lay) (rest := [.int a1, .ref qn9, .ref qn9]) C hPn hSn (va_runS (As := [.int a2]) (rest := [.int a1, .ref qn9, .ref qn9]) ⟨C.1, C.2.1, C.2.2.1, C.2.2.2.1, C.2.2.2.2.1⟩ (eX10_smallSign (L := []) (lay := lay) (E := E) (N := 0) (small_ok 0 zSt a2)) (cwS 1 C.2.2.2.2.1 (x_gs q547 q447 q44 q448) rfl rfl rfl (by decide +kernel) ⟨(Nat.le_of_ble_eq_true rfl), (Nat.le_of_ble_eq_true rfl)⟩) ⟨Bp_blind, fun U hU hW => ⟨rfl, z_wl0 (fun _ _ _ => rfl) (fun q hq => by rw [hU] at hq; exact hq) (C.2.2.2.2.2.2.2.2.warm hW) (va_K.moved hW.alike C.2.2.2.2.2.1)⟩⟩ rfl rfl hl.1 rfl (lv_room (Nat.le_of_ble_eq_true rfl)) dX10_feature_81 ⟨(Nat.le_of_ble_eq_true rfl), (Nat.le_of_ble_eq_true rfl)⟩) (fun r10 _ H locs er10 hPn hSn _ _ => ?_)
  replace hf := hf r10 er10
  have IX : Ix p s m args c meth yX10_feature.cls cX10_feature 4 E := ⟨C.1, C.2.1, C.2.2.1, C.2.2.2.1, C.2.2.2.2.1, C.2.2.2.2.2.1, hAo, C.2.2.2.2.2.2.2.2, C.2.2.2.2.2.2.2.1⟩
  refine z_fin (rest := [.ref qn9]) C hPn hDn hSn (i_I (n := 2) (rest := [.ref qn9]) IX (z_last hPn) (kX0_init qn9 _ a1 r10) q548 q549 q57 q550 rfl rfl rfl (by decide +kernel) ⟨(Nat.le_of_ble_eq_true rfl), (Nat.le_of_ble_eq_true rfl)⟩ ⟨(Nat.le_of_ble_eq_true rfl), (Nat.le_of_ble_eq_true rfl)⟩ rfl hl.1 rfl (Nat.le_of_ble_eq_true rfl) dX10_feature_84) (fun x11 H locs hPn hDn hSn => ?_)
  rw [w1_F (lay := lay) (σ := σ) (t := tt)] at hPn hDn
  have hw2 : Wo E (layF lay tt qn9 x11) (L ++ idsF tt) A s (newFeat σ tt a1 r10) H locs := z_commit hPn hDn hSn hw.2.2.2.1 hw.2.2.2.2 hval (layF_ag hfr) (newFeat_same hfr) rfl rfl clo_F
  have hl2 := lv_sub (l' := [(0, .ref (lay 10 0)), (1, .int a1)]) hl [0, 1] rfl
  rw [← show layF lay tt qn9 x11 10 0 = lay 10 0 from layF_ag hfr (10, 0) hm0] at hl2
  rw [show qn9 = layF lay tt qn9 x11 0 tt from by simp [layF]]
  exact eX10_feature_t hAo (fun z hz => (layF_ag hfr z hz).trans (hag z hz)) (fun z hz => List.mem_append_left _ hz) C hret (List.mem_append_left _ hm0) (List.mem_append_right _ (by simp [idsF])) _ _ _ _ hf hw2 hl2
set_option maxHeartbeats 4000000 in
set_option maxRecDepth 100000 in
theorem eX10_feature_b45 {p : Program} {l : Launch} {e : Env} {s : State} {m : MethodId} {args : Array Value} {below : List Frame} {meth : Method} {c : Code} {E : EC} {lay0 : Nat → Nat → Nat} {L0 : List (Nat × Nat)} {lay : Nat → Nat → Nat} {L : List (Nat × Nat)} {A : Nat → Prop} {tt : Nat} (hAo : Aos s) (hag : ∀ q ∈ L0, lay q.1 q.2 = lay0 q.1 q.2) (hL : ∀ q ∈ L0, q ∈ L) (hval : ∀ q ∈ L, q.1 < 12 ∨ 20 ≤ q.1) (hfr : ∀ z ∈ idsF tt, z ∉ L) (hLe : L = L0) (C : Cx p s m args c meth yX10_feature.cls cX10_feature 4 E A) (hret : meth.sig.returnType = some .int) {N : Nat} {a1 : Int32} {a2 : Int32} {Q : Int32 → St → List (Nat × Nat) → Prop} (hm0 : (10, 0) ∈ L) (σ : St) (H : Heap) (locs : List Loc) (ls : Array Slot) (hf : fX10_feature_b45 N tt L0 a1 a2 Q σ) (hw : Wo E lay L A s σ H locs) (hl : lv_has ls 4 [(0, .ref (lay 10 0))]) : W p l e rmX10_feature s m args below meth c H locs 0 0 (MQ below (va_Qi (Qa lay0 L0 Q) (Bda E A) A) args s 2 16 A) (F0 m 45 ls []) := by
  subst hLe
  have hx := C.1
  have hb := C.2.1
  unfold fX10_feature_b45 at hf
  refine lv_aload_n hx hb dX10_feature_45 rfl (lv_at hl 0 rfl) ?_
  refine lv_iconst (v := 1) hx hb dX10_feature_46 (by decide) ?_
  refine x_runi hw (x_V (n := 1) (rest := []) C hw hm0 (by decide) (eX10_found hf hm0) q340 q342 q1 q44 q343 rfl rfl (by decide +kernel) ⟨Nat.le_of_ble_eq_true rfl, Nat.le_of_ble_eq_true rfl⟩ rfl hl.1 rfl (Nat.le_of_ble_eq_true rfl) dX10_feature_47) (fun r37 σ36 H locs hf hw => ?_)
  try dsimp only at hf
  exact z_iret C hret hw hag hL hf (Nat.le_of_ble_eq_true rfl) (Nat.le_of_ble_eq_true rfl) dX10_feature_50
set_option maxHeartbeats 4000000 in
set_option maxRecDepth 100000 in
theorem eX10_feature {l : Launch} {E : EC} {lay0 : Nat → Nat → Nat} {L0 : List (Nat × Nat)} {A : Nat → Prop} {N tt : Nat} {σ : St} {a1 : Int32} {a2 : Int32} {Q : Int32 → St → List (Nat × Nat) → Prop} (hf : fX10_feature N σ tt L0 a1 a2 Q) (hm0 : (10, 0) ∈ L0) (hval : ∀ q ∈ L0, q.1 < 12 ∨ 20 ≤ q.1) (hfr : ∀ z ∈ idsF tt, z ∉ L0) : Met l yX10_feature (.code yX10_feature cX10_feature 4 (some .int) :: big) rmX10_feature (va_Pc [.ref (lay0 10 0), .int a1, .int a2] (Bpa E lay0 L0 A σ)) (va_Qi (Qa lay0 L0 Q) (Bda E A) A) 2 16 A := by
  refine z_met (by decide +kernel) (Nat.le_of_ble_eq_true rfl) ?_
  intro p e s m args below meth c ls hAo C hret hw hl
  have hx := C.1
  have hb := C.2.1
  have hl : lv_has ls 4 [(0, .ref (lay0 10 0)), (1, .int a1), (2, .int a2)] := hl
  unfold fX10_feature at hf
  have hag : ∀ q ∈ L0, lay0 q.1 q.2 = lay0 q.1 q.2 := fun _ _ => rfl
  have hL : ∀ q ∈ L0, q ∈ L0 := fun _ h => h
  have hLe : L0 = L0 := rfl
  refine lv_iload_n hx hb dX10_feature_0 rfl (lv_at hl 1 rfl) ?_
  refine lv_iload_n hx hb dX10_feature_1 rfl (lv_at hl 2 rfl) ?_
  refine x_runi hw (x_S (n := 2) (rest := []) C hw (eX10_isFeatureValue hf) q537 q538 q44 q539 rfl rfl (by decide +kernel) ⟨Nat.le_of_ble_eq_true rfl, Nat.le_of_ble_eq_true rfl⟩ rfl hl.1 rfl (Nat.le_of_ble_eq_true rfl) dX10_feature_2) (fun r2 σ1 H locs hf hw => ?_)
  have hzr2 := hf.2
  replace hf := hf.1
  try dsimp only at hf
  refine lv_if_ne (tgt := 10) hx hb dX10_feature_5 (by decide) (fun c3 => ?_) (fun c3 => ?_)
  · replace hf := hf.1 c3
    refine lv_aload_n hx hb dX10_feature_10 rfl (lv_at hl 0 rfl) ?_
    have hm_4 : (2, 0) ∈ L0 := hw.2.2.2.1 10 0 hm0 2 (by decide) (by decide) rfl
    refine x_get (v := .ref (lay0 2 0)) (j := 2) C hw hm0 rfl (by decide) (by decide) rfl q291 dX10_feature_11 ?_
    refine x_runi hw (x_V (n := 0) (rest := []) C hw hm_4 (by decide) (eX2_isFull hf hm_4) q542 q543 q544 q45 q545 rfl rfl (by decide +kernel) ⟨Nat.le_of_ble_eq_true rfl, Nat.le_of_ble_eq_true rfl⟩ rfl hl.1 rfl (Nat.le_of_ble_eq_true rfl) dX10_feature_14) (fun r6 σ5 H locs hf hw => ?_)
    have hzr6 := hf.2
    replace hf := hf.1
    try dsimp only at hf
    refine lv_if_eq (tgt := 23) hx hb dX10_feature_17 (by decide) (fun c7 => ?_) (fun c7 => ?_)
    · replace hf := hf.1 c7
      refine lv_iload_n hx hb dX10_feature_23 rfl (lv_at hl 1 rfl) ?_
      refine lv_iconst (v := 3) hx hb dX10_feature_24 (by decide) ?_
      refine lv_icmp_ne (tgt := 75) hx hb dX10_feature_25 (by decide) (fun c8 => ?_) (fun c8 => ?_)
      · replace hf := hf.1 c8
        exact eX10_feature_b75 hAo hag hL hval hfr rfl C hret hm0 σ5 _ _ _ hf hw (lv_sub hl [0, 1, 2] rfl)
      · replace hf := hf.2 c8
        refine lv_aload_n hx hb dX10_feature_28 rfl (lv_at hl 0 rfl) ?_
        refine lv_iload_n hx hb dX10_feature_29 rfl (lv_at hl 2 rfl) ?_
        refine x_runq hw (x_V (n := 1) (rest := []) C hw hm0 (by decide) (eX10_sheetAt hf hm0) q336 q338 q0 q44 q339 rfl rfl (by decide +kernel) ⟨Nat.le_of_ble_eq_true rfl, Nat.le_of_ble_eq_true rfl⟩ rfl hl.1 rfl (Nat.le_of_ble_eq_true rfl) dX10_feature_30) (fun r24 σ23 H locs hf hOr24 hw => ?_)
        try dsimp only at hf
        refine x_astore_n (lv' := [(3, rf lay0 5 r24), (0, .ref (lay0 10 0)), (1, .int a1), (2, .int a2)]) hx hb dX10_feature_33 rfl hl (by decide) rfl (fun ls hl => ?_)
        refine x_aload_n hx hb dX10_feature_34 rfl (lv_at hl 0 rfl) ?_
        refine x_ifnull (r := r24) (tgt := 45) hx hb dX10_feature_35 (by decide) (fun eni25 => ?_) (fun i25 eni25 => ?_)
        · replace hf := hf.1 eni25
          exact eX10_feature_b45 hAo hag hL hval hfr rfl C hret hm0 σ23 _ _ _ hf hw (lv_sub hl [1] rfl)
        · replace hf := hf.2 i25 eni25
          have hn_26 := hOr24 i25 eni25
          rw [eni25] at hl
          try rw [eni25]
          have hl : lv_has ls 4 [(3, .ref (lay0 5 i25)), (0, .ref (lay0 10 0)), (1, .int a1), (2, .int a2)] := hl
          refine lv_aload_n hx hb dX10_feature_38 rfl (lv_at hl 0 rfl) ?_
          refine x_runi hw (x_V (n := 0) (rest := []) C hw hn_26 (by decide) (eX5_isMissing hf hn_26) q352 q353 q354 q52 q355 rfl rfl (by decide +kernel) ⟨Nat.le_of_ble_eq_true rfl, Nat.le_of_ble_eq_true rfl⟩ rfl hl.1 rfl (Nat.le_of_ble_eq_true rfl) dX10_feature_39) (fun r28 σ27 H locs hf hw => ?_)
          have hzr28 := hf.2
          replace hf := hf.1
          try dsimp only at hf
          refine lv_if_eq (tgt := 51) hx hb dX10_feature_42 (by decide) (fun c29 => ?_) (fun c29 => ?_)
          · replace hf := hf.1 c29
            refine lv_aload_n hx hb dX10_feature_51 rfl (lv_at hl 1 rfl) ?_
            have hm_30 : (4, 14) ∈ L0 := hw.2.2.2.1 10 0 hm0 7 (by decide) (by decide) rfl
            refine x_get (v := .ref (lay0 4 14)) (j := 7) C hw hm0 rfl (by decide) (by decide) rfl q296 dX10_feature_52 ?_
            refine lv_aload_n hx hb dX10_feature_55 rfl (lv_at hl 0 rfl) ?_
            refine x_runv hw (x_V (n := 1) (rest := []) C hw hm_30 (by decide) (eX4_read hf hm_30 hn_26) q434 q435 q436 q51 q437 rfl rfl (by decide +kernel) ⟨Nat.le_of_ble_eq_true rfl, Nat.le_of_ble_eq_true rfl⟩ rfl hl.1 rfl (Nat.le_of_ble_eq_true rfl) dX10_feature_56) (fun σ31 H locs hf hw => ?_)
            try dsimp only at hf
            refine lv_aload_n hx hb dX10_feature_59 rfl (lv_at hl 1 rfl) ?_
            have hm_32 : (4, 14) ∈ L0 := hw.2.2.2.1 10 0 hm0 7 (by decide) (by decide) rfl
            refine x_get (v := .ref (lay0 4 14)) (j := 7) C hw hm0 rfl (by decide) (by decide) rfl q296 dX10_feature_60 ?_
            refine x_getN (v := .int (sF σ31 4 14 4)) (j := 4) (host := "WhoseHand") C hw hm_32 rfl (by decide) (by decide) rfl q250 dX10_feature_63 ?_
            refine lv_if_ne (tgt := 75) hx hb dX10_feature_66 (by decide) (fun c33 => ?_) (fun c33 => ?_)
            · replace hf := hf.1 c33
              exact eX10_feature_b75 hAo hag hL hval hfr rfl C hret hm0 σ31 _ _ _ hf hw (lv_sub hl [1, 2, 3] rfl)
            · replace hf := hf.2 c33
              refine lv_aload_n hx hb dX10_feature_69 rfl (lv_at hl 1 rfl) ?_
              refine lv_iconst (v := 5) hx hb dX10_feature_70 (by decide) ?_
              refine x_runi hw (x_V (n := 1) (rest := []) C hw hm0 (by decide) (eX10_found hf hm0) q340 q342 q1 q44 q343 rfl rfl (by decide +kernel) ⟨Nat.le_of_ble_eq_true rfl, Nat.le_of_ble_eq_true rfl⟩ rfl hl.1 rfl (Nat.le_of_ble_eq_true rfl) dX10_feature_71) (fun r35 σ34 H locs hf hw => ?_)
              try dsimp only at hf
              exact z_iret C hret hw hag hL hf (Nat.le_of_ble_eq_true rfl) (Nat.le_of_ble_eq_true rfl) dX10_feature_74
          · replace hf := hf.2 c29
            exact eX10_feature_b45 hAo hag hL hval hfr rfl C hret hm0 σ27 _ _ _ hf hw (lv_sub hl [1] rfl)
    · replace hf := hf.2 c7
      refine lv_bipush (v := (-2)) hx hb dX10_feature_20 (by decide) ?_
      exact z_iret C hret hw hag hL hf (Nat.le_of_ble_eq_true rfl) (Nat.le_of_ble_eq_true rfl) dX10_feature_22
  · replace hf := hf.2 c3
    refine lv_iconst (v := (-1)) hx hb dX10_feature_8 (by decide) ?_
    exact z_iret C hret hw hag hL hf (Nat.le_of_ble_eq_true rfl) (Nat.le_of_ble_eq_true rfl) dX10_feature_9
