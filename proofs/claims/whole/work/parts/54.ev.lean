-- ===== reckoning: literals as nI n / mI n, and what stands of comparisons =====
theorem li0 : (0 : Int32) = nI 0 := rfl
theorem li1 : (1 : Int32) = nI 1 := rfl
theorem li2 : (2 : Int32) = nI 2 := rfl
theorem li3 : (3 : Int32) = nI 3 := rfl
theorem li4 : (4 : Int32) = nI 4 := rfl
theorem li5 : (5 : Int32) = nI 5 := rfl
theorem li6 : (6 : Int32) = nI 6 := rfl
theorem li12 : (12 : Int32) = nI 12 := rfl
theorem li13 : (13 : Int32) = nI 13 := rfl
theorem li14 : (14 : Int32) = nI 14 := rfl
theorem li15 : (15 : Int32) = nI 15 := rfl
theorem li16 : (16 : Int32) = nI 16 := rfl
theorem li17 : (17 : Int32) = nI 17 := rfl
theorem li32 : (32 : Int32) = nI 32 := rfl
theorem li33 : (33 : Int32) = nI 33 := rfl
theorem li39 : (39 : Int32) = nI 39 := rfl
theorem li60 : (60 : Int32) = nI 60 := rfl
theorem li65 : (65 : Int32) = nI 65 := rfl
theorem li90 : (90 : Int32) = nI 90 := rfl
theorem li91 : (91 : Int32) = nI 91 := rfl
theorem li93 : (93 : Int32) = nI 93 := rfl
theorem li97 : (97 : Int32) = nI 97 := rfl
theorem li100 : (100 : Int32) = nI 100 := rfl
theorem li122 : (122 : Int32) = nI 122 := rfl
theorem li126 : (126 : Int32) = nI 126 := rfl
theorem li200 : (200 : Int32) = nI 200 := rfl
theorem li800 : (800 : Int32) = nI 800 := rfl
theorem li1000 : (1000 : Int32) = nI 1000 := rfl
theorem li1400 : (1400 : Int32) = nI 1400 := rfl
theorem li2800 : (2800 : Int32) = nI 2800 := rfl
theorem li3432 : (3432 : Int32) = nI 3432 := rfl
theorem li9999 : (9999 : Int32) = nI 9999 := rfl
theorem li10000000 : (10000000 : Int32) = nI 10000000 := rfl
def mI (n : Nat) : Int32 := - nI n
theorem lm1 : (-1 : Int32) = mI 1 := rfl
theorem lm2 : (-2 : Int32) = mI 2 := rfl
theorem lm3 : (-3 : Int32) = mI 3 := rfl
theorem lm4 : (-4 : Int32) = mI 4 := rfl
theorem lm9 : (-9 : Int32) = mI 9 := rfl
theorem mI_toInt {n : Nat} (h : n < 2 ^ 31) : (mI n).toInt = - (n : Int) := by
  unfold mI
  rw [Int32.toInt_neg, nI_toInt h]
  unfold Int.bmod
  simp only
  split <;> omega
theorem le_T {a b : Nat} (h : a ≤ b) (hb : b < 2 ^ 31) : (nI a ≤ nI b) = True := eq_true (nI_le h hb)
theorem le_F {a b : Nat} (h : b < a) (ha : a < 2 ^ 31) : (nI a ≤ nI b) = False := eq_false (nI_ge h ha)
theorem lt_T {a b : Nat} (h : a < b) (hb : b < 2 ^ 31) : (nI a < nI b) = True := eq_true (nI_lt h hb)
theorem lt_F {a b : Nat} (h : b ≤ a) (ha : a < 2 ^ 31) : (nI a < nI b) = False := eq_false (nI_nlt h ha)
theorem eq_F {a b : Nat} (h : a ≠ b) (ha : a < 2 ^ 31) (hb : b < 2 ^ 31) : (nI a = nI b) = False := eq_false (fun e => h ((nI_eq ha hb).mp e))
theorem eq_T {a b : Nat} (h : a = b) : (nI a = nI b) = True := eq_true (by rw [h])
theorem vp_T {a b : Nat} (h : a < b) (hb : b < 2 ^ 31) : vp_in (nI a) b = True := eq_true (vp_in_nI h hb)
theorem mle_F {a b : Nat} (h : 0 < b) (hb : b < 2 ^ 31) (ha : a < 2 ^ 31) : (nI a ≤ mI b) = False := eq_false (by rw [iLe, nI_toInt ha, mI_toInt hb]; omega)
theorem mle_T {a b : Nat} (h : 0 < b) (hb : b < 2 ^ 31) (ha : a < 2 ^ 31) : (mI b ≤ nI a) = True := eq_true (by rw [iLe, nI_toInt ha, mI_toInt hb]; omega)
theorem mlt_F {a b : Nat} (h : 0 < b) (hb : b < 2 ^ 31) (ha : a < 2 ^ 31) : (nI a < mI b) = False := eq_false (by rw [iLt, nI_toInt ha, mI_toInt hb]; omega)
theorem mlt_T {a b : Nat} (h : 0 < b) (hb : b < 2 ^ 31) (ha : a < 2 ^ 31) : (mI b < nI a) = True := eq_true (by rw [iLt, nI_toInt ha, mI_toInt hb]; omega)
theorem meq_F {a b : Nat} (h : 0 < b) (hb : b < 2 ^ 31) (ha : a < 2 ^ 31) : (mI b = nI a) = False := eq_false (by rw [iEq, nI_toInt ha, mI_toInt hb]; omega)
theorem meq_F' {a b : Nat} (h : 0 < b) (hb : b < 2 ^ 31) (ha : a < 2 ^ 31) : (nI a = mI b) = False := eq_false (by rw [iEq, nI_toInt ha, mI_toInt hb]; omega)
theorem mne {a b : Nat} (h : a ≠ b) (hb : b < 2 ^ 31) (ha : a < 2 ^ 31) : (mI a = mI b) = False := eq_false (by rw [iEq, mI_toInt ha, mI_toInt hb]; omega)
theorem aR {a b : Nat} : nI a + nI b = nI (a + b) := nI_add a b
theorem mR {a b : Nat} : nI a * nI b = nI (a * b) := pk_mul a b
theorem sR' {a b : Nat} (h : b ≤ a) : nI a - nI b = nI (a - b) := by
  have e : nI a = nI (a - b) + nI b := by rw [nI_add]; congr 1; omega
  rw [e, show (a - b : Nat) = a - b from rfl]
  exact Int32.add_sub_cancel _ _
theorem br_T {c : Prop} {X Y : Prop} (h : c) : ((c → X) ∧ (¬ c → Y)) = X := propext ⟨fun g => g.1 h, fun g => ⟨fun _ => g, fun z => absurd h z⟩⟩
theorem br_F {c : Prop} {X Y : Prop} (h : ¬ c) : ((c → X) ∧ (¬ c → Y)) = Y := propext ⟨fun g => g.2 h, fun g => ⟨fun z => absurd z h, fun _ => g⟩⟩
theorem br_F' {c : Prop} {X Y : Prop} (h : ¬ c) : ((¬ c → X) ∧ (c → Y)) = X := propext ⟨fun g => g.1 h, fun g => ⟨fun _ => g, fun z => absurd z h⟩⟩
theorem br_T' {c : Prop} {X Y : Prop} (h : c) : ((¬ c → X) ∧ (c → Y)) = Y := propext ⟨fun g => g.2 h, fun g => ⟨fun z => absurd h z, fun _ => g⟩⟩
theorem br_nT {i : Nat} {X : Prop} {Y : Nat → Prop} : ((some i = none → X) ∧ (∀ j, some i = some j → Y j)) = Y i := propext ⟨fun g => g.2 i rfl, fun g => ⟨fun z => (nomatch z), fun j e => (Option.some.inj e) ▸ g⟩⟩
theorem br_nF {X : Prop} {Y : Nat → Prop} : (((none : Option Nat) = none → X) ∧ (∀ j, none = some j → Y j)) = X := propext ⟨fun g => g.1 rfl, fun g => ⟨fun _ => g, fun j e => (nomatch e)⟩⟩
theorem ex_s {i : Nat} {Y : Nat → Prop} : (∃ j, some i = some j ∧ Y j) = Y i := propext ⟨fun ⟨j, e, h⟩ => (Option.some.inj e) ▸ h, fun h => ⟨i, rfl, h⟩⟩
theorem fa_s {i : Nat} {Y : Nat → Prop} : (∀ j, some i = some j → Y j) = Y i := propext ⟨fun g => g i rfl, fun g => fun j e => (Option.some.inj e) ▸ g⟩
theorem fa_n {Y : Nat → Prop} : (∀ j, none = some j → Y j) = True := eq_true (fun j e => nomatch e)
def cf (σ : St) (k : Nat) : St := setA (setF σ 10 0 12 (nI k)) 22 0 k (sA σ 22 0 k + 1)
def mf (σ : St) (k : Nat) : St := setA (setF σ 11 0 0 (nI k)) 61 0 k (sA σ 61 0 k + 1)
theorem cfF (σ : St) (k K i j : Nat) : sF (cf σ k) K i j = if K = 10 ∧ i = 0 ∧ j = 12 then nI k else sF σ K i j := rfl
theorem cfA (σ : St) (k K i j : Nat) : sA (cf σ k) K i j = if K = 22 ∧ i = 0 ∧ j = k then sA σ 22 0 k + 1 else sA σ K i j := rfl
theorem cfJ (σ : St) (k : Nat) : sJ (cf σ k) = sJ σ := rfl
theorem cfB (σ : St) (k : Nat) : sB (cf σ k) = sB σ := rfl
theorem cfR (σ : St) (k : Nat) : sR (cf σ k) = sR σ := rfl
theorem mfF (σ : St) (k K i j : Nat) : sF (mf σ k) K i j = if K = 11 ∧ i = 0 ∧ j = 0 then nI k else sF σ K i j := rfl
theorem mfA (σ : St) (k K i j : Nat) : sA (mf σ k) K i j = if K = 61 ∧ i = 0 ∧ j = k then sA σ 61 0 k + 1 else sA σ K i j := rfl
theorem mfJ (σ : St) (k : Nat) : sJ (mf σ k) = sJ σ := rfl
theorem mfB (σ : St) (k : Nat) : sB (mf σ k) = sB σ := rfl
theorem mfR (σ : St) (k : Nat) : sR (mf σ k) = sR σ := rfl
theorem c_foundE {N : Nat} {σ : St} {Q : Int32 → St → Prop} {k : Nat} (hk : k < 6) (h1 : 1 ≤ k) : fX10_found N σ (nI k) Q = Q (mI 3) (cf σ k) := by
  refine propext ⟨fun h => ?_, fun h => c_found k hk h1 h⟩
  unfold fX10_found at h
  have h := (h.2 (by rw [iLt, nI_toInt (by omega)]; show ¬ (k : Int) < 1; omega)).2 (by rw [iLe, nI_toInt (by omega)]; show ¬ (6 : Int) ≤ k; omega) _ rfl
  have h := h.2.2 _ rfl
  rw [nI_clamp (by omega)] at h
  exact h
theorem m_meetsE {N : Nat} {σ : St} {Q : Int32 → St → Prop} {k : Nat} (hk : k < 6) : fX11_meets N σ (nI k) Q = Q (mI 3) (mf σ k) := by
  refine propext ⟨fun h => ?_, fun h => m_meets k hk h⟩
  unfold fX11_meets at h
  have h := (h _ rfl).2.2 _ rfl
  rw [nI_clamp (by omega)] at h
  exact h
theorem inv_cm {σ : St} {L : List (Nat × Nat)} (h : Inv σ L) (k : Nat) : Inv (mf (cf σ k) k) L := by
  have e : mf (cf σ k) k = fnd σ k := by unfold mf fnd; rw [cfA, if_neg (fun z => absurd z.1 (by decide))]; rfl
  rw [e]; exact inv_fnd h k
theorem byte_i (x : Int32) : x.toInt8.toInt32.toInt8.toInt32 = x.toInt8.toInt32 := by rw [Int8.toInt8_toInt32]
theorem nar_byte (x : Int32) : vp_nar .byte x = x.toInt8.toInt32 := rfl
theorem lgn {a b : Nat} (ha : a < 2 ^ 31) (hb : b < 2 ^ 31) : ((nI a).toInt64 + (nI b).toInt64).toInt = (a : Int) + b := by
  rw [nI_l ha, nI_l hb, lN_add]; exact lg_ofNat_toInt (by omega)
theorem lg_gt {a b z : Nat} (h : z < a + b) (ha : a < 2 ^ 31) (hb : b < 2 ^ 31) (hz : z < 2 ^ 31) : lg_cmp ((nI a).toInt64 + (nI b).toInt64) (nI z).toInt64 = nI 1 := by
  unfold lg_cmp
  rw [if_pos]; · rfl
  show (nI z).toInt64 < _
  rw [Int64.lt_iff_toInt_lt, lgn ha hb, nI_l hz, lN_toInt hz]; omega
theorem lg_eq {a b z : Nat} (h : a + b = z) (ha : a < 2 ^ 31) (hb : b < 2 ^ 31) (hz : z < 2 ^ 31) : lg_cmp ((nI a).toInt64 + (nI b).toInt64) (nI z).toInt64 = nI 0 := by
  unfold lg_cmp
  rw [if_neg, if_pos]; · rfl
  · rw [← Int64.toInt_inj, lgn ha hb, nI_l hz, lN_toInt hz]; omega
  · show ¬ (nI z).toInt64 < _
    rw [Int64.lt_iff_toInt_lt, lgn ha hb, nI_l hz, lN_toInt hz]; omega
theorem lg_lt {a b z : Nat} (h : a + b < z) (ha : a < 2 ^ 31) (hb : b < 2 ^ 31) (hz : z < 2 ^ 31) : lg_cmp ((nI a).toInt64 + (nI b).toInt64) (nI z).toInt64 = mI 1 := by
  unfold lg_cmp
  rw [if_neg, if_neg]; · rfl
  · rw [← Int64.toInt_inj, lgn ha hb, nI_l hz, lN_toInt hz]; omega
  · show ¬ (nI z).toInt64 < _
    rw [Int64.lt_iff_toInt_lt, lgn ha hb, nI_l hz, lN_toInt hz]; omega
theorem b32 : (nI 32).toInt8.toInt32 = nI 32 := by decide
theorem upd_e {f g : Nat → Int32} {i : Nat} {x : Int32} (h1 : g i = x) (h2 : ∀ j, j ≠ i → g j = f j) : upd f i x = g := by
  funext j; unfold upd; by_cases e : j = i
  · rw [if_pos e, e, h1]
  · rw [if_neg e, h2 j e]
theorem zm1 : nI 0 - nI 1 = mI 1 := by decide
