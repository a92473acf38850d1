-- ===== sets of texts and of features as bits =====
def bt (x : Int32) (s : Nat) : Bool := x.toBitVec.getLsbD s
theorem bt_or (x y : Int32) (s : Nat) : bt (x ||| y) s = (bt x s || bt y s) := by unfold bt; rw [Int32.toBitVec_or, BitVec.getLsbD_or]
theorem bt_0 (s : Nat) : bt (nI 0) s = false := by unfold bt; exact BitVec.getLsbD_zero
theorem bt_ge (x : Int32) (s : Nat) (h : 32 ≤ s) : bt x s = false := by unfold bt; exact BitVec.getLsbD_of_ge _ _ h
theorem bt_shl : ∀ t, t < 31 → ∀ s, s < 32 → bt (nI 1 <<< (nI t &&& 31)) s = decide (s = t) := by decide +kernel
theorem bt_all : ∀ m, m < 13 → ∀ s, s < 32 → bt ((nI 1 <<< (nI m &&& 31)) - nI 1) s = decide (s < m) := by decide +kernel
theorem bt_m1 : ∀ s, s < 32 → bt (mI 1) s = true := by decide +kernel
theorem bt_ext {x y : Int32} (h : ∀ s, s < 32 → bt x s = bt y s) : x = y := by
  apply Int32.toBitVec_inj.mp
  apply BitVec.eq_of_getLsbD_eq
  intro i hi
  exact h i hi
theorem bt_eq0 {x : Int32} : x = nI 0 ↔ ∀ s, s < 32 → bt x s = false := ⟨fun e s _ => by rw [e, bt_0], fun h => bt_ext (fun s hs => by rw [h s hs, bt_0])⟩
theorem sh_ix : ∀ t, t < 32 → (nI t &&& 31).toBitVec.smod 32 = BitVec.ofNat 32 t := by decide +kernel
theorem shu_ix : ∀ t, t < 32 → ((nI t).toUInt32 &&& Int32.toUInt32 31).toBitVec % 32 = BitVec.ofNat 32 t := by decide +kernel
theorem and1 (b : BitVec 32) : b &&& 1#32 = if b.getLsbD 0 then 1#32 else 0#32 := by
  apply BitVec.eq_of_getLsbD_eq
  intro i hi
  rw [BitVec.getLsbD_and]
  by_cases h : i = 0
  · subst h
    cases e : b.getLsbD 0 <;> simp
  · have h1 : (1#32).getLsbD i = false := by simp [BitVec.getLsbD_one]; omega
    rw [h1]
    cases e : b.getLsbD 0 <;> simp [BitVec.getLsbD_one]; omega
theorem bit_s {x : Int32} {t : Nat} (ht : t < 32) : (x >>> (nI t &&& 31)) &&& 1 = if bt x t then nI 1 else nI 0 := by
  apply Int32.toBitVec_inj.mp
  rw [Int32.toBitVec_and, Int32.toBitVec_shiftRight, sh_ix t ht]
  have e : (x.toBitVec.sshiftRight' (BitVec.ofNat 32 t)).getLsbD 0 = bt x t := by
    unfold bt BitVec.sshiftRight'
    rw [BitVec.getLsbD_sshiftRight]
    have e2 : (BitVec.ofNat 32 t).toNat = t := by rw [BitVec.toNat_ofNat]; omega
    rw [e2]
    simp; omega
  show _ &&& 1#32 = _
  rw [and1, e]
  cases bt x t <;> rfl
theorem bit_u {x : Int32} {t : Nat} (ht : t < 32) : ((x.toUInt32 >>> ((nI t).toUInt32 &&& Int32.toUInt32 31)).toInt32) &&& 1 = if bt x t then nI 1 else nI 0 := by
  apply Int32.toBitVec_inj.mp
  rw [Int32.toBitVec_and, UInt32.toBitVec_toInt32, UInt32.toBitVec_shiftRight, shu_ix t ht]
  have e : (x.toUInt32.toBitVec >>> (BitVec.ofNat 32 t)).getLsbD 0 = bt x t := by
    unfold bt
    rw [BitVec.ushiftRight_eq', BitVec.getLsbD_ushiftRight]
    have e2 : (BitVec.ofNat 32 t).toNat = t := by rw [BitVec.toNat_ofNat]; omega
    rw [e2]; simp
  show _ &&& 1#32 = _
  rw [and1, e]
  cases bt x t <;> rfl
theorem has_sp {N t : Nat} {σ : St} {x : Int32} {Q : Int32 → St → Prop} (ht : t < 32) : fX11_has N σ x (nI t) Q = Q (if bt x t then nI 1 else nI 0) σ := by
  unfold fX11_has
  rw [bit_s ht]
  cases bt x t
  · simp (disch := omega) only [li0, li1, li2, li3, li4, li5, li6, li12, li13, li14, li15, li16, li17, li32, li33, li39, li60, li65, li90, li91, li93, li97, li100, li122, li126, li200, li800, li1000, li1400, li2800, li3432, li9999, li10000000, ↓lm1, ↓lm2, ↓lm3, ↓lm4, ↓lm9, le_T, le_F, lt_T, lt_F, eq_F, eq_T, vp_T, mle_F, mle_T, mlt_F, mlt_T, meq_F, meq_F', mne, aR, mR, sR', nI_clamp, br_nT, br_nF, ex_s, true_implies, false_implies, not_true_eq_false, not_false_eq_true, true_and, and_true, forall_eq, implies_true, and_self, reduceIte, reduceCtorEq, Nat.reduceEqDiff, Nat.reduceAdd, Nat.reduceMul, Nat.reduceSub, ite_true, ite_false, if_true, if_false, eq_self, and_false, false_and, fa_s, fa_n, cfF, cfA, cfJ, cfB, cfR, mfF, mfA, mfJ, mfB, mfR, c_foundE, m_meetsE, nar_byte, byte_i, lg_gt, lg_eq, lg_lt, all_A, sF_F, sF_A, sF_J, sF_B, sF_R, sF_all, sA_F, sA_A, sA_J, sA_B, sA_R, sA_all, sJ_F, sJ_A, sJ_J, sJ_B, sJ_R, sJ_all, sB_F, sB_A, sB_J, sB_B, sB_R, sB_all, sR_F, sR_A, sR_J, sR_B, sR_R, sR_all]
  · simp (disch := omega) only [li0, li1, li2, li3, li4, li5, li6, li12, li13, li14, li15, li16, li17, li32, li33, li39, li60, li65, li90, li91, li93, li97, li100, li122, li126, li200, li800, li1000, li1400, li2800, li3432, li9999, li10000000, ↓lm1, ↓lm2, ↓lm3, ↓lm4, ↓lm9, le_T, le_F, lt_T, lt_F, eq_F, eq_T, vp_T, mle_F, mle_T, mlt_F, mlt_T, meq_F, meq_F', mne, aR, mR, sR', nI_clamp, br_nT, br_nF, ex_s, true_implies, false_implies, not_true_eq_false, not_false_eq_true, true_and, and_true, forall_eq, implies_true, and_self, reduceIte, reduceCtorEq, Nat.reduceEqDiff, Nat.reduceAdd, Nat.reduceMul, Nat.reduceSub, ite_true, ite_false, if_true, if_false, eq_self, and_false, false_and, fa_s, fa_n, cfF, cfA, cfJ, cfB, cfR, mfF, mfA, mfJ, mfB, mfR, c_foundE, m_meetsE, nar_byte, byte_i, lg_gt, lg_eq, lg_lt, all_A, sF_F, sF_A, sF_J, sF_B, sF_R, sF_all, sA_F, sA_A, sA_J, sA_B, sA_R, sA_all, sJ_F, sJ_A, sJ_J, sJ_B, sJ_R, sJ_all, sB_F, sB_A, sB_J, sB_B, sB_R, sB_all, sR_F, sR_A, sR_J, sR_B, sR_R, sR_all]
