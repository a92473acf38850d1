theorem lg_cmp_self (x : Int64) : lg_cmp x x = 0 := by
  have h : ¬ x < x := fun h => by have := Int64.lt_iff_toInt_lt.mp h; omega
  simp [lg_cmp, h]
theorem w_V {p : Program} {l : Launch} {e : Env} {R : Room} {s : State} {m : MethodId} {args : Array Value} {below : List Frame} {meth : Method} {c : Code} {H : Heap} {locs : List Loc} {cells slots : Nat} {cc : ByteArray} {pc nL : Nat} {ls : Array Slot} {rest : List Value} {E : EC} {lay : Nat → Nat → Nat} {L : List (Nat × Nat)} {A : Nat → Prop} {σ : St} {owc : String} (hAo : Aos s) (C : Cx p s m args c meth owc cc nL E A) (hw : Wo E lay L A s σ H locs) {K i idx n maxL mc ms : Nat} {y : MethodName} {bytes : ByteArray} {ret : Option FieldType} {rm : Room} {As st0 : List Value} {Qc : Array Value → State → Outcome → State → Prop} (hm : (K, i) ∈ L) (hK : K < 12) (hM : Met l y (.code y bytes maxL ret :: big) rm (va_Pc (.ref (lay K i) :: As) (Bpa E lay L A σ)) Qc mc ms A)
    (h1 : Cond.methodLink owc idx y ∈ big) (h2 : Cond.instanceMethod y ∈ big) (h3 : Cond.selects (clsT K).1 y y ∈ big) (h4 : Cond.initialized (clsT K).1 ∈ big) (h5 : Cond.code y bytes maxL ret ∈ big) (hrc : rm.cells = mc) (hrs : rm.slots = ms) (hy : y.cls = (clsT K).1 ∧ y.cls ≠ "java/lang/invoke/MethodHandle" ∧ y.cls ≠ "java/lang/invoke/VarHandle" ∧ (parseMethodDescriptor y.desc).map (fun d => d.parameters.length) = some n) (hR : rm.frames + 1 ≤ R.frames ∧ 8 + (maxL + 11) + rm.locals ≤ R.locals)
    (hn : As.length = n) (hls : ls.size = nL) (hst : st0 = As.reverse ++ .ref (lay K i) :: rest) (hroom : (rest.map fun v => v.category).sum ≤ 8) (hcs : cells + mc ≤ R.cells ∧ slots + ms ≤ R.slots) (hd : decode cc pc = .ok (.invokevirtual idx, 3)) : va_Run p l e R s m args below meth c H locs cells slots mc ms (F0 m pc ls st0) rest (Qc (Value.ref (lay K i) :: As).toArray) A := by
  obtain ⟨q, -, hq⟩ := x_cell hw hm
  rw [cv_obj hK] at hq
  exact va_runV (As := As) (rest := rest) ⟨C.1, C.2.1, C.2.2.1, C.2.2.2.1, C.2.2.2.2.1⟩ hM (cwV n C.2.2.2.2.1 (x_gw h1 h2 h3 h4 h5) rfl hrc hrs hy hR) ⟨Bpa_blind, va_recv C.2.2.2.2.2.1 hw.1 (cls_get K hK) hq, fun U hU hW => ⟨rfl, hAo.moved hW.alike, (x_pre C hw (As := .ref (lay K i) :: As) U hU hW).2⟩⟩ rfl hn hls hst (lv_room hroom) hd hcs
theorem w_runa {p : Program} {l : Launch} {e : Env} {R : Room} {s : State} {m : MethodId} {args : Array Value} {below : List Frame} {meth : Method} {c : Code} {H : Heap} {locs : List Loc} {cells slots mc ms pc : Nat} {Q : State → Prop} {ls : Array Slot} {rest st0 : List Value} {E : EC} {lay : Nat → Nat → Nat} {L : List (Nat × Nat)} {A : Nat → Prop} {σ : St} {aa : Array Value} {Qp : Int32 → St → List (Nat × Nat) → Prop} (hw : Wo E lay L A s σ H locs) (hr : va_Run p l e R s m args below meth c H locs cells slots mc ms (F0 m pc ls st0) rest (va_Qi (Qa lay L Qp) (Bda E A) A aa) A)
    (k : ∀ (r : Int32) (σ1 : St) (lay1 : Nat → Nat → Nat) (L1 : List (Nat × Nat)) (H1 : Heap) (locs1 : List Loc), Qp r σ1 L1 → (∀ q ∈ L, lay1 q.1 q.2 = lay q.1 q.2) → (∀ q ∈ L, q ∈ L1) → Wo E lay1 L1 A s σ1 H1 locs1 → W p l e R s m args below meth c H1 locs1 (cells + mc) (slots + ms) Q (F0 m (pc + 3) ls (.int r :: rest))) : W p l e R s m args below meth c H locs cells slots Q (F0 m pc ls st0) :=
  va_calli hr hw.2.2.1 (fun q _ h => h) (fun q h => h) (fun r u t H1 locs1 ht hvm hq hb hz hk hS => k r u.1 u.2.1 u.2.2 H1 locs1 hq.1 hq.2.1 hq.2.2 (x_wo2 ht hb hS))
set_option maxHeartbeats 4000000 in
set_option maxRecDepth 100000 in
theorem lc_0 {p : Program} {l : Launch} {e : Env} {s : State} {m : MethodId} {args : Array Value} {below : List Frame} {meth : Method} {c : Code} {H : Heap} {locs : List Loc} {cells slots : Nat} {Q : State → Prop} {ls : Array Slot} {E : EC} {lay : Nat → Nat → Nat} {L : List (Nat × Nat)} {A : Nat → Prop} {σ : St} {I : St → List (Nat × Nat) → Prop} {N b Ln : Nat} {xs : Nat → Int32} {v3 : Int32} (C : Cx p s m args c meth RL cL_law 4 E A) (hX : va_X b Ln xs s s.heap) (hbl : b < s.heap.size) (hbA : ¬ A b) (hm1 : (10, 0) ∈ L) (hm2 : (11, 0) ∈ L) (hin : ∀ k : Nat, k < 6 → vp_in (v3 + nI k) Ln) (hcs : cells ≤ 600000 ∧ slots ≤ room_1.slots) (hw : Wo E lay L A s σ H locs) (hl : lv_has ls 4 [(0, .ref b), (1, .ref (lay 10 0)), (2, .ref (lay 11 0)), (3, .int v3)]) (hst : ∀ (a1 : Int32) (a2 : Int32), fX10_sheet N σ a1 a2 (fun (r : Int32) (σ1 : St) => fX11_sheet N σ1 a1 a2 (fun (r2 : Int32) (σ2 : St) => r = r2 ∧ I σ2 L))) (kk : ∀ (σ2 : St) (H1 : Heap) (locs1 : List Loc), I σ2 L → Wo E lay L A s σ2 H1 locs1 → W p l e room_1 s m args below meth c H1 locs1 cells slots Q (F0 m 1177 ls [])) : W p l e room_1 s m args below meth c H locs cells slots Q (F0 m 172 ls []) := by
  have hx := C.1
  have hb := C.2.1
  have hf := hst (xs ((v3 + (1 : Int32))).toNatClampNeg) (xs ((v3 + (2 : Int32))).toNatClampNeg)
  refine lv_aload_n hx hb dL_law_172 rfl (lv_at hl 1 rfl) ?_
  refine lv_aload_n hx hb dL_law_173 rfl (lv_at hl 0 rfl) ?_
  refine lv_iload_n hx hb dL_law_174 rfl (lv_at hl 3 rfl) ?_
  refine lv_iconst (v := 1) hx hb dL_law_175 (by decide) ?_
  refine lv_iadd hx hb dL_law_176 ?_
  refine va_sld hx hb hX hbl hbA hw.2.2.1 (hin 1 (by decide)) dL_law_177 ?_
  refine lv_aload_n hx hb dL_law_178 rfl (lv_at hl 0 rfl) ?_
  refine lv_iload_n hx hb dL_law_179 rfl (lv_at hl 3 rfl) ?_
  refine lv_iconst (v := 2) hx hb dL_law_180 (by decide) ?_
  refine lv_iadd hx hb dL_law_181 ?_
  refine va_sld hx hb hX hbl hbA hw.2.2.1 (hin 2 (by decide)) dL_law_182 ?_
  refine y_runi hw (y_V (n := 2) (rest := []) C hw hm1 (by decide) (eX10_sheet hf hm1) q332 q333 q334 q44 q335 rfl rfl (by decide +kernel) ⟨(Nat.le_of_ble_eq_true rfl), (Nat.le_of_ble_eq_true rfl)⟩ rfl hl.1 rfl (Nat.le_of_ble_eq_true rfl) ⟨by show cells ≤ 600000; omega, by show slots ≤ room_1.slots; omega⟩ dL_law_183) (fun r1 σ1 H locs hf hw => ?_)
  try dsimp only at hf
  refine lv_aload_n hx hb dL_law_186 rfl (lv_at hl 2 rfl) ?_
  refine lv_aload_n hx hb dL_law_187 rfl (lv_at hl 0 rfl) ?_
  refine lv_iload_n hx hb dL_law_188 rfl (lv_at hl 3 rfl) ?_
  refine lv_iconst (v := 1) hx hb dL_law_189 (by decide) ?_
  refine lv_iadd hx hb dL_law_190 ?_
  refine va_sld hx hb hX hbl hbA hw.2.2.1 (hin 1 (by decide)) dL_law_191 ?_
  refine lv_aload_n hx hb dL_law_192 rfl (lv_at hl 0 rfl) ?_
  refine lv_iload_n hx hb dL_law_193 rfl (lv_at hl 3 rfl) ?_
  refine lv_iconst (v := 2) hx hb dL_law_194 (by decide) ?_
  refine lv_iadd hx hb dL_law_195 ?_
  refine va_sld hx hb hX hbl hbA hw.2.2.1 (hin 2 (by decide)) dL_law_196 ?_
  refine y_runi hw (y_V (n := 2) (rest := [.int r1]) C hw hm2 (by decide) (eX11_sheet hf hm2) q977 q978 q979 q53 q980 rfl rfl (by decide +kernel) ⟨(Nat.le_of_ble_eq_true rfl), (Nat.le_of_ble_eq_true rfl)⟩ rfl hl.1 rfl (Nat.le_of_ble_eq_true rfl) ⟨by show cells ≤ 600000; omega, by show slots ≤ room_1.slots; omega⟩ dL_law_197) (fun r2 σ2 H locs hf hw => ?_)
  try dsimp only at hf
  refine lv_icmp_eq (tgt := 1177) hx hb dL_law_200 (by decide) (fun _ => ?_) (fun h => absurd hf.1 h)
  exact kk _ _ _ hf.2 hw
set_option maxHeartbeats 4000000 in
set_option maxRecDepth 100000 in
theorem lc_1 {p : Program} {l : Launch} {e : Env} {s : State} {m : MethodId} {args : Array Value} {below : List Frame} {meth : Method} {c : Code} {H : Heap} {locs : List Loc} {cells slots : Nat} {Q : State → Prop} {ls : Array Slot} {E : EC} {lay : Nat → Nat → Nat} {L : List (Nat × Nat)} {A : Nat → Prop} {σ : St} {I : St → List (Nat × Nat) → Prop} {N b Ln : Nat} {xs : Nat → Int32} {v3 : Int32} (C : Cx p s m args c meth RL cL_law 4 E A) (hX : va_X b Ln xs s s.heap) (hbl : b < s.heap.size) (hbA : ¬ A b) (hm1 : (10, 0) ∈ L) (hm2 : (11, 0) ∈ L) (hin : ∀ k : Nat, k < 6 → vp_in (v3 + nI k) Ln) (hcs : cells ≤ 600000 ∧ slots ≤ room_1.slots) (hw : Wo E lay L A s σ H locs) (hl : lv_has ls 4 [(0, .ref b), (1, .ref (lay 10 0)), (2, .ref (lay 11 0)), (3, .int v3)]) (hst : ∀ (a1 : Int32) (a2 : Int32) (a3 : Int32), fX10_lay N σ a1 a2 a3 (fun (r : Int32) (σ1 : St) => fX11_lay N σ1 a1 a2 a3 (fun (r2 : Int32) (σ2 : St) => r = r2 ∧ I σ2 L))) (kk : ∀ (σ2 : St) (H1 : Heap) (locs1 : List Loc), I σ2 L → Wo E lay L A s σ2 H1 locs1 → W p l e room_1 s m args below meth c H1 locs1 cells slots Q (F0 m 1177 ls [])) : W p l e room_1 s m args below meth c H locs cells slots Q (F0 m 205 ls []) := by
  have hx := C.1
  have hb := C.2.1
  have hf := hst (xs ((v3 + (1 : Int32))).toNatClampNeg) (xs ((v3 + (2 : Int32))).toNatClampNeg) (xs ((v3 + (3 : Int32))).toNatClampNeg)
  refine lv_aload_n hx hb dL_law_205 rfl (lv_at hl 1 rfl) ?_
  refine lv_aload_n hx hb dL_law_206 rfl (lv_at hl 0 rfl) ?_
  refine lv_iload_n hx hb dL_law_207 rfl (lv_at hl 3 rfl) ?_
  refine lv_iconst (v := 1) hx hb dL_law_208 (by decide) ?_
  refine lv_iadd hx hb dL_law_209 ?_
  refine va_sld hx hb hX hbl hbA hw.2.2.1 (hin 1 (by decide)) dL_law_210 ?_
  refine lv_aload_n hx hb dL_law_211 rfl (lv_at hl 0 rfl) ?_
  refine lv_iload_n hx hb dL_law_212 rfl (lv_at hl 3 rfl) ?_
  refine lv_iconst (v := 2) hx hb dL_law_213 (by decide) ?_
  refine lv_iadd hx hb dL_law_214 ?_
  refine va_sld hx hb hX hbl hbA hw.2.2.1 (hin 2 (by decide)) dL_law_215 ?_
  refine lv_aload_n hx hb dL_law_216 rfl (lv_at hl 0 rfl) ?_
  refine lv_iload_n hx hb dL_law_217 rfl (lv_at hl 3 rfl) ?_
  refine lv_iconst (v := 3) hx hb dL_law_218 (by decide) ?_
  refine lv_iadd hx hb dL_law_219 ?_
  refine va_sld hx hb hX hbl hbA hw.2.2.1 (hin 3 (by decide)) dL_law_220 ?_
  refine y_runi hw (y_V (n := 3) (rest := []) C hw hm1 (by decide) (eX10_lay hf hm1) q348 q349 q350 q44 q351 rfl rfl (by decide +kernel) ⟨(Nat.le_of_ble_eq_true rfl), (Nat.le_of_ble_eq_true rfl)⟩ rfl hl.1 rfl (Nat.le_of_ble_eq_true rfl) ⟨by show cells ≤ 600000; omega, by show slots ≤ room_1.slots; omega⟩ dL_law_221) (fun r1 σ1 H locs hf hw => ?_)
  try dsimp only at hf
  refine lv_aload_n hx hb dL_law_224 rfl (lv_at hl 2 rfl) ?_
  refine lv_aload_n hx hb dL_law_225 rfl (lv_at hl 0 rfl) ?_
  refine lv_iload_n hx hb dL_law_226 rfl (lv_at hl 3 rfl) ?_
  refine lv_iconst (v := 1) hx hb dL_law_227 (by decide) ?_
  refine lv_iadd hx hb dL_law_228 ?_
  refine va_sld hx hb hX hbl hbA hw.2.2.1 (hin 1 (by decide)) dL_law_229 ?_
  refine lv_aload_n hx hb dL_law_230 rfl (lv_at hl 0 rfl) ?_
  refine lv_iload_n hx hb dL_law_231 rfl (lv_at hl 3 rfl) ?_
  refine lv_iconst (v := 2) hx hb dL_law_232 (by decide) ?_
  refine lv_iadd hx hb dL_law_233 ?_
  refine va_sld hx hb hX hbl hbA hw.2.2.1 (hin 2 (by decide)) dL_law_234 ?_
  refine lv_aload_n hx hb dL_law_235 rfl (lv_at hl 0 rfl) ?_
  refine lv_iload_n hx hb dL_law_236 rfl (lv_at hl 3 rfl) ?_
  refine lv_iconst (v := 3) hx hb dL_law_237 (by decide) ?_
  refine lv_iadd hx hb dL_law_238 ?_
  refine va_sld hx hb hX hbl hbA hw.2.2.1 (hin 3 (by decide)) dL_law_239 ?_
  refine y_runi hw (y_V (n := 3) (rest := [.int r1]) C hw hm2 (by decide) (eX11_lay hf hm2) q991 q992 q993 q53 q994 rfl rfl (by decide +kernel) ⟨(Nat.le_of_ble_eq_true rfl), (Nat.le_of_ble_eq_true rfl)⟩ rfl hl.1 rfl (Nat.le_of_ble_eq_true rfl) ⟨by show cells ≤ 600000; omega, by show slots ≤ room_1.slots; omega⟩ dL_law_240) (fun r2 σ2 H locs hf hw => ?_)
  try dsimp only at hf
  refine lv_icmp_eq (tgt := 1177) hx hb dL_law_243 (by decide) (fun _ => ?_) (fun h => absurd hf.1 h)
  exact kk _ _ _ hf.2 hw
set_option maxHeartbeats 4000000 in
set_option maxRecDepth 100000 in
theorem lc_2 {p : Program} {l : Launch} {e : Env} {s : State} {m : MethodId} {args : Array Value} {below : List Frame} {meth : Method} {c : Code} {H : Heap} {locs : List Loc} {cells slots : Nat} {Q : State → Prop} {ls : Array Slot} {E : EC} {lay : Nat → Nat → Nat} {L : List (Nat × Nat)} {A : Nat → Prop} {σ : St} {I : St → List (Nat × Nat) → Prop} {N b Ln : Nat} {xs : Nat → Int32} {v3 : Int32} (C : Cx p s m args c meth RL cL_law 4 E A) (hX : va_X b Ln xs s s.heap) (hbl : b < s.heap.size) (hbA : ¬ A b) (hm1 : (10, 0) ∈ L) (hm2 : (11, 0) ∈ L) (hin : ∀ k : Nat, k < 6 → vp_in (v3 + nI k) Ln) (hcs : cells ≤ 600000 ∧ slots ≤ room_1.slots) (hw : Wo E lay L A s σ H locs) (hl : lv_has ls 4 [(0, .ref b), (1, .ref (lay 10 0)), (2, .ref (lay 11 0)), (3, .int v3)]) (hst : ∀ (a1 : Int32), fX10_tear N σ a1 (fun (r : Int32) (σ1 : St) => fX11_tear N σ1 a1 (fun (r2 : Int32) (σ2 : St) => r = r2 ∧ I σ2 L))) (kk : ∀ (σ2 : St) (H1 : Heap) (locs1 : List Loc), I σ2 L → Wo E lay L A s σ2 H1 locs1 → W p l e room_1 s m args below meth c H1 locs1 cells slots Q (F0 m 1177 ls [])) : W p l e room_1 s m args below meth c H locs cells slots Q (F0 m 248 ls []) := by
  have hx := C.1
  have hb := C.2.1
  have hf := hst (xs ((v3 + (1 : Int32))).toNatClampNeg)
  refine lv_aload_n hx hb dL_law_248 rfl (lv_at hl 1 rfl) ?_
  refine lv_aload_n hx hb dL_law_249 rfl (lv_at hl 0 rfl) ?_
  refine lv_iload_n hx hb dL_law_250 rfl (lv_at hl 3 rfl) ?_
  refine lv_iconst (v := 1) hx hb dL_law_251 (by decide) ?_
  refine lv_iadd hx hb dL_law_252 ?_
  refine va_sld hx hb hX hbl hbA hw.2.2.1 (hin 1 (by decide)) dL_law_253 ?_
  refine y_runi hw (y_V (n := 1) (rest := []) C hw hm1 (by decide) (eX10_tear hf hm1) q368 q369 q370 q44 q371 rfl rfl (by decide +kernel) ⟨(Nat.le_of_ble_eq_true rfl), (Nat.le_of_ble_eq_true rfl)⟩ rfl hl.1 rfl (Nat.le_of_ble_eq_true rfl) ⟨by show cells ≤ 600000; omega, by show slots ≤ room_1.slots; omega⟩ dL_law_254) (fun r1 σ1 H locs hf hw => ?_)
  try dsimp only at hf
  refine lv_aload_n hx hb dL_law_257 rfl (lv_at hl 2 rfl) ?_
  refine lv_aload_n hx hb dL_law_258 rfl (lv_at hl 0 rfl) ?_
  refine lv_iload_n hx hb dL_law_259 rfl (lv_at hl 3 rfl) ?_
  refine lv_iconst (v := 1) hx hb dL_law_260 (by decide) ?_
  refine lv_iadd hx hb dL_law_261 ?_
  refine va_sld hx hb hX hbl hbA hw.2.2.1 (hin 1 (by decide)) dL_law_262 ?_
  refine y_runi hw (y_V (n := 1) (rest := [.int r1]) C hw hm2 (by decide) (eX11_tear hf hm2) q999 q1000 q1001 q53 q1002 rfl rfl (by decide +kernel) ⟨(Nat.le_of_ble_eq_true rfl), (Nat.le_of_ble_eq_true rfl)⟩ rfl hl.1 rfl (Nat.le_of_ble_eq_true rfl) ⟨by show cells ≤ 600000; omega, by show slots ≤ room_1.slots; omega⟩ dL_law_263) (fun r2 σ2 H locs hf hw => ?_)
  try dsimp only at hf
  refine lv_icmp_eq (tgt := 1177) hx hb dL_law_266 (by decide) (fun _ => ?_) (fun h => absurd hf.1 h)
  exact kk _ _ _ hf.2 hw
set_option maxHeartbeats 4000000 in
set_option maxRecDepth 100000 in
theorem lc_3 {p : Program} {l : Launch} {e : Env} {s : State} {m : MethodId} {args : Array Value} {below : List Frame} {meth : Method} {c : Code} {H : Heap} {locs : List Loc} {cells slots : Nat} {Q : State → Prop} {ls : Array Slot} {E : EC} {lay : Nat → Nat → Nat} {L : List (Nat × Nat)} {A : Nat → Prop} {σ : St} {I : St → List (Nat × Nat) → Prop} {N b Ln : Nat} {xs : Nat → Int32} {v3 : Int32} (C : Cx p s m args c meth RL cL_law 4 E A) (hX : va_X b Ln xs s s.heap) (hbl : b < s.heap.size) (hbA : ¬ A b) (hm1 : (10, 0) ∈ L) (hm2 : (11, 0) ∈ L) (hin : ∀ k : Nat, k < 6 → vp_in (v3 + nI k) Ln) (hcs : cells ≤ 600000 ∧ slots ≤ room_1.slots) (hw : Wo E lay L A s σ H locs) (hl : lv_has ls 4 [(0, .ref b), (1, .ref (lay 10 0)), (2, .ref (lay 11 0)), (3, .int v3)]) (hst : ∀ (a1 : Int32) (a2 : Int32) (a3 : Int32) (a4 : Int32) (a5 : Int32), fX10_copy N σ a1 a2 a3 a4 a5 (fun (r : Int32) (σ1 : St) => fX11_copy N σ1 a1 a2 a3 a4 a5 (fun (r2 : Int32) (σ2 : St) => r = r2 ∧ I σ2 L))) (kk : ∀ (σ2 : St) (H1 : Heap) (locs1 : List Loc), I σ2 L → Wo E lay L A s σ2 H1 locs1 → W p l e room_1 s m args below meth c H1 locs1 cells slots Q (F0 m 1177 ls [])) : W p l e room_1 s m args below meth c H locs cells slots Q (F0 m 271 ls []) := by
  have hx := C.1
  have hb := C.2.1
  have hf := hst (xs ((v3 + (1 : Int32))).toNatClampNeg) (xs ((v3 + (2 : Int32))).toNatClampNeg) (xs ((v3 + (3 : Int32))).toNatClampNeg) (xs ((v3 + (4 : Int32))).toNatClampNeg) (xs ((v3 + (5 : Int32))).toNatClampNeg)
  refine lv_aload_n hx hb dL_law_271 rfl (lv_at hl 1 rfl) ?_
  refine lv_aload_n hx hb dL_law_272 rfl (lv_at hl 0 rfl) ?_
  refine lv_iload_n hx hb dL_law_273 rfl (lv_at hl 3 rfl) ?_
  refine lv_iconst (v := 1) hx hb dL_law_274 (by decide) ?_
  refine lv_iadd hx hb dL_law_275 ?_
  refine va_sld hx hb hX hbl hbA hw.2.2.1 (hin 1 (by decide)) dL_law_276 ?_
  refine lv_aload_n hx hb dL_law_277 rfl (lv_at hl 0 rfl) ?_
  refine lv_iload_n hx hb dL_law_278 rfl (lv_at hl 3 rfl) ?_
  refine lv_iconst (v := 2) hx hb dL_law_279 (by decide) ?_
  refine lv_iadd hx hb dL_law_280 ?_
  refine va_sld hx hb hX hbl hbA hw.2.2.1 (hin 2 (by decide)) dL_law_281 ?_
  refine lv_aload_n hx hb dL_law_282 rfl (lv_at hl 0 rfl) ?_
  refine lv_iload_n hx hb dL_law_283 rfl (lv_at hl 3 rfl) ?_
  refine lv_iconst (v := 3) hx hb dL_law_284 (by decide) ?_
  refine lv_iadd hx hb dL_law_285 ?_
  refine va_sld hx hb hX hbl hbA hw.2.2.1 (hin 3 (by decide)) dL_law_286 ?_
  refine lv_aload_n hx hb dL_law_287 rfl (lv_at hl 0 rfl) ?_
  refine lv_iload_n hx hb dL_law_288 rfl (lv_at hl 3 rfl) ?_
  refine lv_iconst (v := 4) hx hb dL_law_289 (by decide) ?_
  refine lv_iadd hx hb dL_law_290 ?_
  refine va_sld hx hb hX hbl hbA hw.2.2.1 (hin 4 (by decide)) dL_law_291 ?_
  refine lv_aload_n hx hb dL_law_292 rfl (lv_at hl 0 rfl) ?_
  refine lv_iload_n hx hb dL_law_293 rfl (lv_at hl 3 rfl) ?_
  refine lv_iconst (v := 5) hx hb dL_law_294 (by decide) ?_
  refine lv_iadd hx hb dL_law_295 ?_
  refine va_sld hx hb hX hbl hbA hw.2.2.1 (hin 5 (by decide)) dL_law_296 ?_
  refine y_runi hw (y_V (n := 5) (rest := []) C hw hm1 (by decide) (eX10_copy hf hm1) q376 q377 q378 q44 q379 rfl rfl (by decide +kernel) ⟨(Nat.le_of_ble_eq_true rfl), (Nat.le_of_ble_eq_true rfl)⟩ rfl hl.1 rfl (Nat.le_of_ble_eq_true rfl) ⟨by show cells ≤ 600000; omega, by show slots ≤ room_1.slots; omega⟩ dL_law_297) (fun r1 σ1 H locs hf hw => ?_)
  try dsimp only at hf
  refine lv_aload_n hx hb dL_law_300 rfl (lv_at hl 2 rfl) ?_
  refine lv_aload_n hx hb dL_law_301 rfl (lv_at hl 0 rfl) ?_
  refine lv_iload_n hx hb dL_law_302 rfl (lv_at hl 3 rfl) ?_
  refine lv_iconst (v := 1) hx hb dL_law_303 (by decide) ?_
  refine lv_iadd hx hb dL_law_304 ?_
  refine va_sld hx hb hX hbl hbA hw.2.2.1 (hin 1 (by decide)) dL_law_305 ?_
  refine lv_aload_n hx hb dL_law_306 rfl (lv_at hl 0 rfl) ?_
  refine lv_iload_n hx hb dL_law_307 rfl (lv_at hl 3 rfl) ?_
  refine lv_iconst (v := 2) hx hb dL_law_308 (by decide) ?_
  refine lv_iadd hx hb dL_law_309 ?_
  refine va_sld hx hb hX hbl hbA hw.2.2.1 (hin 2 (by decide)) dL_law_310 ?_
  refine lv_aload_n hx hb dL_law_311 rfl (lv_at hl 0 rfl) ?_
  refine lv_iload_n hx hb dL_law_312 rfl (lv_at hl 3 rfl) ?_
  refine lv_iconst (v := 3) hx hb dL_law_313 (by decide) ?_
  refine lv_iadd hx hb dL_law_314 ?_
  refine va_sld hx hb hX hbl hbA hw.2.2.1 (hin 3 (by decide)) dL_law_315 ?_
  refine lv_aload_n hx hb dL_law_316 rfl (lv_at hl 0 rfl) ?_
  refine lv_iload_n hx hb dL_law_317 rfl (lv_at hl 3 rfl) ?_
  refine lv_iconst (v := 4) hx hb dL_law_318 (by decide) ?_
  refine lv_iadd hx hb dL_law_319 ?_
  refine va_sld hx hb hX hbl hbA hw.2.2.1 (hin 4 (by decide)) dL_law_320 ?_
  refine lv_aload_n hx hb dL_law_321 rfl (lv_at hl 0 rfl) ?_
  refine lv_iload_n hx hb dL_law_322 rfl (lv_at hl 3 rfl) ?_
  refine lv_iconst (v := 5) hx hb dL_law_323 (by decide) ?_
  refine lv_iadd hx hb dL_law_324 ?_
  refine va_sld hx hb hX hbl hbA hw.2.2.1 (hin 5 (by decide)) dL_law_325 ?_
  refine y_runi hw (y_V (n := 5) (rest := [.int r1]) C hw hm2 (by decide) (eX11_copy hf hm2) q1003 q1004 q1005 q53 q1006 rfl rfl (by decide +kernel) ⟨(Nat.le_of_ble_eq_true rfl), (Nat.le_of_ble_eq_true rfl)⟩ rfl hl.1 rfl (Nat.le_of_ble_eq_true rfl) ⟨by show cells ≤ 600000; omega, by show slots ≤ room_1.slots; omega⟩ dL_law_326) (fun r2 σ2 H locs hf hw => ?_)
  try dsimp only at hf
  refine lv_icmp_eq (tgt := 1177) hx hb dL_law_329 (by decide) (fun _ => ?_) (fun h => absurd hf.1 h)
  exact kk _ _ _ hf.2 hw
set_option maxHeartbeats 4000000 in
set_option maxRecDepth 100000 in
theorem lc_4 {p : Program} {l : Launch} {e : Env} {s : State} {m : MethodId} {args : Array Value} {below : List Frame} {meth : Method} {c : Code} {H : Heap} {locs : List Loc} {cells slots : Nat} {Q : State → Prop} {ls : Array Slot} {E : EC} {lay : Nat → Nat → Nat} {L : List (Nat × Nat)} {A : Nat → Prop} {σ : St} {I : St → List (Nat × Nat) → Prop} {N b Ln : Nat} {xs : Nat → Int32} {v3 : Int32} (C : Cx p s m args c meth RL cL_law 4 E A) (hX : va_X b Ln xs s s.heap) (hbl : b < s.heap.size) (hbA : ¬ A b) (hm1 : (10, 0) ∈ L) (hm2 : (11, 0) ∈ L) (hin : ∀ k : Nat, k < 6 → vp_in (v3 + nI k) Ln) (hcs : cells + 7 ≤ 600000 ∧ slots + 429 ≤ room_1.slots) (hw : Wo E lay L A s σ H locs) (hl : lv_has ls 4 [(0, .ref b), (1, .ref (lay 10 0)), (2, .ref (lay 11 0)), (3, .int v3)]) {tt : Nat} (hAo : Aos s) (hval : ∀ q ∈ L, q.1 < 12 ∨ 20 ≤ q.1) (hfr : ∀ z ∈ idsT tt, z ∉ L) (hst : ∀ (a1 : Int32) (a2 : Int32) (a3 : Int32) (a4 : Int32), fX10_text N σ tt L a1 a2 a3 a4 (fun (r : Int32) (σ1 : St) (L1 : List (Nat × Nat)) => fX11_text N σ1 a1 a2 a3 a4 (fun (r2 : Int32) (σ2 : St) => r = r2 ∧ I σ2 L1))) (kk : ∀ (σ2 : St) (lay2 : Nat → Nat → Nat) (L2 : List (Nat × Nat)) (H1 : Heap) (locs1 : List Loc), I σ2 L2 → (∀ q ∈ L, q ∈ L2) → Wo E lay2 L2 A s σ2 H1 locs1 → lv_has ls 4 [(0, .ref b), (1, .ref (lay2 10 0)), (2, .ref (lay2 11 0)), (3, .int v3)] → W p l e room_1 s m args below meth c H1 locs1 (cells + 7) (slots + 429) Q (F0 m 1177 ls [])) : W p l e room_1 s m args below meth c H locs cells slots Q (F0 m 334 ls []) := by
  have hx := C.1
  have hb := C.2.1
  have hf := hst (xs ((v3 + (1 : Int32))).toNatClampNeg) (xs ((v3 + (2 : Int32))).toNatClampNeg) (xs ((v3 + (3 : Int32))).toNatClampNeg) (xs ((v3 + (4 : Int32))).toNatClampNeg)
  refine lv_aload_n hx hb dL_law_334 rfl (lv_at hl 1 rfl) ?_
  refine lv_aload_n hx hb dL_law_335 rfl (lv_at hl 0 rfl) ?_
  refine lv_iload_n hx hb dL_law_336 rfl (lv_at hl 3 rfl) ?_
  refine lv_iconst (v := 1) hx hb dL_law_337 (by decide) ?_
  refine lv_iadd hx hb dL_law_338 ?_
  refine va_sld hx hb hX hbl hbA hw.2.2.1 (hin 1 (by decide)) dL_law_339 ?_
  refine lv_aload_n hx hb dL_law_340 rfl (lv_at hl 0 rfl) ?_
  refine lv_iload_n hx hb dL_law_341 rfl (lv_at hl 3 rfl) ?_
  refine lv_iconst (v := 2) hx hb dL_law_342 (by decide) ?_
  refine lv_iadd hx hb dL_law_343 ?_
  refine va_sld hx hb hX hbl hbA hw.2.2.1 (hin 2 (by decide)) dL_law_344 ?_
  refine lv_aload_n hx hb dL_law_345 rfl (lv_at hl 0 rfl) ?_
  refine lv_iload_n hx hb dL_law_346 rfl (lv_at hl 3 rfl) ?_
  refine lv_iconst (v := 3) hx hb dL_law_347 (by decide) ?_
  refine lv_iadd hx hb dL_law_348 ?_
  refine va_sld hx hb hX hbl hbA hw.2.2.1 (hin 3 (by decide)) dL_law_349 ?_
  refine lv_aload_n hx hb dL_law_350 rfl (lv_at hl 0 rfl) ?_
  refine lv_iload_n hx hb dL_law_351 rfl (lv_at hl 3 rfl) ?_
  refine lv_iconst (v := 4) hx hb dL_law_352 (by decide) ?_
  refine lv_iadd hx hb dL_law_353 ?_
  refine va_sld hx hb hX hbl hbA hw.2.2.1 (hin 4 (by decide)) dL_law_354 ?_
  refine w_runa hw (w_V (n := 4) (rest := []) hAo C hw hm1 (by decide) (eX10_text hf hm1 hval hfr) q388 q389 q390 q44 q391 rfl rfl (by decide +kernel) ⟨(Nat.le_of_ble_eq_true rfl), (Nat.le_of_ble_eq_true rfl)⟩ rfl hl.1 rfl (Nat.le_of_ble_eq_true rfl) hcs dL_law_355) (fun r1 σ1 lay1 L1 H locs hf hag hL hw => ?_)
  rw [← show lay1 10 0 = lay 10 0 from hag (10, 0) hm1, ← show lay1 11 0 = lay 11 0 from hag (11, 0) hm2] at hl
  have hm2 := hL _ hm2
  refine lv_aload_n hx hb dL_law_358 rfl (lv_at hl 2 rfl) ?_
  refine lv_aload_n hx hb dL_law_359 rfl (lv_at hl 0 rfl) ?_
  refine lv_iload_n hx hb dL_law_360 rfl (lv_at hl 3 rfl) ?_
  refine lv_iconst (v := 1) hx hb dL_law_361 (by decide) ?_
  refine lv_iadd hx hb dL_law_362 ?_
  refine va_sld hx hb hX hbl hbA hw.2.2.1 (hin 1 (by decide)) dL_law_363 ?_
  refine lv_aload_n hx hb dL_law_364 rfl (lv_at hl 0 rfl) ?_
  refine lv_iload_n hx hb dL_law_365 rfl (lv_at hl 3 rfl) ?_
  refine lv_iconst (v := 2) hx hb dL_law_366 (by decide) ?_
  refine lv_iadd hx hb dL_law_367 ?_
  refine va_sld hx hb hX hbl hbA hw.2.2.1 (hin 2 (by decide)) dL_law_368 ?_
  refine lv_aload_n hx hb dL_law_369 rfl (lv_at hl 0 rfl) ?_
  refine lv_iload_n hx hb dL_law_370 rfl (lv_at hl 3 rfl) ?_
  refine lv_iconst (v := 3) hx hb dL_law_371 (by decide) ?_
  refine lv_iadd hx hb dL_law_372 ?_
  refine va_sld hx hb hX hbl hbA hw.2.2.1 (hin 3 (by decide)) dL_law_373 ?_
  refine lv_aload_n hx hb dL_law_374 rfl (lv_at hl 0 rfl) ?_
  refine lv_iload_n hx hb dL_law_375 rfl (lv_at hl 3 rfl) ?_
  refine lv_iconst (v := 4) hx hb dL_law_376 (by decide) ?_
  refine lv_iadd hx hb dL_law_377 ?_
  refine va_sld hx hb hX hbl hbA hw.2.2.1 (hin 4 (by decide)) dL_law_378 ?_
  refine y_runi hw (y_V (n := 4) (rest := [.int r1]) C hw hm2 (by decide) (eX11_text hf hm2) q1007 q1008 q1009 q53 q1010 rfl rfl (by decide +kernel) ⟨(Nat.le_of_ble_eq_true rfl), (Nat.le_of_ble_eq_true rfl)⟩ rfl hl.1 rfl (Nat.le_of_ble_eq_true rfl) ⟨by show cells + 7 ≤ 600000; omega, by show slots + 429 ≤ room_1.slots; omega⟩ dL_law_379) (fun r2 σ2 H locs hf hw => ?_)
  try dsimp only at hf
  refine lv_icmp_eq (tgt := 1177) hx hb dL_law_382 (by decide) (fun _ => ?_) (fun h => absurd hf.1 h)
  exact kk _ _ _ _ _ hf.2 hL hw hl
set_option maxHeartbeats 4000000 in
set_option maxRecDepth 100000 in
theorem lc_5 {p : Program} {l : Launch} {e : Env} {s : State} {m : MethodId} {args : Array Value} {below : List Frame} {meth : Method} {c : Code} {H : Heap} {locs : List Loc} {cells slots : Nat} {Q : State → Prop} {ls : Array Slot} {E : EC} {lay : Nat → Nat → Nat} {L : List (Nat × Nat)} {A : Nat → Prop} {σ : St} {I : St → List (Nat × Nat) → Prop} {N b Ln : Nat} {xs : Nat → Int32} {v3 : Int32} (C : Cx p s m args c meth RL cL_law 4 E A) (hX : va_X b Ln xs s s.heap) (hbl : b < s.heap.size) (hbA : ¬ A b) (hm1 : (10, 0) ∈ L) (hm2 : (11, 0) ∈ L) (hin : ∀ k : Nat, k < 6 → vp_in (v3 + nI k) Ln) (hcs : cells ≤ 600000 ∧ slots ≤ room_1.slots) (hw : Wo E lay L A s σ H locs) (hl : lv_has ls 4 [(0, .ref b), (1, .ref (lay 10 0)), (2, .ref (lay 11 0)), (3, .int v3)]) (hst : ∀ (a1 : Int32) (a2 : Int32), fX10_told N σ a1 a2 (fun (r : Int32) (σ1 : St) => fX11_told N σ1 a1 a2 (fun (r2 : Int32) (σ2 : St) => r = r2 ∧ I σ2 L))) (kk : ∀ (σ2 : St) (H1 : Heap) (locs1 : List Loc), I σ2 L → Wo E lay L A s σ2 H1 locs1 → W p l e room_1 s m args below meth c H1 locs1 cells slots Q (F0 m 1177 ls [])) : W p l e room_1 s m args below meth c H locs cells slots Q (F0 m 387 ls []) := by
  have hx := C.1
  have hb := C.2.1
  have hf := hst (xs ((v3 + (1 : Int32))).toNatClampNeg) (xs ((v3 + (2 : Int32))).toNatClampNeg)
  refine lv_aload_n hx hb dL_law_387 rfl (lv_at hl 1 rfl) ?_
  refine lv_aload_n hx hb dL_law_388 rfl (lv_at hl 0 rfl) ?_
  refine lv_iload_n hx hb dL_law_389 rfl (lv_at hl 3 rfl) ?_
  refine lv_iconst (v := 1) hx hb dL_law_390 (by decide) ?_
  refine lv_iadd hx hb dL_law_391 ?_
  refine va_sld hx hb hX hbl hbA hw.2.2.1 (hin 1 (by decide)) dL_law_392 ?_
  refine lv_aload_n hx hb dL_law_393 rfl (lv_at hl 0 rfl) ?_
  refine lv_iload_n hx hb dL_law_394 rfl (lv_at hl 3 rfl) ?_
  refine lv_iconst (v := 2) hx hb dL_law_395 (by decide) ?_
  refine lv_iadd hx hb dL_law_396 ?_
  refine va_sld hx hb hX hbl hbA hw.2.2.1 (hin 2 (by decide)) dL_law_397 ?_
  refine y_runi hw (y_V (n := 2) (rest := []) C hw hm1 (by decide) (eX10_told hf hm1) q509 q510 q511 q44 q512 rfl rfl (by decide +kernel) ⟨(Nat.le_of_ble_eq_true rfl), (Nat.le_of_ble_eq_true rfl)⟩ rfl hl.1 rfl (Nat.le_of_ble_eq_true rfl) ⟨by show cells ≤ 600000; omega, by show slots ≤ room_1.slots; omega⟩ dL_law_398) (fun r1 σ1 H locs hf hw => ?_)
  try dsimp only at hf
  refine lv_aload_n hx hb dL_law_401 rfl (lv_at hl 2 rfl) ?_
  refine lv_aload_n hx hb dL_law_402 rfl (lv_at hl 0 rfl) ?_
  refine lv_iload_n hx hb dL_law_403 rfl (lv_at hl 3 rfl) ?_
  refine lv_iconst (v := 1) hx hb dL_law_404 (by decide) ?_
  refine lv_iadd hx hb dL_law_405 ?_
  refine va_sld hx hb hX hbl hbA hw.2.2.1 (hin 1 (by decide)) dL_law_406 ?_
  refine lv_aload_n hx hb dL_law_407 rfl (lv_at hl 0 rfl) ?_
  refine lv_iload_n hx hb dL_law_408 rfl (lv_at hl 3 rfl) ?_
  refine lv_iconst (v := 2) hx hb dL_law_409 (by decide) ?_
  refine lv_iadd hx hb dL_law_410 ?_
  refine va_sld hx hb hX hbl hbA hw.2.2.1 (hin 2 (by decide)) dL_law_411 ?_
  refine y_runi hw (y_V (n := 2) (rest := [.int r1]) C hw hm2 (by decide) (eX11_told hf hm2) q1024 q1025 q1026 q53 q1027 rfl rfl (by decide +kernel) ⟨(Nat.le_of_ble_eq_true rfl), (Nat.le_of_ble_eq_true rfl)⟩ rfl hl.1 rfl (Nat.le_of_ble_eq_true rfl) ⟨by show cells ≤ 600000; omega, by show slots ≤ room_1.slots; omega⟩ dL_law_412) (fun r2 σ2 H locs hf hw => ?_)
  try dsimp only at hf
  refine lv_icmp_eq (tgt := 1177) hx hb dL_law_415 (by decide) (fun _ => ?_) (fun h => absurd hf.1 h)
  exact kk _ _ _ hf.2 hw
set_option maxHeartbeats 4000000 in
set_option maxRecDepth 100000 in
theorem lc_6 {p : Program} {l : Launch} {e : Env} {s : State} {m : MethodId} {args : Array Value} {below : List Frame} {meth : Method} {c : Code} {H : Heap} {locs : List Loc} {cells slots : Nat} {Q : State → Prop} {ls : Array Slot} {E : EC} {lay : Nat → Nat → Nat} {L : List (Nat × Nat)} {A : Nat → Prop} {σ : St} {I : St → List (Nat × Nat) → Prop} {N b Ln : Nat} {xs : Nat → Int32} {v3 : Int32} (C : Cx p s m args c meth RL cL_law 4 E A) (hX : va_X b Ln xs s s.heap) (hbl : b < s.heap.size) (hbA : ¬ A b) (hm1 : (10, 0) ∈ L) (hm2 : (11, 0) ∈ L) (hin : ∀ k : Nat, k < 6 → vp_in (v3 + nI k) Ln) (hcs : cells ≤ 600000 ∧ slots ≤ room_1.slots) (hw : Wo E lay L A s σ H locs) (hl : lv_has ls 4 [(0, .ref b), (1, .ref (lay 10 0)), (2, .ref (lay 11 0)), (3, .int v3)]) (hst : ∀ (a1 : Int32) (a2 : Int32), fX10_mark N σ a1 a2 (fun (r : Int32) (σ1 : St) => fX11_mark N σ1 a1 a2 (fun (r2 : Int32) (σ2 : St) => r = r2 ∧ I σ2 L))) (kk : ∀ (σ2 : St) (H1 : Heap) (locs1 : List Loc), I σ2 L → Wo E lay L A s σ2 H1 locs1 → W p l e room_1 s m args below meth c H1 locs1 cells slots Q (F0 m 1177 ls [])) : W p l e room_1 s m args below meth c H locs cells slots Q (F0 m 420 ls []) := by
  have hx := C.1
  have hb := C.2.1
  have hf := hst (xs ((v3 + (1 : Int32))).toNatClampNeg) (xs ((v3 + (2 : Int32))).toNatClampNeg)
  refine lv_aload_n hx hb dL_law_420 rfl (lv_at hl 1 rfl) ?_
  refine lv_aload_n hx hb dL_law_421 rfl (lv_at hl 0 rfl) ?_
  refine lv_iload_n hx hb dL_law_422 rfl (lv_at hl 3 rfl) ?_
  refine lv_iconst (v := 1) hx hb dL_law_423 (by decide) ?_
  refine lv_iadd hx hb dL_law_424 ?_
  refine va_sld hx hb hX hbl hbA hw.2.2.1 (hin 1 (by decide)) dL_law_425 ?_
  refine lv_aload_n hx hb dL_law_426 rfl (lv_at hl 0 rfl) ?_
  refine lv_iload_n hx hb dL_law_427 rfl (lv_at hl 3 rfl) ?_
  refine lv_iconst (v := 2) hx hb dL_law_428 (by decide) ?_
  refine lv_iadd hx hb dL_law_429 ?_
  refine va_sld hx hb hX hbl hbA hw.2.2.1 (hin 2 (by decide)) dL_law_430 ?_
  refine y_runi hw (y_V (n := 2) (rest := []) C hw hm1 (by decide) (eX10_mark hf hm1) q521 q522 q523 q44 q524 rfl rfl (by decide +kernel) ⟨(Nat.le_of_ble_eq_true rfl), (Nat.le_of_ble_eq_true rfl)⟩ rfl hl.1 rfl (Nat.le_of_ble_eq_true rfl) ⟨by show cells ≤ 600000; omega, by show slots ≤ room_1.slots; omega⟩ dL_law_431) (fun r1 σ1 H locs hf hw => ?_)
  try dsimp only at hf
  refine lv_aload_n hx hb dL_law_434 rfl (lv_at hl 2 rfl) ?_
  refine lv_aload_n hx hb dL_law_435 rfl (lv_at hl 0 rfl) ?_
  refine lv_iload_n hx hb dL_law_436 rfl (lv_at hl 3 rfl) ?_
  refine lv_iconst (v := 1) hx hb dL_law_437 (by decide) ?_
  refine lv_iadd hx hb dL_law_438 ?_
  refine va_sld hx hb hX hbl hbA hw.2.2.1 (hin 1 (by decide)) dL_law_439 ?_
  refine lv_aload_n hx hb dL_law_440 rfl (lv_at hl 0 rfl) ?_
  refine lv_iload_n hx hb dL_law_441 rfl (lv_at hl 3 rfl) ?_
  refine lv_iconst (v := 2) hx hb dL_law_442 (by decide) ?_
  refine lv_iadd hx hb dL_law_443 ?_
  refine va_sld hx hb hX hbl hbA hw.2.2.1 (hin 2 (by decide)) dL_law_444 ?_
  refine y_runi hw (y_V (n := 2) (rest := [.int r1]) C hw hm2 (by decide) (eX11_mark hf hm2) q1036 q1037 q1038 q53 q1039 rfl rfl (by decide +kernel) ⟨(Nat.le_of_ble_eq_true rfl), (Nat.le_of_ble_eq_true rfl)⟩ rfl hl.1 rfl (Nat.le_of_ble_eq_true rfl) ⟨by show cells ≤ 600000; omega, by show slots ≤ room_1.slots; omega⟩ dL_law_445) (fun r2 σ2 H locs hf hw => ?_)
  try dsimp only at hf
  refine lv_icmp_eq (tgt := 1177) hx hb dL_law_448 (by decide) (fun _ => ?_) (fun h => absurd hf.1 h)
  exact kk _ _ _ hf.2 hw
set_option maxHeartbeats 4000000 in
set_option maxRecDepth 100000 in
theorem lc_7 {p : Program} {l : Launch} {e : Env} {s : State} {m : MethodId} {args : Array Value} {below : List Frame} {meth : Method} {c : Code} {H : Heap} {locs : List Loc} {cells slots : Nat} {Q : State → Prop} {ls : Array Slot} {E : EC} {lay : Nat → Nat → Nat} {L : List (Nat × Nat)} {A : Nat → Prop} {σ : St} {I : St → List (Nat × Nat) → Prop} {N b Ln : Nat} {xs : Nat → Int32} {v3 : Int32} (C : Cx p s m args c meth RL cL_law 4 E A) (hX : va_X b Ln xs s s.heap) (hbl : b < s.heap.size) (hbA : ¬ A b) (hm1 : (10, 0) ∈ L) (hm2 : (11, 0) ∈ L) (hin : ∀ k : Nat, k < 6 → vp_in (v3 + nI k) Ln) (hcs : cells ≤ 600000 ∧ slots ≤ room_1.slots) (hw : Wo E lay L A s σ H locs) (hl : lv_has ls 4 [(0, .ref b), (1, .ref (lay 10 0)), (2, .ref (lay 11 0)), (3, .int v3)]) (hst : ∀ (a1 : Int32), fX10_withdraw N σ a1 (fun (r : Int32) (σ1 : St) => fX11_withdraw N σ1 a1 (fun (r2 : Int32) (σ2 : St) => r = r2 ∧ I σ2 L))) (kk : ∀ (σ2 : St) (H1 : Heap) (locs1 : List Loc), I σ2 L → Wo E lay L A s σ2 H1 locs1 → W p l e room_1 s m args below meth c H1 locs1 cells slots Q (F0 m 1177 ls [])) : W p l e room_1 s m args below meth c H locs cells slots Q (F0 m 453 ls []) := by
  have hx := C.1
  have hb := C.2.1
  have hf := hst (xs ((v3 + (1 : Int32))).toNatClampNeg)
  refine lv_aload_n hx hb dL_law_453 rfl (lv_at hl 1 rfl) ?_
  refine lv_aload_n hx hb dL_law_454 rfl (lv_at hl 0 rfl) ?_
  refine lv_iload_n hx hb dL_law_455 rfl (lv_at hl 3 rfl) ?_
  refine lv_iconst (v := 1) hx hb dL_law_456 (by decide) ?_
  refine lv_iadd hx hb dL_law_457 ?_
  refine va_sld hx hb hX hbl hbA hw.2.2.1 (hin 1 (by decide)) dL_law_458 ?_
  refine y_runi hw (y_V (n := 1) (rest := []) C hw hm1 (by decide) (eX10_withdraw hf hm1) q529 q530 q531 q44 q532 rfl rfl (by decide +kernel) ⟨(Nat.le_of_ble_eq_true rfl), (Nat.le_of_ble_eq_true rfl)⟩ rfl hl.1 rfl (Nat.le_of_ble_eq_true rfl) ⟨by show cells ≤ 600000; omega, by show slots ≤ room_1.slots; omega⟩ dL_law_459) (fun r1 σ1 H locs hf hw => ?_)
  try dsimp only at hf
  refine lv_aload_n hx hb dL_law_462 rfl (lv_at hl 2 rfl) ?_
  refine lv_aload_n hx hb dL_law_463 rfl (lv_at hl 0 rfl) ?_
  refine lv_iload_n hx hb dL_law_464 rfl (lv_at hl 3 rfl) ?_
  refine lv_iconst (v := 1) hx hb dL_law_465 (by decide) ?_
  refine lv_iadd hx hb dL_law_466 ?_
  refine va_sld hx hb hX hbl hbA hw.2.2.1 (hin 1 (by decide)) dL_law_467 ?_
  refine y_runi hw (y_V (n := 1) (rest := [.int r1]) C hw hm2 (by decide) (eX11_withdraw hf hm2) q1040 q1041 q1042 q53 q1043 rfl rfl (by decide +kernel) ⟨(Nat.le_of_ble_eq_true rfl), (Nat.le_of_ble_eq_true rfl)⟩ rfl hl.1 rfl (Nat.le_of_ble_eq_true rfl) ⟨by show cells ≤ 600000; omega, by show slots ≤ room_1.slots; omega⟩ dL_law_468) (fun r2 σ2 H locs hf hw => ?_)
  try dsimp only at hf
  refine lv_icmp_eq (tgt := 1177) hx hb dL_law_471 (by decide) (fun _ => ?_) (fun h => absurd hf.1 h)
  exact kk _ _ _ hf.2 hw
set_option maxHeartbeats 4000000 in
set_option maxRecDepth 100000 in
theorem lc_8 {p : Program} {l : Launch} {e : Env} {s : State} {m : MethodId} {args : Array Value} {below : List Frame} {meth : Method} {c : Code} {H : Heap} {locs : List Loc} {cells slots : Nat} {Q : State → Prop} {ls : Array Slot} {E : EC} {lay : Nat → Nat → Nat} {L : List (Nat × Nat)} {A : Nat → Prop} {σ : St} {I : St → List (Nat × Nat) → Prop} {N b Ln : Nat} {xs : Nat → Int32} {v3 : Int32} (C : Cx p s m args c meth RL cL_law 4 E A) (hX : va_X b Ln xs s s.heap) (hbl : b < s.heap.size) (hbA : ¬ A b) (hm1 : (10, 0) ∈ L) (hm2 : (11, 0) ∈ L) (hin : ∀ k : Nat, k < 6 → vp_in (v3 + nI k) Ln) (hcs : cells + 2 ≤ 600000 ∧ slots + 16 ≤ room_1.slots) (hw : Wo E lay L A s σ H locs) (hl : lv_has ls 4 [(0, .ref b), (1, .ref (lay 10 0)), (2, .ref (lay 11 0)), (3, .int v3)]) {tt : Nat} (hAo : Aos s) (hval : ∀ q ∈ L, q.1 < 12 ∨ 20 ≤ q.1) (hfr : ∀ z ∈ idsF tt, z ∉ L) (hst : ∀ (a1 : Int32) (a2 : Int32), fX10_feature N σ tt L a1 a2 (fun (r : Int32) (σ1 : St) (L1 : List (Nat × Nat)) => fX11_feature N σ1 a1 a2 (fun (r2 : Int32) (σ2 : St) => r = r2 ∧ I σ2 L1))) (kk : ∀ (σ2 : St) (lay2 : Nat → Nat → Nat) (L2 : List (Nat × Nat)) (H1 : Heap) (locs1 : List Loc), I σ2 L2 → (∀ q ∈ L, q ∈ L2) → Wo E lay2 L2 A s σ2 H1 locs1 → lv_has ls 4 [(0, .ref b), (1, .ref (lay2 10 0)), (2, .ref (lay2 11 0)), (3, .int v3)] → W p l e room_1 s m args below meth c H1 locs1 (cells + 2) (slots + 16) Q (F0 m 1177 ls [])) : W p l e room_1 s m args below meth c H locs cells slots Q (F0 m 476 ls []) := by
  have hx := C.1
  have hb := C.2.1
  have hf := hst (xs ((v3 + (1 : Int32))).toNatClampNeg) (xs ((v3 + (2 : Int32))).toNatClampNeg)
  refine lv_aload_n hx hb dL_law_476 rfl (lv_at hl 1 rfl) ?_
  refine lv_aload_n hx hb dL_law_477 rfl (lv_at hl 0 rfl) ?_
  refine lv_iload_n hx hb dL_law_478 rfl (lv_at hl 3 rfl) ?_
  refine lv_iconst (v := 1) hx hb dL_law_479 (by decide) ?_
  refine lv_iadd hx hb dL_law_480 ?_
  refine va_sld hx hb hX hbl hbA hw.2.2.1 (hin 1 (by decide)) dL_law_481 ?_
  refine lv_aload_n hx hb dL_law_482 rfl (lv_at hl 0 rfl) ?_
  refine lv_iload_n hx hb dL_law_483 rfl (lv_at hl 3 rfl) ?_
  refine lv_iconst (v := 2) hx hb dL_law_484 (by decide) ?_
  refine lv_iadd hx hb dL_law_485 ?_
  refine va_sld hx hb hX hbl hbA hw.2.2.1 (hin 2 (by decide)) dL_law_486 ?_
  refine w_runa hw (w_V (n := 2) (rest := []) hAo C hw hm1 (by decide) (eX10_feature hf hm1 hval hfr) q533 q534 q535 q44 q536 rfl rfl (by decide +kernel) ⟨(Nat.le_of_ble_eq_true rfl), (Nat.le_of_ble_eq_true rfl)⟩ rfl hl.1 rfl (Nat.le_of_ble_eq_true rfl) hcs dL_law_487) (fun r1 σ1 lay1 L1 H locs hf hag hL hw => ?_)
  rw [← show lay1 10 0 = lay 10 0 from hag (10, 0) hm1, ← show lay1 11 0 = lay 11 0 from hag (11, 0) hm2] at hl
  have hm2 := hL _ hm2
  refine lv_aload_n hx hb dL_law_490 rfl (lv_at hl 2 rfl) ?_
  refine lv_aload_n hx hb dL_law_491 rfl (lv_at hl 0 rfl) ?_
  refine lv_iload_n hx hb dL_law_492 rfl (lv_at hl 3 rfl) ?_
  refine lv_iconst (v := 1) hx hb dL_law_493 (by decide) ?_
  refine lv_iadd hx hb dL_law_494 ?_
  refine va_sld hx hb hX hbl hbA hw.2.2.1 (hin 1 (by decide)) dL_law_495 ?_
  refine lv_aload_n hx hb dL_law_496 rfl (lv_at hl 0 rfl) ?_
  refine lv_iload_n hx hb dL_law_497 rfl (lv_at hl 3 rfl) ?_
  refine lv_iconst (v := 2) hx hb dL_law_498 (by decide) ?_
  refine lv_iadd hx hb dL_law_499 ?_
  refine va_sld hx hb hX hbl hbA hw.2.2.1 (hin 2 (by decide)) dL_law_500 ?_
  refine y_runi hw (y_V (n := 2) (rest := [.int r1]) C hw hm2 (by decide) (eX11_feature hf hm2) q1044 q1045 q1046 q53 q1047 rfl rfl (by decide +kernel) ⟨(Nat.le_of_ble_eq_true rfl), (Nat.le_of_ble_eq_true rfl)⟩ rfl hl.1 rfl (Nat.le_of_ble_eq_true rfl) ⟨by show cells + 2 ≤ 600000; omega, by show slots + 16 ≤ room_1.slots; omega⟩ dL_law_501) (fun r2 σ2 H locs hf hw => ?_)
  try dsimp only at hf
  refine lv_icmp_eq (tgt := 1177) hx hb dL_law_504 (by decide) (fun _ => ?_) (fun h => absurd hf.1 h)
  exact kk _ _ _ _ _ hf.2 hL hw hl
set_option maxHeartbeats 4000000 in
set_option maxRecDepth 100000 in
theorem lc_9 {p : Program} {l : Launch} {e : Env} {s : State} {m : MethodId} {args : Array Value} {below : List Frame} {meth : Method} {c : Code} {H : Heap} {locs : List Loc} {cells slots : Nat} {Q : State → Prop} {ls : Array Slot} {E : EC} {lay : Nat → Nat → Nat} {L : List (Nat × Nat)} {A : Nat → Prop} {σ : St} {I : St → List (Nat × Nat) → Prop} {N b Ln : Nat} {xs : Nat → Int32} {v3 : Int32} (C : Cx p s m args c meth RL cL_law 4 E A) (hX : va_X b Ln xs s s.heap) (hbl : b < s.heap.size) (hbA : ¬ A b) (hm1 : (10, 0) ∈ L) (hm2 : (11, 0) ∈ L) (hin : ∀ k : Nat, k < 6 → vp_in (v3 + nI k) Ln) (hcs : cells ≤ 600000 ∧ slots ≤ room_1.slots) (hw : Wo E lay L A s σ H locs) (hl : lv_has ls 4 [(0, .ref b), (1, .ref (lay 10 0)), (2, .ref (lay 11 0)), (3, .int v3)]) (hst : ∀ (a1 : Int32) (a2 : Int32), fX10_counts N σ a1 a2 (fun (r : Int32) (σ1 : St) => fX11_counts N σ1 a1 a2 (fun (r2 : Int32) (σ2 : St) => r = r2 ∧ I σ2 L))) (kk : ∀ (σ2 : St) (H1 : Heap) (locs1 : List Loc), I σ2 L → Wo E lay L A s σ2 H1 locs1 → W p l e room_1 s m args below meth c H1 locs1 cells slots Q (F0 m 1177 ls [])) : W p l e room_1 s m args below meth c H locs cells slots Q (F0 m 509 ls []) := by
  have hx := C.1
  have hb := C.2.1
  have hf := hst (xs ((v3 + (1 : Int32))).toNatClampNeg) (xs ((v3 + (2 : Int32))).toNatClampNeg)
  refine lv_aload_n hx hb dL_law_509 rfl (lv_at hl 1 rfl) ?_
  refine lv_aload_n hx hb dL_law_510 rfl (lv_at hl 0 rfl) ?_
  refine lv_iload_n hx hb dL_law_511 rfl (lv_at hl 3 rfl) ?_
  refine lv_iconst (v := 1) hx hb dL_law_512 (by decide) ?_
  refine lv_iadd hx hb dL_law_513 ?_
  refine va_sld hx hb hX hbl hbA hw.2.2.1 (hin 1 (by decide)) dL_law_514 ?_
  refine lv_aload_n hx hb dL_law_515 rfl (lv_at hl 0 rfl) ?_
  refine lv_iload_n hx hb dL_law_516 rfl (lv_at hl 3 rfl) ?_
  refine lv_iconst (v := 2) hx hb dL_law_517 (by decide) ?_
  refine lv_iadd hx hb dL_law_518 ?_
  refine va_sld hx hb hX hbl hbA hw.2.2.1 (hin 2 (by decide)) dL_law_519 ?_
  refine y_runi hw (y_V (n := 2) (rest := []) C hw hm1 (by decide) (eX10_counts hf hm1) q575 q576 q577 q44 q578 rfl rfl (by decide +kernel) ⟨(Nat.le_of_ble_eq_true rfl), (Nat.le_of_ble_eq_true rfl)⟩ rfl hl.1 rfl (Nat.le_of_ble_eq_true rfl) ⟨by show cells ≤ 600000; omega, by show slots ≤ room_1.slots; omega⟩ dL_law_520) (fun r1 σ1 H locs hf hw => ?_)
  try dsimp only at hf
  refine lv_aload_n hx hb dL_law_523 rfl (lv_at hl 2 rfl) ?_
  refine lv_aload_n hx hb dL_law_524 rfl (lv_at hl 0 rfl) ?_
  refine lv_iload_n hx hb dL_law_525 rfl (lv_at hl 3 rfl) ?_
  refine lv_iconst (v := 1) hx hb dL_law_526 (by decide) ?_
  refine lv_iadd hx hb dL_law_527 ?_
  refine va_sld hx hb hX hbl hbA hw.2.2.1 (hin 1 (by decide)) dL_law_528 ?_
  refine lv_aload_n hx hb dL_law_529 rfl (lv_at hl 0 rfl) ?_
  refine lv_iload_n hx hb dL_law_530 rfl (lv_at hl 3 rfl) ?_
  refine lv_iconst (v := 2) hx hb dL_law_531 (by decide) ?_
  refine lv_iadd hx hb dL_law_532 ?_
  refine va_sld hx hb hX hbl hbA hw.2.2.1 (hin 2 (by decide)) dL_law_533 ?_
  refine y_runi hw (y_V (n := 2) (rest := [.int r1]) C hw hm2 (by decide) (eX11_counts hf hm2) q1051 q1052 q1053 q53 q1054 rfl rfl (by decide +kernel) ⟨(Nat.le_of_ble_eq_true rfl), (Nat.le_of_ble_eq_true rfl)⟩ rfl hl.1 rfl (Nat.le_of_ble_eq_true rfl) ⟨by show cells ≤ 600000; omega, by show slots ≤ room_1.slots; omega⟩ dL_law_534) (fun r2 σ2 H locs hf hw => ?_)
  try dsimp only at hf
  refine lv_icmp_eq (tgt := 1177) hx hb dL_law_537 (by decide) (fun _ => ?_) (fun h => absurd hf.1 h)
  exact kk _ _ _ hf.2 hw
set_option maxHeartbeats 4000000 in
set_option maxRecDepth 100000 in
theorem lc_10 {p : Program} {l : Launch} {e : Env} {s : State} {m : MethodId} {args : Array Value} {below : List Frame} {meth : Method} {c : Code} {H : Heap} {locs : List Loc} {cells slots : Nat} {Q : State → Prop} {ls : Array Slot} {E : EC} {lay : Nat → Nat → Nat} {L : List (Nat × Nat)} {A : Nat → Prop} {σ : St} {I : St → List (Nat × Nat) → Prop} {N b Ln : Nat} {xs : Nat → Int32} {v3 : Int32} (C : Cx p s m args c meth RL cL_law 4 E A) (hX : va_X b Ln xs s s.heap) (hbl : b < s.heap.size) (hbA : ¬ A b) (hm1 : (10, 0) ∈ L) (hm2 : (11, 0) ∈ L) (hin : ∀ k : Nat, k < 6 → vp_in (v3 + nI k) Ln) (hcs : cells ≤ 600000 ∧ slots ≤ room_1.slots) (hw : Wo E lay L A s σ H locs) (hl : lv_has ls 4 [(0, .ref b), (1, .ref (lay 10 0)), (2, .ref (lay 11 0)), (3, .int v3)]) (hst : ∀ (a1 : Int32) (a2 : Int32), fX10_rate N σ a1 a2 (fun (r : Int32) (σ1 : St) => fX11_rate N σ1 a1 a2 (fun (r2 : Int32) (σ2 : St) => r = r2 ∧ I σ2 L))) (kk : ∀ (σ2 : St) (H1 : Heap) (locs1 : List Loc), I σ2 L → Wo E lay L A s σ2 H1 locs1 → W p l e room_1 s m args below meth c H1 locs1 cells slots Q (F0 m 1177 ls [])) : W p l e room_1 s m args below meth c H locs cells slots Q (F0 m 542 ls []) := by
  have hx := C.1
  have hb := C.2.1
  have hf := hst (xs ((v3 + (1 : Int32))).toNatClampNeg) (xs ((v3 + (2 : Int32))).toNatClampNeg)
  refine lv_aload_n hx hb dL_law_542 rfl (lv_at hl 1 rfl) ?_
  refine lv_aload_n hx hb dL_law_543 rfl (lv_at hl 0 rfl) ?_
  refine lv_iload_n hx hb dL_law_544 rfl (lv_at hl 3 rfl) ?_
  refine lv_iconst (v := 1) hx hb dL_law_545 (by decide) ?_
  refine lv_iadd hx hb dL_law_546 ?_
  refine va_sld hx hb hX hbl hbA hw.2.2.1 (hin 1 (by decide)) dL_law_547 ?_
  refine lv_aload_n hx hb dL_law_548 rfl (lv_at hl 0 rfl) ?_
  refine lv_iload_n hx hb dL_law_549 rfl (lv_at hl 3 rfl) ?_
  refine lv_iconst (v := 2) hx hb dL_law_550 (by decide) ?_
  refine lv_iadd hx hb dL_law_551 ?_
  refine va_sld hx hb hX hbl hbA hw.2.2.1 (hin 2 (by decide)) dL_law_552 ?_
  refine y_runi hw (y_V (n := 2) (rest := []) C hw hm1 (by decide) (eX10_rate hf hm1) q587 q588 q589 q44 q590 rfl rfl (by decide +kernel) ⟨(Nat.le_of_ble_eq_true rfl), (Nat.le_of_ble_eq_true rfl)⟩ rfl hl.1 rfl (Nat.le_of_ble_eq_true rfl) ⟨by show cells ≤ 600000; omega, by show slots ≤ room_1.slots; omega⟩ dL_law_553) (fun r1 σ1 H locs hf hw => ?_)
  try dsimp only at hf
  refine lv_aload_n hx hb dL_law_556 rfl (lv_at hl 2 rfl) ?_
  refine lv_aload_n hx hb dL_law_557 rfl (lv_at hl 0 rfl) ?_
  refine lv_iload_n hx hb dL_law_558 rfl (lv_at hl 3 rfl) ?_
  refine lv_iconst (v := 1) hx hb dL_law_559 (by decide) ?_
  refine lv_iadd hx hb dL_law_560 ?_
  refine va_sld hx hb hX hbl hbA hw.2.2.1 (hin 1 (by decide)) dL_law_561 ?_
  refine lv_aload_n hx hb dL_law_562 rfl (lv_at hl 0 rfl) ?_
  refine lv_iload_n hx hb dL_law_563 rfl (lv_at hl 3 rfl) ?_
  refine lv_iconst (v := 2) hx hb dL_law_564 (by decide) ?_
  refine lv_iadd hx hb dL_law_565 ?_
  refine va_sld hx hb hX hbl hbA hw.2.2.1 (hin 2 (by decide)) dL_law_566 ?_
  refine y_runi hw (y_V (n := 2) (rest := [.int r1]) C hw hm2 (by decide) (eX11_rate hf hm2) q1075 q1076 q1077 q53 q1078 rfl rfl (by decide +kernel) ⟨(Nat.le_of_ble_eq_true rfl), (Nat.le_of_ble_eq_true rfl)⟩ rfl hl.1 rfl (Nat.le_of_ble_eq_true rfl) ⟨by show cells ≤ 600000; omega, by show slots ≤ room_1.slots; omega⟩ dL_law_567) (fun r2 σ2 H locs hf hw => ?_)
  try dsimp only at hf
  refine lv_icmp_eq (tgt := 1177) hx hb dL_law_570 (by decide) (fun _ => ?_) (fun h => absurd hf.1 h)
  exact kk _ _ _ hf.2 hw
set_option maxHeartbeats 4000000 in
set_option maxRecDepth 100000 in
theorem lc_11 {p : Program} {l : Launch} {e : Env} {s : State} {m : MethodId} {args : Array Value} {below : List Frame} {meth : Method} {c : Code} {H : Heap} {locs : List Loc} {cells slots : Nat} {Q : State → Prop} {ls : Array Slot} {E : EC} {lay : Nat → Nat → Nat} {L : List (Nat × Nat)} {A : Nat → Prop} {σ : St} {I : St → List (Nat × Nat) → Prop} {N b Ln : Nat} {xs : Nat → Int32} {v3 : Int32} (C : Cx p s m args c meth RL cL_law 4 E A) (hX : va_X b Ln xs s s.heap) (hbl : b < s.heap.size) (hbA : ¬ A b) (hm1 : (10, 0) ∈ L) (hm2 : (11, 0) ∈ L) (hin : ∀ k : Nat, k < 6 → vp_in (v3 + nI k) Ln) (hcs : cells ≤ 600000 ∧ slots ≤ room_1.slots) (hw : Wo E lay L A s σ H locs) (hl : lv_has ls 4 [(0, .ref b), (1, .ref (lay 10 0)), (2, .ref (lay 11 0)), (3, .int v3)]) (hst : ∀ (a1 : Int32) (a2 : Int32), fX10_hand N σ a1 a2 (fun (r : Int32) (σ1 : St) => fX11_hand N σ1 a1 a2 (fun (r2 : Int32) (σ2 : St) => r = r2 ∧ I σ2 L))) (kk : ∀ (σ2 : St) (H1 : Heap) (locs1 : List Loc), I σ2 L → Wo E lay L A s σ2 H1 locs1 → W p l e room_1 s m args below meth c H1 locs1 cells slots Q (F0 m 1177 ls [])) : W p l e room_1 s m args below meth c H locs cells slots Q (F0 m 575 ls []) := by
  have hx := C.1
  have hb := C.2.1
  have hf := hst (xs ((v3 + (1 : Int32))).toNatClampNeg) (xs ((v3 + (2 : Int32))).toNatClampNeg)
  refine lv_aload_n hx hb dL_law_575 rfl (lv_at hl 1 rfl) ?_
  refine lv_aload_n hx hb dL_law_576 rfl (lv_at hl 0 rfl) ?_
  refine lv_iload_n hx hb dL_law_577 rfl (lv_at hl 3 rfl) ?_
  refine lv_iconst (v := 1) hx hb dL_law_578 (by decide) ?_
  refine lv_iadd hx hb dL_law_579 ?_
  refine va_sld hx hb hX hbl hbA hw.2.2.1 (hin 1 (by decide)) dL_law_580 ?_
  refine lv_aload_n hx hb dL_law_581 rfl (lv_at hl 0 rfl) ?_
  refine lv_iload_n hx hb dL_law_582 rfl (lv_at hl 3 rfl) ?_
  refine lv_iconst (v := 2) hx hb dL_law_583 (by decide) ?_
  refine lv_iadd hx hb dL_law_584 ?_
  refine va_sld hx hb hX hbl hbA hw.2.2.1 (hin 2 (by decide)) dL_law_585 ?_
  refine y_runi hw (y_V (n := 2) (rest := []) C hw hm1 (by decide) (eX10_hand hf hm1) q603 q604 q605 q44 q606 rfl rfl (by decide +kernel) ⟨(Nat.le_of_ble_eq_true rfl), (Nat.le_of_ble_eq_true rfl)⟩ rfl hl.1 rfl (Nat.le_of_ble_eq_true rfl) ⟨by show cells ≤ 600000; omega, by show slots ≤ room_1.slots; omega⟩ dL_law_586) (fun r1 σ1 H locs hf hw => ?_)
  try dsimp only at hf
  refine lv_aload_n hx hb dL_law_589 rfl (lv_at hl 2 rfl) ?_
  refine lv_aload_n hx hb dL_law_590 rfl (lv_at hl 0 rfl) ?_
  refine lv_iload_n hx hb dL_law_591 rfl (lv_at hl 3 rfl) ?_
  refine lv_iconst (v := 1) hx hb dL_law_592 (by decide) ?_
  refine lv_iadd hx hb dL_law_593 ?_
  refine va_sld hx hb hX hbl hbA hw.2.2.1 (hin 1 (by decide)) dL_law_594 ?_
  refine lv_aload_n hx hb dL_law_595 rfl (lv_at hl 0 rfl) ?_
  refine lv_iload_n hx hb dL_law_596 rfl (lv_at hl 3 rfl) ?_
  refine lv_iconst (v := 2) hx hb dL_law_597 (by decide) ?_
  refine lv_iadd hx hb dL_law_598 ?_
  refine va_sld hx hb hX hbl hbA hw.2.2.1 (hin 2 (by decide)) dL_law_599 ?_
  refine y_runi hw (y_V (n := 2) (rest := [.int r1]) C hw hm2 (by decide) (eX11_hand hf hm2) q1090 q1091 q1092 q53 q1093 rfl rfl (by decide +kernel) ⟨(Nat.le_of_ble_eq_true rfl), (Nat.le_of_ble_eq_true rfl)⟩ rfl hl.1 rfl (Nat.le_of_ble_eq_true rfl) ⟨by show cells ≤ 600000; omega, by show slots ≤ room_1.slots; omega⟩ dL_law_600) (fun r2 σ2 H locs hf hw => ?_)
  try dsimp only at hf
  refine lv_icmp_eq (tgt := 1177) hx hb dL_law_603 (by decide) (fun _ => ?_) (fun h => absurd hf.1 h)
  exact kk _ _ _ hf.2 hw
set_option maxHeartbeats 4000000 in
set_option maxRecDepth 100000 in
theorem lc_12 {p : Program} {l : Launch} {e : Env} {s : State} {m : MethodId} {args : Array Value} {below : List Frame} {meth : Method} {c : Code} {H : Heap} {locs : List Loc} {cells slots : Nat} {Q : State → Prop} {ls : Array Slot} {E : EC} {lay : Nat → Nat → Nat} {L : List (Nat × Nat)} {A : Nat → Prop} {σ : St} {I : St → List (Nat × Nat) → Prop} {N b Ln : Nat} {xs : Nat → Int32} {v3 : Int32} (C : Cx p s m args c meth RL cL_law 4 E A) (hX : va_X b Ln xs s s.heap) (hbl : b < s.heap.size) (hbA : ¬ A b) (hm1 : (10, 0) ∈ L) (hm2 : (11, 0) ∈ L) (hin : ∀ k : Nat, k < 6 → vp_in (v3 + nI k) Ln) (hcs : cells ≤ 600000 ∧ slots ≤ room_1.slots) (hw : Wo E lay L A s σ H locs) (hl : lv_has ls 4 [(0, .ref b), (1, .ref (lay 10 0)), (2, .ref (lay 11 0)), (3, .int v3)]) (hst : ∀ (a1 : Int32), fX10_mean N σ a1 (fun (r : Int32) (σ1 : St) => fX11_mean N σ1 a1 (fun (r2 : Int32) (σ2 : St) => r = r2 ∧ I σ2 L))) (kk : ∀ (σ2 : St) (H1 : Heap) (locs1 : List Loc), I σ2 L → Wo E lay L A s σ2 H1 locs1 → W p l e room_1 s m args below meth c H1 locs1 cells slots Q (F0 m 1177 ls [])) : W p l e room_1 s m args below meth c H locs cells slots Q (F0 m 608 ls []) := by
  have hx := C.1
  have hb := C.2.1
  have hf := hst (xs ((v3 + (1 : Int32))).toNatClampNeg)
  refine lv_aload_n hx hb dL_law_608 rfl (lv_at hl 1 rfl) ?_
  refine lv_aload_n hx hb dL_law_609 rfl (lv_at hl 0 rfl) ?_
  refine lv_iload_n hx hb dL_law_610 rfl (lv_at hl 3 rfl) ?_
  refine lv_iconst (v := 1) hx hb dL_law_611 (by decide) ?_
  refine lv_iadd hx hb dL_law_612 ?_
  refine va_sld hx hb hX hbl hbA hw.2.2.1 (hin 1 (by decide)) dL_law_613 ?_
  refine y_runi hw (y_V (n := 1) (rest := []) C hw hm1 (by decide) (eX10_mean hf hm1) q642 q643 q644 q44 q645 rfl rfl (by decide +kernel) ⟨(Nat.le_of_ble_eq_true rfl), (Nat.le_of_ble_eq_true rfl)⟩ rfl hl.1 rfl (Nat.le_of_ble_eq_true rfl) ⟨by show cells ≤ 600000; omega, by show slots ≤ room_1.slots; omega⟩ dL_law_614) (fun r1 σ1 H locs hf hw => ?_)
  try dsimp only at hf
  refine lv_aload_n hx hb dL_law_617 rfl (lv_at hl 2 rfl) ?_
  refine lv_aload_n hx hb dL_law_618 rfl (lv_at hl 0 rfl) ?_
  refine lv_iload_n hx hb dL_law_619 rfl (lv_at hl 3 rfl) ?_
  refine lv_iconst (v := 1) hx hb dL_law_620 (by decide) ?_
  refine lv_iadd hx hb dL_law_621 ?_
  refine va_sld hx hb hX hbl hbA hw.2.2.1 (hin 1 (by decide)) dL_law_622 ?_
  refine y_runi hw (y_V (n := 1) (rest := [.int r1]) C hw hm2 (by decide) (eX11_mean hf hm2) q1101 q1102 q1103 q53 q1104 rfl rfl (by decide +kernel) ⟨(Nat.le_of_ble_eq_true rfl), (Nat.le_of_ble_eq_true rfl)⟩ rfl hl.1 rfl (Nat.le_of_ble_eq_true rfl) ⟨by show cells ≤ 600000; omega, by show slots ≤ room_1.slots; omega⟩ dL_law_623) (fun r2 σ2 H locs hf hw => ?_)
  try dsimp only at hf
  refine lv_icmp_eq (tgt := 1177) hx hb dL_law_626 (by decide) (fun _ => ?_) (fun h => absurd hf.1 h)
  exact kk _ _ _ hf.2 hw
set_option maxHeartbeats 4000000 in
set_option maxRecDepth 100000 in
theorem lc_13 {p : Program} {l : Launch} {e : Env} {s : State} {m : MethodId} {args : Array Value} {below : List Frame} {meth : Method} {c : Code} {H : Heap} {locs : List Loc} {cells slots : Nat} {Q : State → Prop} {ls : Array Slot} {E : EC} {lay : Nat → Nat → Nat} {L : List (Nat × Nat)} {A : Nat → Prop} {σ : St} {I : St → List (Nat × Nat) → Prop} {N b Ln : Nat} {xs : Nat → Int32} {v3 : Int32} (C : Cx p s m args c meth RL cL_law 4 E A) (hX : va_X b Ln xs s s.heap) (hbl : b < s.heap.size) (hbA : ¬ A b) (hm1 : (10, 0) ∈ L) (hm2 : (11, 0) ∈ L) (hin : ∀ k : Nat, k < 6 → vp_in (v3 + nI k) Ln) (hcs : cells ≤ 600000 ∧ slots ≤ room_1.slots) (hw : Wo E lay L A s σ H locs) (hl : lv_has ls 4 [(0, .ref b), (1, .ref (lay 10 0)), (2, .ref (lay 11 0)), (3, .int v3)]) (hst : ∀ (a1 : Int32), fX10_sort N σ a1 (fun (r : Int32) (σ1 : St) => fX11_sort N σ1 a1 (fun (r2 : Int32) (σ2 : St) => r = r2 ∧ I σ2 L))) (kk : ∀ (σ2 : St) (H1 : Heap) (locs1 : List Loc), I σ2 L → Wo E lay L A s σ2 H1 locs1 → W p l e room_1 s m args below meth c H1 locs1 cells slots Q (F0 m 1177 ls [])) : W p l e room_1 s m args below meth c H locs cells slots Q (F0 m 631 ls []) := by
  have hx := C.1
  have hb := C.2.1
  have hf := hst (xs ((v3 + (1 : Int32))).toNatClampNeg)
  refine lv_aload_n hx hb dL_law_631 rfl (lv_at hl 1 rfl) ?_
  refine lv_aload_n hx hb dL_law_632 rfl (lv_at hl 0 rfl) ?_
  refine lv_iload_n hx hb dL_law_633 rfl (lv_at hl 3 rfl) ?_
  refine lv_iconst (v := 1) hx hb dL_law_634 (by decide) ?_
  refine lv_iadd hx hb dL_law_635 ?_
  refine va_sld hx hb hX hbl hbA hw.2.2.1 (hin 1 (by decide)) dL_law_636 ?_
  refine y_runi hw (y_V (n := 1) (rest := []) C hw hm1 (by decide) (eX10_sort hf hm1) q646 q647 q648 q44 q649 rfl rfl (by decide +kernel) ⟨(Nat.le_of_ble_eq_true rfl), (Nat.le_of_ble_eq_true rfl)⟩ rfl hl.1 rfl (Nat.le_of_ble_eq_true rfl) ⟨by show cells ≤ 600000; omega, by show slots ≤ room_1.slots; omega⟩ dL_law_637) (fun r1 σ1 H locs hf hw => ?_)
  try dsimp only at hf
  refine lv_aload_n hx hb dL_law_640 rfl (lv_at hl 2 rfl) ?_
  refine lv_aload_n hx hb dL_law_641 rfl (lv_at hl 0 rfl) ?_
  refine lv_iload_n hx hb dL_law_642 rfl (lv_at hl 3 rfl) ?_
  refine lv_iconst (v := 1) hx hb dL_law_643 (by decide) ?_
  refine lv_iadd hx hb dL_law_644 ?_
  refine va_sld hx hb hX hbl hbA hw.2.2.1 (hin 1 (by decide)) dL_law_645 ?_
  refine y_runi hw (y_V (n := 1) (rest := [.int r1]) C hw hm2 (by decide) (eX11_sort hf hm2) q1105 q1106 q1107 q53 q1108 rfl rfl (by decide +kernel) ⟨(Nat.le_of_ble_eq_true rfl), (Nat.le_of_ble_eq_true rfl)⟩ rfl hl.1 rfl (Nat.le_of_ble_eq_true rfl) ⟨by show cells ≤ 600000; omega, by show slots ≤ room_1.slots; omega⟩ dL_law_646) (fun r2 σ2 H locs hf hw => ?_)
  try dsimp only at hf
  refine lv_icmp_eq (tgt := 1177) hx hb dL_law_649 (by decide) (fun _ => ?_) (fun h => absurd hf.1 h)
  exact kk _ _ _ hf.2 hw
set_option maxHeartbeats 4000000 in
set_option maxRecDepth 100000 in
theorem lc_14 {p : Program} {l : Launch} {e : Env} {s : State} {m : MethodId} {args : Array Value} {below : List Frame} {meth : Method} {c : Code} {H : Heap} {locs : List Loc} {cells slots : Nat} {Q : State → Prop} {ls : Array Slot} {E : EC} {lay : Nat → Nat → Nat} {L : List (Nat × Nat)} {A : Nat → Prop} {σ : St} {I : St → List (Nat × Nat) → Prop} {N b Ln : Nat} {xs : Nat → Int32} {v3 : Int32} (C : Cx p s m args c meth RL cL_law 4 E A) (hX : va_X b Ln xs s s.heap) (hbl : b < s.heap.size) (hbA : ¬ A b) (hm1 : (10, 0) ∈ L) (hm2 : (11, 0) ∈ L) (hin : ∀ k : Nat, k < 6 → vp_in (v3 + nI k) Ln) (hcs : cells ≤ 600000 ∧ slots ≤ room_1.slots) (hw : Wo E lay L A s σ H locs) (hl : lv_has ls 4 [(0, .ref b), (1, .ref (lay 10 0)), (2, .ref (lay 11 0)), (3, .int v3)]) (hst : ∀ (a1 : Int32) (a2 : Int32), fX10_far N σ a1 a2 (fun (r : Int32) (σ1 : St) => fX11_far N σ1 a1 a2 (fun (r2 : Int32) (σ2 : St) => r = r2 ∧ I σ2 L))) (kk : ∀ (σ2 : St) (H1 : Heap) (locs1 : List Loc), I σ2 L → Wo E lay L A s σ2 H1 locs1 → W p l e room_1 s m args below meth c H1 locs1 cells slots Q (F0 m 1177 ls [])) : W p l e room_1 s m args below meth c H locs cells slots Q (F0 m 654 ls []) := by
  have hx := C.1
  have hb := C.2.1
  have hf := hst (xs ((v3 + (1 : Int32))).toNatClampNeg) (xs ((v3 + (2 : Int32))).toNatClampNeg)
  refine lv_aload_n hx hb dL_law_654 rfl (lv_at hl 1 rfl) ?_
  refine lv_aload_n hx hb dL_law_655 rfl (lv_at hl 0 rfl) ?_
  refine lv_iload_n hx hb dL_law_656 rfl (lv_at hl 3 rfl) ?_
  refine lv_iconst (v := 1) hx hb dL_law_657 (by decide) ?_
  refine lv_iadd hx hb dL_law_658 ?_
  refine va_sld hx hb hX hbl hbA hw.2.2.1 (hin 1 (by decide)) dL_law_659 ?_
  refine lv_aload_n hx hb dL_law_660 rfl (lv_at hl 0 rfl) ?_
  refine lv_iload_n hx hb dL_law_661 rfl (lv_at hl 3 rfl) ?_
  refine lv_iconst (v := 2) hx hb dL_law_662 (by decide) ?_
  refine lv_iadd hx hb dL_law_663 ?_
  refine va_sld hx hb hX hbl hbA hw.2.2.1 (hin 2 (by decide)) dL_law_664 ?_
  refine y_runi hw (y_V (n := 2) (rest := []) C hw hm1 (by decide) (eX10_far hf hm1) q650 q651 q652 q44 q653 rfl rfl (by decide +kernel) ⟨(Nat.le_of_ble_eq_true rfl), (Nat.le_of_ble_eq_true rfl)⟩ rfl hl.1 rfl (Nat.le_of_ble_eq_true rfl) ⟨by show cells ≤ 600000; omega, by show slots ≤ room_1.slots; omega⟩ dL_law_665) (fun r1 σ1 H locs hf hw => ?_)
  try dsimp only at hf
  refine lv_aload_n hx hb dL_law_668 rfl (lv_at hl 2 rfl) ?_
  refine lv_aload_n hx hb dL_law_669 rfl (lv_at hl 0 rfl) ?_
  refine lv_iload_n hx hb dL_law_670 rfl (lv_at hl 3 rfl) ?_
  refine lv_iconst (v := 1) hx hb dL_law_671 (by decide) ?_
  refine lv_iadd hx hb dL_law_672 ?_
  refine va_sld hx hb hX hbl hbA hw.2.2.1 (hin 1 (by decide)) dL_law_673 ?_
  refine lv_aload_n hx hb dL_law_674 rfl (lv_at hl 0 rfl) ?_
  refine lv_iload_n hx hb dL_law_675 rfl (lv_at hl 3 rfl) ?_
  refine lv_iconst (v := 2) hx hb dL_law_676 (by decide) ?_
  refine lv_iadd hx hb dL_law_677 ?_
  refine va_sld hx hb hX hbl hbA hw.2.2.1 (hin 2 (by decide)) dL_law_678 ?_
  refine y_runi hw (y_V (n := 2) (rest := [.int r1]) C hw hm2 (by decide) (eX11_far hf hm2) q1109 q1110 q1111 q53 q1112 rfl rfl (by decide +kernel) ⟨(Nat.le_of_ble_eq_true rfl), (Nat.le_of_ble_eq_true rfl)⟩ rfl hl.1 rfl (Nat.le_of_ble_eq_true rfl) ⟨by show cells ≤ 600000; omega, by show slots ≤ room_1.slots; omega⟩ dL_law_679) (fun r2 σ2 H locs hf hw => ?_)
  try dsimp only at hf
  refine lv_icmp_eq (tgt := 1177) hx hb dL_law_682 (by decide) (fun _ => ?_) (fun h => absurd hf.1 h)
  exact kk _ _ _ hf.2 hw
set_option maxHeartbeats 4000000 in
set_option maxRecDepth 100000 in
theorem lc_15 {p : Program} {l : Launch} {e : Env} {s : State} {m : MethodId} {args : Array Value} {below : List Frame} {meth : Method} {c : Code} {H : Heap} {locs : List Loc} {cells slots : Nat} {Q : State → Prop} {ls : Array Slot} {E : EC} {lay : Nat → Nat → Nat} {L : List (Nat × Nat)} {A : Nat → Prop} {σ : St} {I : St → List (Nat × Nat) → Prop} {N b Ln : Nat} {xs : Nat → Int32} {v3 : Int32} (C : Cx p s m args c meth RL cL_law 4 E A) (hX : va_X b Ln xs s s.heap) (hbl : b < s.heap.size) (hbA : ¬ A b) (hm1 : (10, 0) ∈ L) (hm2 : (11, 0) ∈ L) (hin : ∀ k : Nat, k < 6 → vp_in (v3 + nI k) Ln) (hcs : cells ≤ 600000 ∧ slots ≤ room_1.slots) (hw : Wo E lay L A s σ H locs) (hl : lv_has ls 4 [(0, .ref b), (1, .ref (lay 10 0)), (2, .ref (lay 11 0)), (3, .int v3)]) (hst : ∀ (a1 : Int32) (a2 : Int32), fX10_from N σ a1 a2 (fun (r : Int32) (σ1 : St) => fX11_from N σ1 a1 a2 (fun (r2 : Int32) (σ2 : St) => r = r2 ∧ I σ2 L))) (kk : ∀ (σ2 : St) (H1 : Heap) (locs1 : List Loc), I σ2 L → Wo E lay L A s σ2 H1 locs1 → W p l e room_1 s m args below meth c H1 locs1 cells slots Q (F0 m 1177 ls [])) : W p l e room_1 s m args below meth c H locs cells slots Q (F0 m 687 ls []) := by
  have hx := C.1
  have hb := C.2.1
  have hf := hst (xs ((v3 + (1 : Int32))).toNatClampNeg) (xs ((v3 + (2 : Int32))).toNatClampNeg)
  refine lv_aload_n hx hb dL_law_687 rfl (lv_at hl 1 rfl) ?_
  refine lv_aload_n hx hb dL_law_688 rfl (lv_at hl 0 rfl) ?_
  refine lv_iload_n hx hb dL_law_689 rfl (lv_at hl 3 rfl) ?_
  refine lv_iconst (v := 1) hx hb dL_law_690 (by decide) ?_
  refine lv_iadd hx hb dL_law_691 ?_
  refine va_sld hx hb hX hbl hbA hw.2.2.1 (hin 1 (by decide)) dL_law_692 ?_
  refine lv_aload_n hx hb dL_law_693 rfl (lv_at hl 0 rfl) ?_
  refine lv_iload_n hx hb dL_law_694 rfl (lv_at hl 3 rfl) ?_
  refine lv_iconst (v := 2) hx hb dL_law_695 (by decide) ?_
  refine lv_iadd hx hb dL_law_696 ?_
  refine va_sld hx hb hX hbl hbA hw.2.2.1 (hin 2 (by decide)) dL_law_697 ?_
  refine y_runi hw (y_V (n := 2) (rest := []) C hw hm1 (by decide) (eX10_from hf hm1) q662 q663 q664 q44 q665 rfl rfl (by decide +kernel) ⟨(Nat.le_of_ble_eq_true rfl), (Nat.le_of_ble_eq_true rfl)⟩ rfl hl.1 rfl (Nat.le_of_ble_eq_true rfl) ⟨by show cells ≤ 600000; omega, by show slots ≤ room_1.slots; omega⟩ dL_law_698) (fun r1 σ1 H locs hf hw => ?_)
  try dsimp only at hf
  refine lv_aload_n hx hb dL_law_701 rfl (lv_at hl 2 rfl) ?_
  refine lv_aload_n hx hb dL_law_702 rfl (lv_at hl 0 rfl) ?_
  refine lv_iload_n hx hb dL_law_703 rfl (lv_at hl 3 rfl) ?_
  refine lv_iconst (v := 1) hx hb dL_law_704 (by decide) ?_
  refine lv_iadd hx hb dL_law_705 ?_
  refine va_sld hx hb hX hbl hbA hw.2.2.1 (hin 1 (by decide)) dL_law_706 ?_
  refine lv_aload_n hx hb dL_law_707 rfl (lv_at hl 0 rfl) ?_
  refine lv_iload_n hx hb dL_law_708 rfl (lv_at hl 3 rfl) ?_
  refine lv_iconst (v := 2) hx hb dL_law_709 (by decide) ?_
  refine lv_iadd hx hb dL_law_710 ?_
  refine va_sld hx hb hX hbl hbA hw.2.2.1 (hin 2 (by decide)) dL_law_711 ?_
  refine y_runi hw (y_V (n := 2) (rest := [.int r1]) C hw hm2 (by decide) (eX11_from hf hm2) q1125 q1126 q1127 q53 q1128 rfl rfl (by decide +kernel) ⟨(Nat.le_of_ble_eq_true rfl), (Nat.le_of_ble_eq_true rfl)⟩ rfl hl.1 rfl (Nat.le_of_ble_eq_true rfl) ⟨by show cells ≤ 600000; omega, by show slots ≤ room_1.slots; omega⟩ dL_law_712) (fun r2 σ2 H locs hf hw => ?_)
  try dsimp only at hf
  refine lv_icmp_eq (tgt := 1177) hx hb dL_law_715 (by decide) (fun _ => ?_) (fun h => absurd hf.1 h)
  exact kk _ _ _ hf.2 hw
set_option maxHeartbeats 4000000 in
set_option maxRecDepth 100000 in
theorem lc_16 {p : Program} {l : Launch} {e : Env} {s : State} {m : MethodId} {args : Array Value} {below : List Frame} {meth : Method} {c : Code} {H : Heap} {locs : List Loc} {cells slots : Nat} {Q : State → Prop} {ls : Array Slot} {E : EC} {lay : Nat → Nat → Nat} {L : List (Nat × Nat)} {A : Nat → Prop} {σ : St} {I : St → List (Nat × Nat) → Prop} {N b Ln : Nat} {xs : Nat → Int32} {v3 : Int32} (C : Cx p s m args c meth RL cL_law 4 E A) (hX : va_X b Ln xs s s.heap) (hbl : b < s.heap.size) (hbA : ¬ A b) (hm1 : (10, 0) ∈ L) (hm2 : (11, 0) ∈ L) (hin : ∀ k : Nat, k < 6 → vp_in (v3 + nI k) Ln) (hcs : cells ≤ 600000 ∧ slots ≤ room_1.slots) (hw : Wo E lay L A s σ H locs) (hl : lv_has ls 4 [(0, .ref b), (1, .ref (lay 10 0)), (2, .ref (lay 11 0)), (3, .int v3)]) (hst : ∀ (a1 : Int32), fX10_nearest N σ a1 (fun (r : Int32) (σ1 : St) => fX11_nearest N σ1 a1 (fun (r2 : Int32) (σ2 : St) => r = r2 ∧ I σ2 L))) (kk : ∀ (σ2 : St) (H1 : Heap) (locs1 : List Loc), I σ2 L → Wo E lay L A s σ2 H1 locs1 → W p l e room_1 s m args below meth c H1 locs1 cells slots Q (F0 m 1177 ls [])) : W p l e room_1 s m args below meth c H locs cells slots Q (F0 m 720 ls []) := by
  have hx := C.1
  have hb := C.2.1
  have hf := hst (xs ((v3 + (1 : Int32))).toNatClampNeg)
  refine lv_aload_n hx hb dL_law_720 rfl (lv_at hl 1 rfl) ?_
  refine lv_aload_n hx hb dL_law_721 rfl (lv_at hl 0 rfl) ?_
  refine lv_iload_n hx hb dL_law_722 rfl (lv_at hl 3 rfl) ?_
  refine lv_iconst (v := 1) hx hb dL_law_723 (by decide) ?_
  refine lv_iadd hx hb dL_law_724 ?_
  refine va_sld hx hb hX hbl hbA hw.2.2.1 (hin 1 (by decide)) dL_law_725 ?_
  refine y_runi hw (y_V (n := 1) (rest := []) C hw hm1 (by decide) (eX10_nearest hf hm1) q675 q676 q677 q44 q678 rfl rfl (by decide +kernel) ⟨(Nat.le_of_ble_eq_true rfl), (Nat.le_of_ble_eq_true rfl)⟩ rfl hl.1 rfl (Nat.le_of_ble_eq_true rfl) ⟨by show cells ≤ 600000; omega, by show slots ≤ room_1.slots; omega⟩ dL_law_726) (fun r1 σ1 H locs hf hw => ?_)
  try dsimp only at hf
  refine lv_aload_n hx hb dL_law_729 rfl (lv_at hl 2 rfl) ?_
  refine lv_aload_n hx hb dL_law_730 rfl (lv_at hl 0 rfl) ?_
  refine lv_iload_n hx hb dL_law_731 rfl (lv_at hl 3 rfl) ?_
  refine lv_iconst (v := 1) hx hb dL_law_732 (by decide) ?_
  refine lv_iadd hx hb dL_law_733 ?_
  refine va_sld hx hb hX hbl hbA hw.2.2.1 (hin 1 (by decide)) dL_law_734 ?_
  refine y_runi hw (y_V (n := 1) (rest := [.int r1]) C hw hm2 (by decide) (eX11_nearest hf hm2) q1129 q1130 q1131 q53 q1132 rfl rfl (by decide +kernel) ⟨(Nat.le_of_ble_eq_true rfl), (Nat.le_of_ble_eq_true rfl)⟩ rfl hl.1 rfl (Nat.le_of_ble_eq_true rfl) ⟨by show cells ≤ 600000; omega, by show slots ≤ room_1.slots; omega⟩ dL_law_735) (fun r2 σ2 H locs hf hw => ?_)
  try dsimp only at hf
  refine lv_icmp_eq (tgt := 1177) hx hb dL_law_738 (by decide) (fun _ => ?_) (fun h => absurd hf.1 h)
  exact kk _ _ _ hf.2 hw
set_option maxHeartbeats 4000000 in
set_option maxRecDepth 100000 in
theorem lc_17 {p : Program} {l : Launch} {e : Env} {s : State} {m : MethodId} {args : Array Value} {below : List Frame} {meth : Method} {c : Code} {H : Heap} {locs : List Loc} {cells slots : Nat} {Q : State → Prop} {ls : Array Slot} {E : EC} {lay : Nat → Nat → Nat} {L : List (Nat × Nat)} {A : Nat → Prop} {σ : St} {I : St → List (Nat × Nat) → Prop} {N b Ln : Nat} {xs : Nat → Int32} {v3 : Int32} (C : Cx p s m args c meth RL cL_law 4 E A) (hX : va_X b Ln xs s s.heap) (hbl : b < s.heap.size) (hbA : ¬ A b) (hm1 : (10, 0) ∈ L) (hm2 : (11, 0) ∈ L) (hin : ∀ k : Nat, k < 6 → vp_in (v3 + nI k) Ln) (hcs : cells ≤ 600000 ∧ slots ≤ room_1.slots) (hw : Wo E lay L A s σ H locs) (hl : lv_has ls 4 [(0, .ref b), (1, .ref (lay 10 0)), (2, .ref (lay 11 0)), (3, .int v3)]) (hst : ∀ (a1 : Int32) (a2 : Int32), fX10_place N σ a1 a2 (fun (r : Int32) (σ1 : St) => fX11_place N σ1 a1 a2 (fun (r2 : Int32) (σ2 : St) => r = r2 ∧ I σ2 L))) (kk : ∀ (σ2 : St) (H1 : Heap) (locs1 : List Loc), I σ2 L → Wo E lay L A s σ2 H1 locs1 → W p l e room_1 s m args below meth c H1 locs1 cells slots Q (F0 m 1177 ls [])) : W p l e room_1 s m args below meth c H locs cells slots Q (F0 m 743 ls []) := by
  have hx := C.1
  have hb := C.2.1
  have hf := hst (xs ((v3 + (1 : Int32))).toNatClampNeg) (xs ((v3 + (2 : Int32))).toNatClampNeg)
  refine lv_aload_n hx hb dL_law_743 rfl (lv_at hl 1 rfl) ?_
  refine lv_aload_n hx hb dL_law_744 rfl (lv_at hl 0 rfl) ?_
  refine lv_iload_n hx hb dL_law_745 rfl (lv_at hl 3 rfl) ?_
  refine lv_iconst (v := 1) hx hb dL_law_746 (by decide) ?_
  refine lv_iadd hx hb dL_law_747 ?_
  refine va_sld hx hb hX hbl hbA hw.2.2.1 (hin 1 (by decide)) dL_law_748 ?_
  refine lv_aload_n hx hb dL_law_749 rfl (lv_at hl 0 rfl) ?_
  refine lv_iload_n hx hb dL_law_750 rfl (lv_at hl 3 rfl) ?_
  refine lv_iconst (v := 2) hx hb dL_law_751 (by decide) ?_
  refine lv_iadd hx hb dL_law_752 ?_
  refine va_sld hx hb hX hbl hbA hw.2.2.1 (hin 2 (by decide)) dL_law_753 ?_
  refine y_runi hw (y_V (n := 2) (rest := []) C hw hm1 (by decide) (eX10_place hf hm1) q688 q689 q690 q44 q691 rfl rfl (by decide +kernel) ⟨(Nat.le_of_ble_eq_true rfl), (Nat.le_of_ble_eq_true rfl)⟩ rfl hl.1 rfl (Nat.le_of_ble_eq_true rfl) ⟨by show cells ≤ 600000; omega, by show slots ≤ room_1.slots; omega⟩ dL_law_754) (fun r1 σ1 H locs hf hw => ?_)
  try dsimp only at hf
  refine lv_aload_n hx hb dL_law_757 rfl (lv_at hl 2 rfl) ?_
  refine lv_aload_n hx hb dL_law_758 rfl (lv_at hl 0 rfl) ?_
  refine lv_iload_n hx hb dL_law_759 rfl (lv_at hl 3 rfl) ?_
  refine lv_iconst (v := 1) hx hb dL_law_760 (by decide) ?_
  refine lv_iadd hx hb dL_law_761 ?_
  refine va_sld hx hb hX hbl hbA hw.2.2.1 (hin 1 (by decide)) dL_law_762 ?_
  refine lv_aload_n hx hb dL_law_763 rfl (lv_at hl 0 rfl) ?_
  refine lv_iload_n hx hb dL_law_764 rfl (lv_at hl 3 rfl) ?_
  refine lv_iconst (v := 2) hx hb dL_law_765 (by decide) ?_
  refine lv_iadd hx hb dL_law_766 ?_
  refine va_sld hx hb hX hbl hbA hw.2.2.1 (hin 2 (by decide)) dL_law_767 ?_
  refine y_runi hw (y_V (n := 2) (rest := [.int r1]) C hw hm2 (by decide) (eX11_place hf hm2) q1137 q1138 q1139 q53 q1140 rfl rfl (by decide +kernel) ⟨(Nat.le_of_ble_eq_true rfl), (Nat.le_of_ble_eq_true rfl)⟩ rfl hl.1 rfl (Nat.le_of_ble_eq_true rfl) ⟨by show cells ≤ 600000; omega, by show slots ≤ room_1.slots; omega⟩ dL_law_768) (fun r2 σ2 H locs hf hw => ?_)
  try dsimp only at hf
  refine lv_icmp_eq (tgt := 1177) hx hb dL_law_771 (by decide) (fun _ => ?_) (fun h => absurd hf.1 h)
  exact kk _ _ _ hf.2 hw
set_option maxHeartbeats 4000000 in
set_option maxRecDepth 100000 in
theorem lc_18 {p : Program} {l : Launch} {e : Env} {s : State} {m : MethodId} {args : Array Value} {below : List Frame} {meth : Method} {c : Code} {H : Heap} {locs : List Loc} {cells slots : Nat} {Q : State → Prop} {ls : Array Slot} {E : EC} {lay : Nat → Nat → Nat} {L : List (Nat × Nat)} {A : Nat → Prop} {σ : St} {I : St → List (Nat × Nat) → Prop} {N b Ln : Nat} {xs : Nat → Int32} {v3 : Int32} (C : Cx p s m args c meth RL cL_law 4 E A) (hX : va_X b Ln xs s s.heap) (hbl : b < s.heap.size) (hbA : ¬ A b) (hm1 : (10, 0) ∈ L) (hm2 : (11, 0) ∈ L) (hin : ∀ k : Nat, k < 6 → vp_in (v3 + nI k) Ln) (hcs : cells ≤ 600000 ∧ slots ≤ room_1.slots) (hw : Wo E lay L A s σ H locs) (hl : lv_has ls 4 [(0, .ref b), (1, .ref (lay 10 0)), (2, .ref (lay 11 0)), (3, .int v3)]) (hst : ∀ (a1 : Int32), fX10_trial N σ a1 (fun (r : Int32) (σ1 : St) => fX11_trial N σ1 a1 (fun (r2 : Int32) (σ2 : St) => r = r2 ∧ I σ2 L))) (kk : ∀ (σ2 : St) (H1 : Heap) (locs1 : List Loc), I σ2 L → Wo E lay L A s σ2 H1 locs1 → W p l e room_1 s m args below meth c H1 locs1 cells slots Q (F0 m 1177 ls [])) : W p l e room_1 s m args below meth c H locs cells slots Q (F0 m 776 ls []) := by
  have hx := C.1
  have hb := C.2.1
  have hf := hst (xs ((v3 + (1 : Int32))).toNatClampNeg)
  refine lv_aload_n hx hb dL_law_776 rfl (lv_at hl 1 rfl) ?_
  refine lv_aload_n hx hb dL_law_777 rfl (lv_at hl 0 rfl) ?_
  refine lv_iload_n hx hb dL_law_778 rfl (lv_at hl 3 rfl) ?_
  refine lv_iconst (v := 1) hx hb dL_law_779 (by decide) ?_
  refine lv_iadd hx hb dL_law_780 ?_
  refine va_sld hx hb hX hbl hbA hw.2.2.1 (hin 1 (by decide)) dL_law_781 ?_
  refine y_runi hw (y_V (n := 1) (rest := []) C hw hm1 (by decide) (eX10_trial hf hm1) q696 q697 q698 q44 q699 rfl rfl (by decide +kernel) ⟨(Nat.le_of_ble_eq_true rfl), (Nat.le_of_ble_eq_true rfl)⟩ rfl hl.1 rfl (Nat.le_of_ble_eq_true rfl) ⟨by show cells ≤ 600000; omega, by show slots ≤ room_1.slots; omega⟩ dL_law_782) (fun r1 σ1 H locs hf hw => ?_)
  try dsimp only at hf
  refine lv_aload_n hx hb dL_law_785 rfl (lv_at hl 2 rfl) ?_
  refine lv_aload_n hx hb dL_law_786 rfl (lv_at hl 0 rfl) ?_
  refine lv_iload_n hx hb dL_law_787 rfl (lv_at hl 3 rfl) ?_
  refine lv_iconst (v := 1) hx hb dL_law_788 (by decide) ?_
  refine lv_iadd hx hb dL_law_789 ?_
  refine va_sld hx hb hX hbl hbA hw.2.2.1 (hin 1 (by decide)) dL_law_790 ?_
  refine y_runi hw (y_V (n := 1) (rest := [.int r1]) C hw hm2 (by decide) (eX11_trial hf hm2) q1141 q1142 q1143 q53 q1144 rfl rfl (by decide +kernel) ⟨(Nat.le_of_ble_eq_true rfl), (Nat.le_of_ble_eq_true rfl)⟩ rfl hl.1 rfl (Nat.le_of_ble_eq_true rfl) ⟨by show cells ≤ 600000; omega, by show slots ≤ room_1.slots; omega⟩ dL_law_791) (fun r2 σ2 H locs hf hw => ?_)
  try dsimp only at hf
  refine lv_icmp_eq (tgt := 1177) hx hb dL_law_794 (by decide) (fun _ => ?_) (fun h => absurd hf.1 h)
  exact kk _ _ _ hf.2 hw
set_option maxHeartbeats 4000000 in
set_option maxRecDepth 100000 in
theorem lc_19 {p : Program} {l : Launch} {e : Env} {s : State} {m : MethodId} {args : Array Value} {below : List Frame} {meth : Method} {c : Code} {H : Heap} {locs : List Loc} {cells slots : Nat} {Q : State → Prop} {ls : Array Slot} {E : EC} {lay : Nat → Nat → Nat} {L : List (Nat × Nat)} {A : Nat → Prop} {σ : St} {I : St → List (Nat × Nat) → Prop} {N b Ln : Nat} {xs : Nat → Int32} {v3 : Int32} (C : Cx p s m args c meth RL cL_law 4 E A) (hX : va_X b Ln xs s s.heap) (hbl : b < s.heap.size) (hbA : ¬ A b) (hm1 : (10, 0) ∈ L) (hm2 : (11, 0) ∈ L) (hin : ∀ k : Nat, k < 6 → vp_in (v3 + nI k) Ln) (hcs : cells ≤ 600000 ∧ slots ≤ room_1.slots) (hw : Wo E lay L A s σ H locs) (hl : lv_has ls 4 [(0, .ref b), (1, .ref (lay 10 0)), (2, .ref (lay 11 0)), (3, .int v3)]) (hst : ∀ (a1 : Int32) (a2 : Int32), fX10_taken N σ a1 a2 (fun (r : Int32) (σ1 : St) => fX11_taken N σ1 a1 a2 (fun (r2 : Int32) (σ2 : St) => r = r2 ∧ I σ2 L))) (kk : ∀ (σ2 : St) (H1 : Heap) (locs1 : List Loc), I σ2 L → Wo E lay L A s σ2 H1 locs1 → W p l e room_1 s m args below meth c H1 locs1 cells slots Q (F0 m 1177 ls [])) : W p l e room_1 s m args below meth c H locs cells slots Q (F0 m 799 ls []) := by
  have hx := C.1
  have hb := C.2.1
  have hf := hst (xs ((v3 + (1 : Int32))).toNatClampNeg) (xs ((v3 + (2 : Int32))).toNatClampNeg)
  refine lv_aload_n hx hb dL_law_799 rfl (lv_at hl 1 rfl) ?_
  refine lv_aload_n hx hb dL_law_800 rfl (lv_at hl 0 rfl) ?_
  refine lv_iload_n hx hb dL_law_801 rfl (lv_at hl 3 rfl) ?_
  refine lv_iconst (v := 1) hx hb dL_law_802 (by decide) ?_
  refine lv_iadd hx hb dL_law_803 ?_
  refine va_sld hx hb hX hbl hbA hw.2.2.1 (hin 1 (by decide)) dL_law_804 ?_
  refine lv_aload_n hx hb dL_law_805 rfl (lv_at hl 0 rfl) ?_
  refine lv_iload_n hx hb dL_law_806 rfl (lv_at hl 3 rfl) ?_
  refine lv_iconst (v := 2) hx hb dL_law_807 (by decide) ?_
  refine lv_iadd hx hb dL_law_808 ?_
  refine va_sld hx hb hX hbl hbA hw.2.2.1 (hin 2 (by decide)) dL_law_809 ?_
  refine y_runi hw (y_V (n := 2) (rest := []) C hw hm1 (by decide) (eX10_taken hf hm1) q704 q705 q706 q44 q707 rfl rfl (by decide +kernel) ⟨(Nat.le_of_ble_eq_true rfl), (Nat.le_of_ble_eq_true rfl)⟩ rfl hl.1 rfl (Nat.le_of_ble_eq_true rfl) ⟨by show cells ≤ 600000; omega, by show slots ≤ room_1.slots; omega⟩ dL_law_810) (fun r1 σ1 H locs hf hw => ?_)
  try dsimp only at hf
  refine lv_aload_n hx hb dL_law_813 rfl (lv_at hl 2 rfl) ?_
  refine lv_aload_n hx hb dL_law_814 rfl (lv_at hl 0 rfl) ?_
  refine lv_iload_n hx hb dL_law_815 rfl (lv_at hl 3 rfl) ?_
  refine lv_iconst (v := 1) hx hb dL_law_816 (by decide) ?_
  refine lv_iadd hx hb dL_law_817 ?_
  refine va_sld hx hb hX hbl hbA hw.2.2.1 (hin 1 (by decide)) dL_law_818 ?_
  refine lv_aload_n hx hb dL_law_819 rfl (lv_at hl 0 rfl) ?_
  refine lv_iload_n hx hb dL_law_820 rfl (lv_at hl 3 rfl) ?_
  refine lv_iconst (v := 2) hx hb dL_law_821 (by decide) ?_
  refine lv_iadd hx hb dL_law_822 ?_
  refine va_sld hx hb hX hbl hbA hw.2.2.1 (hin 2 (by decide)) dL_law_823 ?_
  refine y_runi hw (y_V (n := 2) (rest := [.int r1]) C hw hm2 (by decide) (eX11_taken hf hm2) q1145 q1146 q1147 q53 q1148 rfl rfl (by decide +kernel) ⟨(Nat.le_of_ble_eq_true rfl), (Nat.le_of_ble_eq_true rfl)⟩ rfl hl.1 rfl (Nat.le_of_ble_eq_true rfl) ⟨by show cells ≤ 600000; omega, by show slots ≤ room_1.slots; omega⟩ dL_law_824) (fun r2 σ2 H locs hf hw => ?_)
  try dsimp only at hf
  refine lv_icmp_eq (tgt := 1177) hx hb dL_law_827 (by decide) (fun _ => ?_) (fun h => absurd hf.1 h)
  exact kk _ _ _ hf.2 hw
set_option maxHeartbeats 4000000 in
set_option maxRecDepth 100000 in
theorem lc_20 {p : Program} {l : Launch} {e : Env} {s : State} {m : MethodId} {args : Array Value} {below : List Frame} {meth : Method} {c : Code} {H : Heap} {locs : List Loc} {cells slots : Nat} {Q : State → Prop} {ls : Array Slot} {E : EC} {lay : Nat → Nat → Nat} {L : List (Nat × Nat)} {A : Nat → Prop} {σ : St} {I : St → List (Nat × Nat) → Prop} {N b Ln : Nat} {xs : Nat → Int32} {v3 : Int32} (C : Cx p s m args c meth RL cL_law 4 E A) (hX : va_X b Ln xs s s.heap) (hbl : b < s.heap.size) (hbA : ¬ A b) (hm1 : (10, 0) ∈ L) (hm2 : (11, 0) ∈ L) (hin : ∀ k : Nat, k < 6 → vp_in (v3 + nI k) Ln) (hcs : cells ≤ 600000 ∧ slots ≤ room_1.slots) (hw : Wo E lay L A s σ H locs) (hl : lv_has ls 4 [(0, .ref b), (1, .ref (lay 10 0)), (2, .ref (lay 11 0)), (3, .int v3)]) (hst : ∀ (a1 : Int32) (a2 : Int32) (a3 : Int32) (a4 : Int64), fX10_impostors N σ a1 a2 a3 a4 (fun (r : Int32) (σ1 : St) => fX11_impostors N σ1 a1 a2 a3 a4 (fun (r2 : Int32) (σ2 : St) => r = r2 ∧ I σ2 L))) (kk : ∀ (σ2 : St) (H1 : Heap) (locs1 : List Loc), I σ2 L → Wo E lay L A s σ2 H1 locs1 → W p l e room_1 s m args below meth c H1 locs1 cells slots Q (F0 m 1177 ls [])) : W p l e room_1 s m args below meth c H locs cells slots Q (F0 m 832 ls []) := by
  have hx := C.1
  have hb := C.2.1
  have hf := hst (xs ((v3 + (1 : Int32))).toNatClampNeg) (xs ((v3 + (2 : Int32))).toNatClampNeg) (xs ((v3 + (3 : Int32))).toNatClampNeg) ((((xs ((v3 + (4 : Int32))).toNatClampNeg)).toInt64 <<< (((32 : Int32)).toInt64 &&& 63)) ||| (((xs ((v3 + (5 : Int32))).toNatClampNeg)).toInt64 &&& (4294967295 : Int64)))
  refine lv_aload_n hx hb dL_law_832 rfl (lv_at hl 1 rfl) ?_
  refine lv_aload_n hx hb dL_law_833 rfl (lv_at hl 0 rfl) ?_
  refine lv_iload_n hx hb dL_law_834 rfl (lv_at hl 3 rfl) ?_
  refine lv_iconst (v := 1) hx hb dL_law_835 (by decide) ?_
  refine lv_iadd hx hb dL_law_836 ?_
  refine va_sld hx hb hX hbl hbA hw.2.2.1 (hin 1 (by decide)) dL_law_837 ?_
  refine lv_aload_n hx hb dL_law_838 rfl (lv_at hl 0 rfl) ?_
  refine lv_iload_n hx hb dL_law_839 rfl (lv_at hl 3 rfl) ?_
  refine lv_iconst (v := 2) hx hb dL_law_840 (by decide) ?_
  refine lv_iadd hx hb dL_law_841 ?_
  refine va_sld hx hb hX hbl hbA hw.2.2.1 (hin 2 (by decide)) dL_law_842 ?_
  refine lv_aload_n hx hb dL_law_843 rfl (lv_at hl 0 rfl) ?_
  refine lv_iload_n hx hb dL_law_844 rfl (lv_at hl 3 rfl) ?_
  refine lv_iconst (v := 3) hx hb dL_law_845 (by decide) ?_
  refine lv_iadd hx hb dL_law_846 ?_
  refine va_sld hx hb hX hbl hbA hw.2.2.1 (hin 3 (by decide)) dL_law_847 ?_
  refine lv_aload_n hx hb dL_law_848 rfl (lv_at hl 0 rfl) ?_
  refine lv_iload_n hx hb dL_law_849 rfl (lv_at hl 3 rfl) ?_
  refine lv_iconst (v := 4) hx hb dL_law_850 (by decide) ?_
  refine lv_iadd hx hb dL_law_851 ?_
  refine va_sld hx hb hX hbl hbA hw.2.2.1 (hin 4 (by decide)) dL_law_852 ?_
  refine lv_i2l hx hb dL_law_853 rfl ?_
  refine lv_bipush (v := 32) hx hb dL_law_854 (by decide) ?_
  refine lv_lshl hx hb dL_law_856 rfl ?_
  refine lv_aload_n hx hb dL_law_857 rfl (lv_at hl 0 rfl) ?_
  refine lv_iload_n hx hb dL_law_858 rfl (lv_at hl 3 rfl) ?_
  refine lv_iconst (v := 5) hx hb dL_law_859 (by decide) ?_
  refine lv_iadd hx hb dL_law_860 ?_
  refine va_sld hx hb hX hbl hbA hw.2.2.1 (hin 5 (by decide)) dL_law_861 ?_
  refine lv_i2l hx hb dL_law_862 rfl ?_
  refine lv_ldc2 (v := 4294967295) hx hb C.2.2.2.1 (C.2.2.2.2.1 _ q1217) dL_law_863 ?_
  refine lv_land hx hb dL_law_866 ?_
  refine lv_lor hx hb dL_law_867 ?_
  refine y_runi hw (y_V (n := 4) (rest := []) C hw hm1 (by decide) (eX10_impostors hf hm1) q709 q710 q711 q44 q712 rfl rfl (by decide +kernel) ⟨(Nat.le_of_ble_eq_true rfl), (Nat.le_of_ble_eq_true rfl)⟩ rfl hl.1 rfl (Nat.le_of_ble_eq_true rfl) ⟨by show cells ≤ 600000; omega, by show slots ≤ room_1.slots; omega⟩ dL_law_868) (fun r1 σ1 H locs hf hw => ?_)
  try dsimp only at hf
  refine lv_aload_n hx hb dL_law_871 rfl (lv_at hl 2 rfl) ?_
  refine lv_aload_n hx hb dL_law_872 rfl (lv_at hl 0 rfl) ?_
  refine lv_iload_n hx hb dL_law_873 rfl (lv_at hl 3 rfl) ?_
  refine lv_iconst (v := 1) hx hb dL_law_874 (by decide) ?_
  refine lv_iadd hx hb dL_law_875 ?_
  refine va_sld hx hb hX hbl hbA hw.2.2.1 (hin 1 (by decide)) dL_law_876 ?_
  refine lv_aload_n hx hb dL_law_877 rfl (lv_at hl 0 rfl) ?_
  refine lv_iload_n hx hb dL_law_878 rfl (lv_at hl 3 rfl) ?_
  refine lv_iconst (v := 2) hx hb dL_law_879 (by decide) ?_
  refine lv_iadd hx hb dL_law_880 ?_
  refine va_sld hx hb hX hbl hbA hw.2.2.1 (hin 2 (by decide)) dL_law_881 ?_
  refine lv_aload_n hx hb dL_law_882 rfl (lv_at hl 0 rfl) ?_
  refine lv_iload_n hx hb dL_law_883 rfl (lv_at hl 3 rfl) ?_
  refine lv_iconst (v := 3) hx hb dL_law_884 (by decide) ?_
  refine lv_iadd hx hb dL_law_885 ?_
  refine va_sld hx hb hX hbl hbA hw.2.2.1 (hin 3 (by decide)) dL_law_886 ?_
  refine lv_aload_n hx hb dL_law_887 rfl (lv_at hl 0 rfl) ?_
  refine lv_iload_n hx hb dL_law_888 rfl (lv_at hl 3 rfl) ?_
  refine lv_iconst (v := 4) hx hb dL_law_889 (by decide) ?_
  refine lv_iadd hx hb dL_law_890 ?_
  refine va_sld hx hb hX hbl hbA hw.2.2.1 (hin 4 (by decide)) dL_law_891 ?_
  refine lv_i2l hx hb dL_law_892 rfl ?_
  refine lv_bipush (v := 32) hx hb dL_law_893 (by decide) ?_
  refine lv_lshl hx hb dL_law_895 rfl ?_
  refine lv_aload_n hx hb dL_law_896 rfl (lv_at hl 0 rfl) ?_
  refine lv_iload_n hx hb dL_law_897 rfl (lv_at hl 3 rfl) ?_
  refine lv_iconst (v := 5) hx hb dL_law_898 (by decide) ?_
  refine lv_iadd hx hb dL_law_899 ?_
  refine va_sld hx hb hX hbl hbA hw.2.2.1 (hin 5 (by decide)) dL_law_900 ?_
  refine lv_i2l hx hb dL_law_901 rfl ?_
  refine lv_ldc2 (v := 4294967295) hx hb C.2.2.2.1 (C.2.2.2.2.1 _ q1217) dL_law_902 ?_
  refine lv_land hx hb dL_law_905 ?_
  refine lv_lor hx hb dL_law_906 ?_
  refine y_runi hw (y_V (n := 4) (rest := [.int r1]) C hw hm2 (by decide) (eX11_impostors hf hm2) q1149 q1150 q1151 q53 q1152 rfl rfl (by decide +kernel) ⟨(Nat.le_of_ble_eq_true rfl), (Nat.le_of_ble_eq_true rfl)⟩ rfl hl.1 rfl (Nat.le_of_ble_eq_true rfl) ⟨by show cells ≤ 600000; omega, by show slots ≤ room_1.slots; omega⟩ dL_law_907) (fun r2 σ2 H locs hf hw => ?_)
  try dsimp only at hf
  refine lv_icmp_eq (tgt := 1177) hx hb dL_law_910 (by decide) (fun _ => ?_) (fun h => absurd hf.1 h)
  exact kk _ _ _ hf.2 hw
set_option maxHeartbeats 4000000 in
set_option maxRecDepth 100000 in
theorem lc_21 {p : Program} {l : Launch} {e : Env} {s : State} {m : MethodId} {args : Array Value} {below : List Frame} {meth : Method} {c : Code} {H : Heap} {locs : List Loc} {cells slots : Nat} {Q : State → Prop} {ls : Array Slot} {E : EC} {lay : Nat → Nat → Nat} {L : List (Nat × Nat)} {A : Nat → Prop} {σ : St} {I : St → List (Nat × Nat) → Prop} {N b Ln : Nat} {xs : Nat → Int32} {v3 : Int32} (C : Cx p s m args c meth RL cL_law 4 E A) (hX : va_X b Ln xs s s.heap) (hbl : b < s.heap.size) (hbA : ¬ A b) (hm1 : (10, 0) ∈ L) (hm2 : (11, 0) ∈ L) (hin : ∀ k : Nat, k < 6 → vp_in (v3 + nI k) Ln) (hcs : cells ≤ 600000 ∧ slots ≤ room_1.slots) (hw : Wo E lay L A s σ H locs) (hl : lv_has ls 4 [(0, .ref b), (1, .ref (lay 10 0)), (2, .ref (lay 11 0)), (3, .int v3)]) (hst : ∀ (a1 : Int32) (a2 : Int32) (a3 : Int32) (a4 : Int32) (a5 : Int32), fX10_part N σ a1 a2 a3 a4 a5 (fun (r : Int32) (σ1 : St) => fX11_part N σ1 a1 a2 a3 a4 a5 (fun (r2 : Int32) (σ2 : St) => r = r2 ∧ I σ2 L))) (kk : ∀ (σ2 : St) (H1 : Heap) (locs1 : List Loc), I σ2 L → Wo E lay L A s σ2 H1 locs1 → W p l e room_1 s m args below meth c H1 locs1 cells slots Q (F0 m 1177 ls [])) : W p l e room_1 s m args below meth c H locs cells slots Q (F0 m 915 ls []) := by
  have hx := C.1
  have hb := C.2.1
  have hf := hst (xs ((v3 + (1 : Int32))).toNatClampNeg) (xs ((v3 + (2 : Int32))).toNatClampNeg) (xs ((v3 + (3 : Int32))).toNatClampNeg) (xs ((v3 + (4 : Int32))).toNatClampNeg) (xs ((v3 + (5 : Int32))).toNatClampNeg)
  refine lv_aload_n hx hb dL_law_915 rfl (lv_at hl 1 rfl) ?_
  refine lv_aload_n hx hb dL_law_916 rfl (lv_at hl 0 rfl) ?_
  refine lv_iload_n hx hb dL_law_917 rfl (lv_at hl 3 rfl) ?_
  refine lv_iconst (v := 1) hx hb dL_law_918 (by decide) ?_
  refine lv_iadd hx hb dL_law_919 ?_
  refine va_sld hx hb hX hbl hbA hw.2.2.1 (hin 1 (by decide)) dL_law_920 ?_
  refine lv_aload_n hx hb dL_law_921 rfl (lv_at hl 0 rfl) ?_
  refine lv_iload_n hx hb dL_law_922 rfl (lv_at hl 3 rfl) ?_
  refine lv_iconst (v := 2) hx hb dL_law_923 (by decide) ?_
  refine lv_iadd hx hb dL_law_924 ?_
  refine va_sld hx hb hX hbl hbA hw.2.2.1 (hin 2 (by decide)) dL_law_925 ?_
  refine lv_aload_n hx hb dL_law_926 rfl (lv_at hl 0 rfl) ?_
  refine lv_iload_n hx hb dL_law_927 rfl (lv_at hl 3 rfl) ?_
  refine lv_iconst (v := 3) hx hb dL_law_928 (by decide) ?_
  refine lv_iadd hx hb dL_law_929 ?_
  refine va_sld hx hb hX hbl hbA hw.2.2.1 (hin 3 (by decide)) dL_law_930 ?_
  refine lv_aload_n hx hb dL_law_931 rfl (lv_at hl 0 rfl) ?_
  refine lv_iload_n hx hb dL_law_932 rfl (lv_at hl 3 rfl) ?_
  refine lv_iconst (v := 4) hx hb dL_law_933 (by decide) ?_
  refine lv_iadd hx hb dL_law_934 ?_
  refine va_sld hx hb hX hbl hbA hw.2.2.1 (hin 4 (by decide)) dL_law_935 ?_
  refine lv_aload_n hx hb dL_law_936 rfl (lv_at hl 0 rfl) ?_
  refine lv_iload_n hx hb dL_law_937 rfl (lv_at hl 3 rfl) ?_
  refine lv_iconst (v := 5) hx hb dL_law_938 (by decide) ?_
  refine lv_iadd hx hb dL_law_939 ?_
  refine va_sld hx hb hX hbl hbA hw.2.2.1 (hin 5 (by decide)) dL_law_940 ?_
  refine y_runi hw (y_V (n := 5) (rest := []) C hw hm1 (by decide) (eX10_part hf hm1) q719 q720 q721 q44 q722 rfl rfl (by decide +kernel) ⟨(Nat.le_of_ble_eq_true rfl), (Nat.le_of_ble_eq_true rfl)⟩ rfl hl.1 rfl (Nat.le_of_ble_eq_true rfl) ⟨by show cells ≤ 600000; omega, by show slots ≤ room_1.slots; omega⟩ dL_law_941) (fun r1 σ1 H locs hf hw => ?_)
  try dsimp only at hf
  refine lv_aload_n hx hb dL_law_944 rfl (lv_at hl 2 rfl) ?_
  refine lv_aload_n hx hb dL_law_945 rfl (lv_at hl 0 rfl) ?_
  refine lv_iload_n hx hb dL_law_946 rfl (lv_at hl 3 rfl) ?_
  refine lv_iconst (v := 1) hx hb dL_law_947 (by decide) ?_
  refine lv_iadd hx hb dL_law_948 ?_
  refine va_sld hx hb hX hbl hbA hw.2.2.1 (hin 1 (by decide)) dL_law_949 ?_
  refine lv_aload_n hx hb dL_law_950 rfl (lv_at hl 0 rfl) ?_
  refine lv_iload_n hx hb dL_law_951 rfl (lv_at hl 3 rfl) ?_
  refine lv_iconst (v := 2) hx hb dL_law_952 (by decide) ?_
  refine lv_iadd hx hb dL_law_953 ?_
  refine va_sld hx hb hX hbl hbA hw.2.2.1 (hin 2 (by decide)) dL_law_954 ?_
  refine lv_aload_n hx hb dL_law_955 rfl (lv_at hl 0 rfl) ?_
  refine lv_iload_n hx hb dL_law_956 rfl (lv_at hl 3 rfl) ?_
  refine lv_iconst (v := 3) hx hb dL_law_957 (by decide) ?_
  refine lv_iadd hx hb dL_law_958 ?_
  refine va_sld hx hb hX hbl hbA hw.2.2.1 (hin 3 (by decide)) dL_law_959 ?_
  refine lv_aload_n hx hb dL_law_960 rfl (lv_at hl 0 rfl) ?_
  refine lv_iload_n hx hb dL_law_961 rfl (lv_at hl 3 rfl) ?_
  refine lv_iconst (v := 4) hx hb dL_law_962 (by decide) ?_
  refine lv_iadd hx hb dL_law_963 ?_
  refine va_sld hx hb hX hbl hbA hw.2.2.1 (hin 4 (by decide)) dL_law_964 ?_
  refine lv_aload_n hx hb dL_law_965 rfl (lv_at hl 0 rfl) ?_
  refine lv_iload_n hx hb dL_law_966 rfl (lv_at hl 3 rfl) ?_
  refine lv_iconst (v := 5) hx hb dL_law_967 (by decide) ?_
  refine lv_iadd hx hb dL_law_968 ?_
  refine va_sld hx hb hX hbl hbA hw.2.2.1 (hin 5 (by decide)) dL_law_969 ?_
  refine y_runi hw (y_V (n := 5) (rest := [.int r1]) C hw hm2 (by decide) (eX11_part hf hm2) q1155 q1156 q1157 q53 q1158 rfl rfl (by decide +kernel) ⟨(Nat.le_of_ble_eq_true rfl), (Nat.le_of_ble_eq_true rfl)⟩ rfl hl.1 rfl (Nat.le_of_ble_eq_true rfl) ⟨by show cells ≤ 600000; omega, by show slots ≤ room_1.slots; omega⟩ dL_law_970) (fun r2 σ2 H locs hf hw => ?_)
  try dsimp only at hf
  refine lv_icmp_eq (tgt := 1177) hx hb dL_law_973 (by decide) (fun _ => ?_) (fun h => absurd hf.1 h)
  exact kk _ _ _ hf.2 hw
set_option maxHeartbeats 4000000 in
set_option maxRecDepth 100000 in
theorem lc_22 {p : Program} {l : Launch} {e : Env} {s : State} {m : MethodId} {args : Array Value} {below : List Frame} {meth : Method} {c : Code} {H : Heap} {locs : List Loc} {cells slots : Nat} {Q : State → Prop} {ls : Array Slot} {E : EC} {lay : Nat → Nat → Nat} {L : List (Nat × Nat)} {A : Nat → Prop} {σ : St} {I : St → List (Nat × Nat) → Prop} {N b Ln : Nat} {xs : Nat → Int32} {v3 : Int32} (C : Cx p s m args c meth RL cL_law 4 E A) (hX : va_X b Ln xs s s.heap) (hbl : b < s.heap.size) (hbA : ¬ A b) (hm1 : (10, 0) ∈ L) (hm2 : (11, 0) ∈ L) (hin : ∀ k : Nat, k < 6 → vp_in (v3 + nI k) Ln) (hcs : cells ≤ 600000 ∧ slots ≤ room_1.slots) (hw : Wo E lay L A s σ H locs) (hl : lv_has ls 4 [(0, .ref b), (1, .ref (lay 10 0)), (2, .ref (lay 11 0)), (3, .int v3)]) (hst : ∀ (a1 : Int32), fX10_window N σ a1 (fun (r : Int32) (σ1 : St) => fX11_window N σ1 a1 (fun (r2 : Int32) (σ2 : St) => r = r2 ∧ I σ2 L))) (kk : ∀ (σ2 : St) (H1 : Heap) (locs1 : List Loc), I σ2 L → Wo E lay L A s σ2 H1 locs1 → W p l e room_1 s m args below meth c H1 locs1 cells slots Q (F0 m 1177 ls [])) : W p l e room_1 s m args below meth c H locs cells slots Q (F0 m 978 ls []) := by
  have hx := C.1
  have hb := C.2.1
  have hf := hst (xs ((v3 + (1 : Int32))).toNatClampNeg)
  refine lv_aload_n hx hb dL_law_978 rfl (lv_at hl 1 rfl) ?_
  refine lv_aload_n hx hb dL_law_979 rfl (lv_at hl 0 rfl) ?_
  refine lv_iload_n hx hb dL_law_980 rfl (lv_at hl 3 rfl) ?_
  refine lv_iconst (v := 1) hx hb dL_law_981 (by decide) ?_
  refine lv_iadd hx hb dL_law_982 ?_
  refine va_sld hx hb hX hbl hbA hw.2.2.1 (hin 1 (by decide)) dL_law_983 ?_
  refine y_runi hw (y_V (n := 1) (rest := []) C hw hm1 (by decide) (eX10_window hf hm1) q756 q757 q758 q44 q759 rfl rfl (by decide +kernel) ⟨(Nat.le_of_ble_eq_true rfl), (Nat.le_of_ble_eq_true rfl)⟩ rfl hl.1 rfl (Nat.le_of_ble_eq_true rfl) ⟨by show cells ≤ 600000; omega, by show slots ≤ room_1.slots; omega⟩ dL_law_984) (fun r1 σ1 H locs hf hw => ?_)
  try dsimp only at hf
  refine lv_aload_n hx hb dL_law_987 rfl (lv_at hl 2 rfl) ?_
  refine lv_aload_n hx hb dL_law_988 rfl (lv_at hl 0 rfl) ?_
  refine lv_iload_n hx hb dL_law_989 rfl (lv_at hl 3 rfl) ?_
  refine lv_iconst (v := 1) hx hb dL_law_990 (by decide) ?_
  refine lv_iadd hx hb dL_law_991 ?_
  refine va_sld hx hb hX hbl hbA hw.2.2.1 (hin 1 (by decide)) dL_law_992 ?_
  refine y_runi hw (y_V (n := 1) (rest := [.int r1]) C hw hm2 (by decide) (eX11_window hf hm2) q1164 q1165 q1166 q53 q1167 rfl rfl (by decide +kernel) ⟨(Nat.le_of_ble_eq_true rfl), (Nat.le_of_ble_eq_true rfl)⟩ rfl hl.1 rfl (Nat.le_of_ble_eq_true rfl) ⟨by show cells ≤ 600000; omega, by show slots ≤ room_1.slots; omega⟩ dL_law_993) (fun r2 σ2 H locs hf hw => ?_)
  try dsimp only at hf
  refine lv_icmp_eq (tgt := 1177) hx hb dL_law_996 (by decide) (fun _ => ?_) (fun h => absurd hf.1 h)
  exact kk _ _ _ hf.2 hw
set_option maxHeartbeats 4000000 in
set_option maxRecDepth 100000 in
theorem lc_23 {p : Program} {l : Launch} {e : Env} {s : State} {m : MethodId} {args : Array Value} {below : List Frame} {meth : Method} {c : Code} {H : Heap} {locs : List Loc} {cells slots : Nat} {Q : State → Prop} {ls : Array Slot} {E : EC} {lay : Nat → Nat → Nat} {L : List (Nat × Nat)} {A : Nat → Prop} {σ : St} {I : St → List (Nat × Nat) → Prop} {N b Ln : Nat} {xs : Nat → Int32} {v3 : Int32} (C : Cx p s m args c meth RL cL_law 4 E A) (hX : va_X b Ln xs s s.heap) (hbl : b < s.heap.size) (hbA : ¬ A b) (hm1 : (10, 0) ∈ L) (hm2 : (11, 0) ∈ L) (hin : ∀ k : Nat, k < 6 → vp_in (v3 + nI k) Ln) (hcs : cells ≤ 600000 ∧ slots ≤ room_1.slots) (hw : Wo E lay L A s σ H locs) (hl : lv_has ls 4 [(0, .ref b), (1, .ref (lay 10 0)), (2, .ref (lay 11 0)), (3, .int v3)]) (hst : fX10_tree N σ (fun (r : Int32) (σ1 : St) => fX11_tree N σ1 (fun (r2 : Int32) (σ2 : St) => r = r2 ∧ I σ2 L))) (kk : ∀ (σ2 : St) (H1 : Heap) (locs1 : List Loc), I σ2 L → Wo E lay L A s σ2 H1 locs1 → W p l e room_1 s m args below meth c H1 locs1 cells slots Q (F0 m 1177 ls [])) : W p l e room_1 s m args below meth c H locs cells slots Q (F0 m 1001 ls []) := by
  have hx := C.1
  have hb := C.2.1
  have hf := hst
  refine lv_aload_n hx hb dL_law_1001 rfl (lv_at hl 1 rfl) ?_
  refine y_runi hw (y_V (n := 0) (rest := []) C hw hm1 (by decide) (eX10_tree hf hm1) q764 q765 q766 q44 q767 rfl rfl (by decide +kernel) ⟨(Nat.le_of_ble_eq_true rfl), (Nat.le_of_ble_eq_true rfl)⟩ rfl hl.1 rfl (Nat.le_of_ble_eq_true rfl) ⟨by show cells ≤ 600000; omega, by show slots ≤ room_1.slots; omega⟩ dL_law_1002) (fun r1 σ1 H locs hf hw => ?_)
  try dsimp only at hf
  refine lv_aload_n hx hb dL_law_1005 rfl (lv_at hl 2 rfl) ?_
  refine y_runi hw (y_V (n := 0) (rest := [.int r1]) C hw hm2 (by decide) (eX11_tree hf hm2) q1168 q1169 q1170 q53 q1171 rfl rfl (by decide +kernel) ⟨(Nat.le_of_ble_eq_true rfl), (Nat.le_of_ble_eq_true rfl)⟩ rfl hl.1 rfl (Nat.le_of_ble_eq_true rfl) ⟨by show cells ≤ 600000; omega, by show slots ≤ room_1.slots; omega⟩ dL_law_1006) (fun r2 σ2 H locs hf hw => ?_)
  try dsimp only at hf
  refine lv_icmp_eq (tgt := 1177) hx hb dL_law_1009 (by decide) (fun _ => ?_) (fun h => absurd hf.1 h)
  exact kk _ _ _ hf.2 hw
set_option maxHeartbeats 4000000 in
set_option maxRecDepth 100000 in
theorem lc_24 {p : Program} {l : Launch} {e : Env} {s : State} {m : MethodId} {args : Array Value} {below : List Frame} {meth : Method} {c : Code} {H : Heap} {locs : List Loc} {cells slots : Nat} {Q : State → Prop} {ls : Array Slot} {E : EC} {lay : Nat → Nat → Nat} {L : List (Nat × Nat)} {A : Nat → Prop} {σ : St} {I : St → List (Nat × Nat) → Prop} {N b Ln : Nat} {xs : Nat → Int32} {v3 : Int32} (C : Cx p s m args c meth RL cL_law 4 E A) (hX : va_X b Ln xs s s.heap) (hbl : b < s.heap.size) (hbA : ¬ A b) (hm1 : (10, 0) ∈ L) (hm2 : (11, 0) ∈ L) (hin : ∀ k : Nat, k < 6 → vp_in (v3 + nI k) Ln) (hcs : cells ≤ 600000 ∧ slots ≤ room_1.slots) (hw : Wo E lay L A s σ H locs) (hl : lv_has ls 4 [(0, .ref b), (1, .ref (lay 10 0)), (2, .ref (lay 11 0)), (3, .int v3)]) (hst : ∀ (a1 : Int32) (a2 : Int32), fX10_join N σ a1 a2 (fun (r : Int32) (σ1 : St) => fX11_join N σ1 a1 a2 (fun (r2 : Int32) (σ2 : St) => r = r2 ∧ I σ2 L))) (kk : ∀ (σ2 : St) (H1 : Heap) (locs1 : List Loc), I σ2 L → Wo E lay L A s σ2 H1 locs1 → W p l e room_1 s m args below meth c H1 locs1 cells slots Q (F0 m 1177 ls [])) : W p l e room_1 s m args below meth c H locs cells slots Q (F0 m 1014 ls []) := by
  have hx := C.1
  have hb := C.2.1
  have hf := hst (xs ((v3 + (1 : Int32))).toNatClampNeg) (xs ((v3 + (2 : Int32))).toNatClampNeg)
  refine lv_aload_n hx hb dL_law_1014 rfl (lv_at hl 1 rfl) ?_
  refine lv_aload_n hx hb dL_law_1015 rfl (lv_at hl 0 rfl) ?_
  refine lv_iload_n hx hb dL_law_1016 rfl (lv_at hl 3 rfl) ?_
  refine lv_iconst (v := 1) hx hb dL_law_1017 (by decide) ?_
  refine lv_iadd hx hb dL_law_1018 ?_
  refine va_sld hx hb hX hbl hbA hw.2.2.1 (hin 1 (by decide)) dL_law_1019 ?_
  refine lv_aload_n hx hb dL_law_1020 rfl (lv_at hl 0 rfl) ?_
  refine lv_iload_n hx hb dL_law_1021 rfl (lv_at hl 3 rfl) ?_
  refine lv_iconst (v := 2) hx hb dL_law_1022 (by decide) ?_
  refine lv_iadd hx hb dL_law_1023 ?_
  refine va_sld hx hb hX hbl hbA hw.2.2.1 (hin 2 (by decide)) dL_law_1024 ?_
  refine y_runi hw (y_V (n := 2) (rest := []) C hw hm1 (by decide) (eX10_join hf hm1) q788 q789 q790 q44 q791 rfl rfl (by decide +kernel) ⟨(Nat.le_of_ble_eq_true rfl), (Nat.le_of_ble_eq_true rfl)⟩ rfl hl.1 rfl (Nat.le_of_ble_eq_true rfl) ⟨by show cells ≤ 600000; omega, by show slots ≤ room_1.slots; omega⟩ dL_law_1025) (fun r1 σ1 H locs hf hw => ?_)
  try dsimp only at hf
  refine lv_aload_n hx hb dL_law_1028 rfl (lv_at hl 2 rfl) ?_
  refine lv_aload_n hx hb dL_law_1029 rfl (lv_at hl 0 rfl) ?_
  refine lv_iload_n hx hb dL_law_1030 rfl (lv_at hl 3 rfl) ?_
  refine lv_iconst (v := 1) hx hb dL_law_1031 (by decide) ?_
  refine lv_iadd hx hb dL_law_1032 ?_
  refine va_sld hx hb hX hbl hbA hw.2.2.1 (hin 1 (by decide)) dL_law_1033 ?_
  refine lv_aload_n hx hb dL_law_1034 rfl (lv_at hl 0 rfl) ?_
  refine lv_iload_n hx hb dL_law_1035 rfl (lv_at hl 3 rfl) ?_
  refine lv_iconst (v := 2) hx hb dL_law_1036 (by decide) ?_
  refine lv_iadd hx hb dL_law_1037 ?_
  refine va_sld hx hb hX hbl hbA hw.2.2.1 (hin 2 (by decide)) dL_law_1038 ?_
  refine y_runi hw (y_V (n := 2) (rest := [.int r1]) C hw hm2 (by decide) (eX11_join hf hm2) q1176 q1177 q1178 q53 q1179 rfl rfl (by decide +kernel) ⟨(Nat.le_of_ble_eq_true rfl), (Nat.le_of_ble_eq_true rfl)⟩ rfl hl.1 rfl (Nat.le_of_ble_eq_true rfl) ⟨by show cells ≤ 600000; omega, by show slots ≤ room_1.slots; omega⟩ dL_law_1039) (fun r2 σ2 H locs hf hw => ?_)
  try dsimp only at hf
  refine lv_icmp_eq (tgt := 1177) hx hb dL_law_1042 (by decide) (fun _ => ?_) (fun h => absurd hf.1 h)
  exact kk _ _ _ hf.2 hw
set_option maxHeartbeats 4000000 in
set_option maxRecDepth 100000 in
theorem lc_25 {p : Program} {l : Launch} {e : Env} {s : State} {m : MethodId} {args : Array Value} {below : List Frame} {meth : Method} {c : Code} {H : Heap} {locs : List Loc} {cells slots : Nat} {Q : State → Prop} {ls : Array Slot} {E : EC} {lay : Nat → Nat → Nat} {L : List (Nat × Nat)} {A : Nat → Prop} {σ : St} {I : St → List (Nat × Nat) → Prop} {N b Ln : Nat} {xs : Nat → Int32} {v3 : Int32} (C : Cx p s m args c meth RL cL_law 4 E A) (hX : va_X b Ln xs s s.heap) (hbl : b < s.heap.size) (hbA : ¬ A b) (hm1 : (10, 0) ∈ L) (hm2 : (11, 0) ∈ L) (hin : ∀ k : Nat, k < 6 → vp_in (v3 + nI k) Ln) (hcs : cells ≤ 600000 ∧ slots ≤ room_1.slots) (hw : Wo E lay L A s σ H locs) (hl : lv_has ls 4 [(0, .ref b), (1, .ref (lay 10 0)), (2, .ref (lay 11 0)), (3, .int v3)]) (hst : ∀ (a1 : Int32) (a2 : Int32) (a3 : Int32), fX10_shuffle N σ a1 a2 a3 (fun (r : Int32) (σ1 : St) => fX11_shuffle N σ1 a1 a2 a3 (fun (r2 : Int32) (σ2 : St) => r = r2 ∧ I σ2 L))) (kk : ∀ (σ2 : St) (H1 : Heap) (locs1 : List Loc), I σ2 L → Wo E lay L A s σ2 H1 locs1 → W p l e room_1 s m args below meth c H1 locs1 cells slots Q (F0 m 1177 ls [])) : W p l e room_1 s m args below meth c H locs cells slots Q (F0 m 1047 ls []) := by
  have hx := C.1
  have hb := C.2.1
  have hf := hst (xs ((v3 + (1 : Int32))).toNatClampNeg) (xs ((v3 + (2 : Int32))).toNatClampNeg) (xs ((v3 + (3 : Int32))).toNatClampNeg)
  refine lv_aload_n hx hb dL_law_1047 rfl (lv_at hl 1 rfl) ?_
  refine lv_aload_n hx hb dL_law_1048 rfl (lv_at hl 0 rfl) ?_
  refine lv_iload_n hx hb dL_law_1049 rfl (lv_at hl 3 rfl) ?_
  refine lv_iconst (v := 1) hx hb dL_law_1050 (by decide) ?_
  refine lv_iadd hx hb dL_law_1051 ?_
  refine va_sld hx hb hX hbl hbA hw.2.2.1 (hin 1 (by decide)) dL_law_1052 ?_
  refine lv_aload_n hx hb dL_law_1053 rfl (lv_at hl 0 rfl) ?_
  refine lv_iload_n hx hb dL_law_1054 rfl (lv_at hl 3 rfl) ?_
  refine lv_iconst (v := 2) hx hb dL_law_1055 (by decide) ?_
  refine lv_iadd hx hb dL_law_1056 ?_
  refine va_sld hx hb hX hbl hbA hw.2.2.1 (hin 2 (by decide)) dL_law_1057 ?_
  refine lv_aload_n hx hb dL_law_1058 rfl (lv_at hl 0 rfl) ?_
  refine lv_iload_n hx hb dL_law_1059 rfl (lv_at hl 3 rfl) ?_
  refine lv_iconst (v := 3) hx hb dL_law_1060 (by decide) ?_
  refine lv_iadd hx hb dL_law_1061 ?_
  refine va_sld hx hb hX hbl hbA hw.2.2.1 (hin 3 (by decide)) dL_law_1062 ?_
  refine y_runi hw (y_V (n := 3) (rest := []) C hw hm1 (by decide) (eX10_shuffle hf hm1) q796 q797 q798 q44 q799 rfl rfl (by decide +kernel) ⟨(Nat.le_of_ble_eq_true rfl), (Nat.le_of_ble_eq_true rfl)⟩ rfl hl.1 rfl (Nat.le_of_ble_eq_true rfl) ⟨by show cells ≤ 600000; omega, by show slots ≤ room_1.slots; omega⟩ dL_law_1063) (fun r1 σ1 H locs hf hw => ?_)
  try dsimp only at hf
  refine lv_aload_n hx hb dL_law_1066 rfl (lv_at hl 2 rfl) ?_
  refine lv_aload_n hx hb dL_law_1067 rfl (lv_at hl 0 rfl) ?_
  refine lv_iload_n hx hb dL_law_1068 rfl (lv_at hl 3 rfl) ?_
  refine lv_iconst (v := 1) hx hb dL_law_1069 (by decide) ?_
  refine lv_iadd hx hb dL_law_1070 ?_
  refine va_sld hx hb hX hbl hbA hw.2.2.1 (hin 1 (by decide)) dL_law_1071 ?_
  refine lv_aload_n hx hb dL_law_1072 rfl (lv_at hl 0 rfl) ?_
  refine lv_iload_n hx hb dL_law_1073 rfl (lv_at hl 3 rfl) ?_
  refine lv_iconst (v := 2) hx hb dL_law_1074 (by decide) ?_
  refine lv_iadd hx hb dL_law_1075 ?_
  refine va_sld hx hb hX hbl hbA hw.2.2.1 (hin 2 (by decide)) dL_law_1076 ?_
  refine lv_aload_n hx hb dL_law_1077 rfl (lv_at hl 0 rfl) ?_
  refine lv_iload_n hx hb dL_law_1078 rfl (lv_at hl 3 rfl) ?_
  refine lv_iconst (v := 3) hx hb dL_law_1079 (by decide) ?_
  refine lv_iadd hx hb dL_law_1080 ?_
  refine va_sld hx hb hX hbl hbA hw.2.2.1 (hin 3 (by decide)) dL_law_1081 ?_
  refine y_runi hw (y_V (n := 3) (rest := [.int r1]) C hw hm2 (by decide) (eX11_shuffle hf hm2) q1180 q1181 q1182 q53 q1183 rfl rfl (by decide +kernel) ⟨(Nat.le_of_ble_eq_true rfl), (Nat.le_of_ble_eq_true rfl)⟩ rfl hl.1 rfl (Nat.le_of_ble_eq_true rfl) ⟨by show cells ≤ 600000; omega, by show slots ≤ room_1.slots; omega⟩ dL_law_1082) (fun r2 σ2 H locs hf hw => ?_)
  try dsimp only at hf
  refine lv_icmp_eq (tgt := 1177) hx hb dL_law_1085 (by decide) (fun _ => ?_) (fun h => absurd hf.1 h)
  exact kk _ _ _ hf.2 hw
set_option maxHeartbeats 4000000 in
set_option maxRecDepth 100000 in
theorem lc_26 {p : Program} {l : Launch} {e : Env} {s : State} {m : MethodId} {args : Array Value} {below : List Frame} {meth : Method} {c : Code} {H : Heap} {locs : List Loc} {cells slots : Nat} {Q : State → Prop} {ls : Array Slot} {E : EC} {lay : Nat → Nat → Nat} {L : List (Nat × Nat)} {A : Nat → Prop} {σ : St} {I : St → List (Nat × Nat) → Prop} {N b Ln : Nat} {xs : Nat → Int32} {v3 : Int32} (C : Cx p s m args c meth RL cL_law 4 E A) (hX : va_X b Ln xs s s.heap) (hbl : b < s.heap.size) (hbA : ¬ A b) (hm1 : (10, 0) ∈ L) (hm2 : (11, 0) ∈ L) (hin : ∀ k : Nat, k < 6 → vp_in (v3 + nI k) Ln) (hcs : cells ≤ 600000 ∧ slots ≤ room_1.slots) (hw : Wo E lay L A s σ H locs) (hl : lv_has ls 4 [(0, .ref b), (1, .ref (lay 10 0)), (2, .ref (lay 11 0)), (3, .int v3)]) (hst : fX10_asked N σ (fun (r : Int64) (σ1 : St) => fX11_asked N σ1 (fun (r2 : Int64) (σ2 : St) => r = r2 ∧ I σ2 L))) (kk : ∀ (σ2 : St) (H1 : Heap) (locs1 : List Loc), I σ2 L → Wo E lay L A s σ2 H1 locs1 → W p l e room_1 s m args below meth c H1 locs1 cells slots Q (F0 m 1177 ls [])) : W p l e room_1 s m args below meth c H locs cells slots Q (F0 m 1090 ls []) := by
  have hx := C.1
  have hb := C.2.1
  have hf := hst
  refine lv_aload_n hx hb dL_law_1090 rfl (lv_at hl 1 rfl) ?_
  refine va_calll (y_V (n := 0) (rest := []) C hw hm1 (by decide) (eX10_asked hf hm1) q835 q836 q837 q44 q838 rfl rfl (by decide +kernel) ⟨(Nat.le_of_ble_eq_true rfl), (Nat.le_of_ble_eq_true rfl)⟩ rfl hl.1 rfl (Nat.le_of_ble_eq_true rfl) ⟨by show cells ≤ 600000; omega, by show slots ≤ room_1.slots; omega⟩ dL_law_1091) hw.2.2.1 (fun q _ h => h) (fun q h => h) (fun r1 σ1 tq H locs htq _ hf hbq _ _ hSq => ?_)
  have hw := x_wo2 htq hbq hSq
  try dsimp only at hf
  refine lv_aload_n hx hb dL_law_1094 rfl (lv_at hl 2 rfl) ?_
  refine va_calll (y_V (n := 0) (rest := [.long r1]) C hw hm2 (by decide) (eX11_asked hf hm2) q1191 q1192 q1193 q53 q1194 rfl rfl (by decide +kernel) ⟨(Nat.le_of_ble_eq_true rfl), (Nat.le_of_ble_eq_true rfl)⟩ rfl hl.1 rfl (Nat.le_of_ble_eq_true rfl) ⟨by show cells ≤ 600000; omega, by show slots ≤ room_1.slots; omega⟩ dL_law_1095) hw.2.2.1 (fun q _ h => h) (fun q h => h) (fun r2 σ2 tq H locs htq _ hf hbq _ _ hSq => ?_)
  have hw := x_wo2 htq hbq hSq
  try dsimp only at hf
  rw [hf.1]
  refine W.lcmp hx hb dL_law_1098 ?_
  rw [lg_cmp_self]
  refine lv_if_eq (tgt := 1177) hx hb dL_law_1099 (by decide) (fun _ => ?_) (fun h => absurd rfl h)
  exact kk _ _ _ hf.2 hw
set_option maxHeartbeats 4000000 in
set_option maxRecDepth 100000 in
theorem lc_27 {p : Program} {l : Launch} {e : Env} {s : State} {m : MethodId} {args : Array Value} {below : List Frame} {meth : Method} {c : Code} {H : Heap} {locs : List Loc} {cells slots : Nat} {Q : State → Prop} {ls : Array Slot} {E : EC} {lay : Nat → Nat → Nat} {L : List (Nat × Nat)} {A : Nat → Prop} {σ : St} {I : St → List (Nat × Nat) → Prop} {N b Ln : Nat} {xs : Nat → Int32} {v3 : Int32} (C : Cx p s m args c meth RL cL_law 4 E A) (hX : va_X b Ln xs s s.heap) (hbl : b < s.heap.size) (hbA : ¬ A b) (hm1 : (10, 0) ∈ L) (hm2 : (11, 0) ∈ L) (hin : ∀ k : Nat, k < 6 → vp_in (v3 + nI k) Ln) (hcs : cells ≤ 600000 ∧ slots ≤ room_1.slots) (hw : Wo E lay L A s σ H locs) (hl : lv_has ls 4 [(0, .ref b), (1, .ref (lay 10 0)), (2, .ref (lay 11 0)), (3, .int v3)]) (hst : ∀ (a1 : Int32), fX10_count N σ a1 (fun (r : Int32) (σ1 : St) => fX11_count N σ1 a1 (fun (r2 : Int32) (σ2 : St) => r = r2 ∧ I σ2 L))) (kk : ∀ (σ2 : St) (H1 : Heap) (locs1 : List Loc), I σ2 L → Wo E lay L A s σ2 H1 locs1 → W p l e room_1 s m args below meth c H1 locs1 cells slots Q (F0 m 1177 ls [])) : W p l e room_1 s m args below meth c H locs cells slots Q (F0 m 1104 ls []) := by
  have hx := C.1
  have hb := C.2.1
  have hf := hst (xs ((v3 + (1 : Int32))).toNatClampNeg)
  refine lv_aload_n hx hb dL_law_1104 rfl (lv_at hl 1 rfl) ?_
  refine lv_aload_n hx hb dL_law_1105 rfl (lv_at hl 0 rfl) ?_
  refine lv_iload_n hx hb dL_law_1106 rfl (lv_at hl 3 rfl) ?_
  refine lv_iconst (v := 1) hx hb dL_law_1107 (by decide) ?_
  refine lv_iadd hx hb dL_law_1108 ?_
  refine va_sld hx hb hX hbl hbA hw.2.2.1 (hin 1 (by decide)) dL_law_1109 ?_
  refine y_runi hw (y_V (n := 1) (rest := []) C hw hm1 (by decide) (eX10_count hf hm1) q839 q840 q841 q44 q842 rfl rfl (by decide +kernel) ⟨(Nat.le_of_ble_eq_true rfl), (Nat.le_of_ble_eq_true rfl)⟩ rfl hl.1 rfl (Nat.le_of_ble_eq_true rfl) ⟨by show cells ≤ 600000; omega, by show slots ≤ room_1.slots; omega⟩ dL_law_1110) (fun r1 σ1 H locs hf hw => ?_)
  try dsimp only at hf
  refine lv_aload_n hx hb dL_law_1113 rfl (lv_at hl 2 rfl) ?_
  refine lv_aload_n hx hb dL_law_1114 rfl (lv_at hl 0 rfl) ?_
  refine lv_iload_n hx hb dL_law_1115 rfl (lv_at hl 3 rfl) ?_
  refine lv_iconst (v := 1) hx hb dL_law_1116 (by decide) ?_
  refine lv_iadd hx hb dL_law_1117 ?_
  refine va_sld hx hb hX hbl hbA hw.2.2.1 (hin 1 (by decide)) dL_law_1118 ?_
  refine y_runi hw (y_V (n := 1) (rest := [.int r1]) C hw hm2 (by decide) (eX11_count hf hm2) q1195 q1196 q1197 q53 q1198 rfl rfl (by decide +kernel) ⟨(Nat.le_of_ble_eq_true rfl), (Nat.le_of_ble_eq_true rfl)⟩ rfl hl.1 rfl (Nat.le_of_ble_eq_true rfl) ⟨by show cells ≤ 600000; omega, by show slots ≤ room_1.slots; omega⟩ dL_law_1119) (fun r2 σ2 H locs hf hw => ?_)
  try dsimp only at hf
  refine lv_icmp_eq (tgt := 1177) hx hb dL_law_1122 (by decide) (fun _ => ?_) (fun h => absurd hf.1 h)
  exact kk _ _ _ hf.2 hw
set_option maxHeartbeats 4000000 in
set_option maxRecDepth 100000 in
theorem lc_28 {p : Program} {l : Launch} {e : Env} {s : State} {m : MethodId} {args : Array Value} {below : List Frame} {meth : Method} {c : Code} {H : Heap} {locs : List Loc} {cells slots : Nat} {Q : State → Prop} {ls : Array Slot} {E : EC} {lay : Nat → Nat → Nat} {L : List (Nat × Nat)} {A : Nat → Prop} {σ : St} {I : St → List (Nat × Nat) → Prop} {N b Ln : Nat} {xs : Nat → Int32} {v3 : Int32} (C : Cx p s m args c meth RL cL_law 4 E A) (hX : va_X b Ln xs s s.heap) (hbl : b < s.heap.size) (hbA : ¬ A b) (hm1 : (10, 0) ∈ L) (hm2 : (11, 0) ∈ L) (hin : ∀ k : Nat, k < 6 → vp_in (v3 + nI k) Ln) (hcs : cells ≤ 600000 ∧ slots ≤ room_1.slots) (hw : Wo E lay L A s σ H locs) (hl : lv_has ls 4 [(0, .ref b), (1, .ref (lay 10 0)), (2, .ref (lay 11 0)), (3, .int v3)]) (hst : fX10_finding N σ (fun (r : Int32) (σ1 : St) => fX11_finding N σ1 (fun (r2 : Int32) (σ2 : St) => r = r2 ∧ I σ2 L))) (kk : ∀ (σ2 : St) (H1 : Heap) (locs1 : List Loc), I σ2 L → Wo E lay L A s σ2 H1 locs1 → W p l e room_1 s m args below meth c H1 locs1 cells slots Q (F0 m 1177 ls [])) : W p l e room_1 s m args below meth c H locs cells slots Q (F0 m 1127 ls []) := by
  have hx := C.1
  have hb := C.2.1
  have hf := hst
  refine lv_aload_n hx hb dL_law_1127 rfl (lv_at hl 1 rfl) ?_
  refine y_runi hw (y_V (n := 0) (rest := []) C hw hm1 (by decide) (eX10_finding hf hm1) q851 q852 q853 q44 q854 rfl rfl (by decide +kernel) ⟨(Nat.le_of_ble_eq_true rfl), (Nat.le_of_ble_eq_true rfl)⟩ rfl hl.1 rfl (Nat.le_of_ble_eq_true rfl) ⟨by show cells ≤ 600000; omega, by show slots ≤ room_1.slots; omega⟩ dL_law_1128) (fun r1 σ1 H locs hf hw => ?_)
  try dsimp only at hf
  refine lv_aload_n hx hb dL_law_1131 rfl (lv_at hl 2 rfl) ?_
  refine y_runi hw (y_V (n := 0) (rest := [.int r1]) C hw hm2 (by decide) (eX11_finding hf hm2) q1203 q1204 q1205 q53 q1206 rfl rfl (by decide +kernel) ⟨(Nat.le_of_ble_eq_true rfl), (Nat.le_of_ble_eq_true rfl)⟩ rfl hl.1 rfl (Nat.le_of_ble_eq_true rfl) ⟨by show cells ≤ 600000; omega, by show slots ≤ room_1.slots; omega⟩ dL_law_1132) (fun r2 σ2 H locs hf hw => ?_)
  try dsimp only at hf
  refine lv_icmp_eq (tgt := 1177) hx hb dL_law_1135 (by decide) (fun _ => ?_) (fun h => absurd hf.1 h)
  exact kk _ _ _ hf.2 hw
set_option maxHeartbeats 4000000 in
set_option maxRecDepth 100000 in
theorem lc_29 {p : Program} {l : Launch} {e : Env} {s : State} {m : MethodId} {args : Array Value} {below : List Frame} {meth : Method} {c : Code} {H : Heap} {locs : List Loc} {cells slots : Nat} {Q : State → Prop} {ls : Array Slot} {E : EC} {lay : Nat → Nat → Nat} {L : List (Nat × Nat)} {A : Nat → Prop} {σ : St} {I : St → List (Nat × Nat) → Prop} {N b Ln : Nat} {xs : Nat → Int32} {v3 : Int32} (C : Cx p s m args c meth RL cL_law 4 E A) (hX : va_X b Ln xs s s.heap) (hbl : b < s.heap.size) (hbA : ¬ A b) (hm1 : (10, 0) ∈ L) (hm2 : (11, 0) ∈ L) (hin : ∀ k : Nat, k < 6 → vp_in (v3 + nI k) Ln) (hcs : cells ≤ 600000 ∧ slots ≤ room_1.slots) (hw : Wo E lay L A s σ H locs) (hl : lv_has ls 4 [(0, .ref b), (1, .ref (lay 10 0)), (2, .ref (lay 11 0)), (3, .int v3)]) (hst : ∀ (a1 : Int32), fX10_findings N σ a1 (fun (r : Int32) (σ1 : St) => fX11_findings N σ1 a1 (fun (r2 : Int32) (σ2 : St) => r = r2 ∧ I σ2 L))) (kk : ∀ (σ2 : St) (H1 : Heap) (locs1 : List Loc), I σ2 L → Wo E lay L A s σ2 H1 locs1 → W p l e room_1 s m args below meth c H1 locs1 cells slots Q (F0 m 1177 ls [])) : W p l e room_1 s m args below meth c H locs cells slots Q (F0 m 1140 ls []) := by
  have hx := C.1
  have hb := C.2.1
  have hf := hst (xs ((v3 + (1 : Int32))).toNatClampNeg)
  refine lv_aload_n hx hb dL_law_1140 rfl (lv_at hl 1 rfl) ?_
  refine lv_aload_n hx hb dL_law_1141 rfl (lv_at hl 0 rfl) ?_
  refine lv_iload_n hx hb dL_law_1142 rfl (lv_at hl 3 rfl) ?_
  refine lv_iconst (v := 1) hx hb dL_law_1143 (by decide) ?_
  refine lv_iadd hx hb dL_law_1144 ?_
  refine va_sld hx hb hX hbl hbA hw.2.2.1 (hin 1 (by decide)) dL_law_1145 ?_
  refine y_runi hw (y_V (n := 1) (rest := []) C hw hm1 (by decide) (eX10_findings hf hm1) q855 q856 q857 q44 q858 rfl rfl (by decide +kernel) ⟨(Nat.le_of_ble_eq_true rfl), (Nat.le_of_ble_eq_true rfl)⟩ rfl hl.1 rfl (Nat.le_of_ble_eq_true rfl) ⟨by show cells ≤ 600000; omega, by show slots ≤ room_1.slots; omega⟩ dL_law_1146) (fun r1 σ1 H locs hf hw => ?_)
  try dsimp only at hf
  refine lv_aload_n hx hb dL_law_1149 rfl (lv_at hl 2 rfl) ?_
  refine lv_aload_n hx hb dL_law_1150 rfl (lv_at hl 0 rfl) ?_
  refine lv_iload_n hx hb dL_law_1151 rfl (lv_at hl 3 rfl) ?_
  refine lv_iconst (v := 1) hx hb dL_law_1152 (by decide) ?_
  refine lv_iadd hx hb dL_law_1153 ?_
  refine va_sld hx hb hX hbl hbA hw.2.2.1 (hin 1 (by decide)) dL_law_1154 ?_
  refine y_runi hw (y_V (n := 1) (rest := [.int r1]) C hw hm2 (by decide) (eX11_findings hf hm2) q1207 q1208 q1209 q53 q1210 rfl rfl (by decide +kernel) ⟨(Nat.le_of_ble_eq_true rfl), (Nat.le_of_ble_eq_true rfl)⟩ rfl hl.1 rfl (Nat.le_of_ble_eq_true rfl) ⟨by show cells ≤ 600000; omega, by show slots ≤ room_1.slots; omega⟩ dL_law_1155) (fun r2 σ2 H locs hf hw => ?_)
  try dsimp only at hf
  refine lv_icmp_eq (tgt := 1177) hx hb dL_law_1158 (by decide) (fun _ => ?_) (fun h => absurd hf.1 h)
  exact kk _ _ _ hf.2 hw
set_option maxHeartbeats 4000000 in
set_option maxRecDepth 100000 in
theorem lc_30 {p : Program} {l : Launch} {e : Env} {s : State} {m : MethodId} {args : Array Value} {below : List Frame} {meth : Method} {c : Code} {H : Heap} {locs : List Loc} {cells slots : Nat} {Q : State → Prop} {ls : Array Slot} {E : EC} {lay : Nat → Nat → Nat} {L : List (Nat × Nat)} {A : Nat → Prop} {σ : St} {I : St → List (Nat × Nat) → Prop} {N b Ln : Nat} {xs : Nat → Int32} {v3 : Int32} (C : Cx p s m args c meth RL cL_law 4 E A) (hX : va_X b Ln xs s s.heap) (hbl : b < s.heap.size) (hbA : ¬ A b) (hm1 : (10, 0) ∈ L) (hm2 : (11, 0) ∈ L) (hin : ∀ k : Nat, k < 6 → vp_in (v3 + nI k) Ln) (hcs : cells ≤ 600000 ∧ slots ≤ room_1.slots) (hw : Wo E lay L A s σ H locs) (hl : lv_has ls 4 [(0, .ref b), (1, .ref (lay 10 0)), (2, .ref (lay 11 0)), (3, .int v3)]) (hst : fX10_digest N σ (fun (r : Int64) (σ1 : St) => fX11_digest N σ1 (fun (r2 : Int64) (σ2 : St) => r = r2 ∧ I σ2 L))) (kk : ∀ (σ2 : St) (H1 : Heap) (locs1 : List Loc), I σ2 L → Wo E lay L A s σ2 H1 locs1 → W p l e room_1 s m args below meth c H1 locs1 cells slots Q (F0 m 1177 ls [])) : W p l e room_1 s m args below meth c H locs cells slots Q (F0 m 1163 ls []) := by
  have hx := C.1
  have hb := C.2.1
  have hf := hst
  refine lv_aload_n hx hb dL_law_1163 rfl (lv_at hl 1 rfl) ?_
  refine va_calll (y_V (n := 0) (rest := []) C hw hm1 (by decide) (eX10_digest hf hm1) q859 q860 q861 q44 q862 rfl rfl (by decide +kernel) ⟨(Nat.le_of_ble_eq_true rfl), (Nat.le_of_ble_eq_true rfl)⟩ rfl hl.1 rfl (Nat.le_of_ble_eq_true rfl) ⟨by show cells ≤ 600000; omega, by show slots ≤ room_1.slots; omega⟩ dL_law_1164) hw.2.2.1 (fun q _ h => h) (fun q h => h) (fun r1 σ1 tq H locs htq _ hf hbq _ _ hSq => ?_)
  have hw := x_wo2 htq hbq hSq
  try dsimp only at hf
  refine lv_aload_n hx hb dL_law_1167 rfl (lv_at hl 2 rfl) ?_
  refine va_calll (y_V (n := 0) (rest := [.long r1]) C hw hm2 (by decide) (eX11_digest hf hm2) q1211 q1212 q1213 q53 q1214 rfl rfl (by decide +kernel) ⟨(Nat.le_of_ble_eq_true rfl), (Nat.le_of_ble_eq_true rfl)⟩ rfl hl.1 rfl (Nat.le_of_ble_eq_true rfl) ⟨by show cells ≤ 600000; omega, by show slots ≤ room_1.slots; omega⟩ dL_law_1168) hw.2.2.1 (fun q _ h => h) (fun q h => h) (fun r2 σ2 tq H locs htq _ hf hbq _ _ hSq => ?_)
  have hw := x_wo2 htq hbq hSq
  try dsimp only at hf
  rw [hf.1]
  refine W.lcmp hx hb dL_law_1171 ?_
  rw [lg_cmp_self]
  refine lv_if_eq (tgt := 1177) hx hb dL_law_1172 (by decide) (fun _ => ?_) (fun h => absurd rfl h)
  exact kk _ _ _ hf.2 hw
