/-! Calls over the world by place. -/
section ZK
variable {p : Program} {l : Launch} {e : Env} {R : Room} {s : State} {m : MethodId} {args : Array Value} {below : List Frame} {meth : Method} {c : Code} {D : va_G} {cy : Nat → ClassId} {wa : Nat → Nat} {N : Nat} {A : Nat → Prop} {n : Nat} {ad : Nat → Nat} {cells slots : Nat} {Q : State → Prop} {σ σ' : zS}
variable {cc : ByteArray} {nL : Nat} {own : String} {pc : Nat} {L : List (Option Value)} {rest st0 : List Value}
variable {y : MethodName} {bytes : ByteArray} {maxL index d : Nat} {ret : Option FieldType} {As : List Value} {ans : Int32}
/-- the words of a virtual call; of a static one -/
def zV5 (own C : String) (index : Nat) (y : MethodName) (bytes : ByteArray) (maxL : Nat) (ret : Option FieldType) (k : Nat) : Prop := Cond.methodLink own index y ∈ zB ∧ Cond.instanceMethod y ∈ zB ∧ Cond.selects C y y ∈ zB ∧ Cond.initialized C ∈ zB ∧ Cond.code y bytes maxL ret ∈ zB ∧ y.cls = C ∧ y.cls ≠ "java/lang/invoke/MethodHandle" ∧ y.cls ≠ "java/lang/invoke/VarHandle" ∧ (parseMethodDescriptor y.desc).map (fun d => d.parameters.length) = some k
def zS5 (own : String) (index : Nat) (y : MethodName) (bytes : ByteArray) (maxL : Nat) (ret : Option FieldType) (k : Nat) : Prop := Cond.methodLink own index y ∈ zB ∧ Cond.static y ∈ zB ∧ Cond.initialized y.cls ∈ zB ∧ Cond.code y bytes maxL ret ∈ zB ∧ y.cls ≠ "java/lang/invoke/MethodHandle" ∧ y.cls ≠ "java/lang/invoke/VarHandle" ∧ (parseMethodDescriptor y.desc).map (fun d => d.parameters.length) = some k
theorem zw_Vi (X : zX p l s m args meth c cc nL own D cy wa A) (hAd : ∀ i, i < n → A (ad i)) {i : Nat} (hi : i < n) {ci : Nat} {fs : List Value} (he : zc cy N ad i (σ i) = .inr (ci, fs)) {q : vw_C} (hc : vwCl[ci]? = some q) (h5 : zV5 own q.1 index y bytes maxL ret As.length)
    (hM : ∀ sz, Met l y (.code y bytes maxL ret :: zB) (zRm d) (zPc (.ref (ad i) :: As) D cy wa N n ad σ sz) (zQi ans D cy N n ad σ' sz) 0 0 (zA n ad sz)) (hst : st0 = As.reverse ++ .ref (ad i) :: rest) (hnL : L.length = nL) (hrm : (rest.map fun v => v.category).sum ≤ 8) (hR : d + 1 ≤ R.frames ∧ 8 + (maxL + 11) + 40 * d ≤ R.locals) (hf : cells ≤ R.cells ∧ slots ≤ R.slots) (hdg : decode cc pc = .ok (.invokevirtual index, 3))
    (kk : zW p l e R s m args below meth c D cy N A n ad cells slots Q (pc + 3, L, .int ans :: rest) σ') : zW p l e R s m args below meth c D cy N A n ad cells slots Q (pc, L, st0) σ := by
  subst hst
  obtain ⟨w1, w2, w3, w4, w5, w6, w7, w8, w9⟩ := h5
  exact zw_calli X hAd (mc := 0) (ms := 0) (ws := []) (y := y) (rm := zRm d) (av := .ref (ad i) :: As) (rest := rest) (fun H locs ls hP hS hl => va_runV ⟨X.1, X.2.1, X.2.2.1, X.2.2.2.1, X.2.2.2.2.1⟩ (hM H.size) (cwV As.length X.2.2.2.2.1 (z_gV w1 w2 w3 w4 w5) rfl rfl rfl ⟨w6, w7, w8, w9⟩ hR) ⟨zPc_blind, zw_recv X hP hi he hc, zPc_of X hAd hS hP _⟩ rfl rfl (hl.1.trans hnL) rfl (lv_room hrm) hdg hf) kk
theorem zw_Vv (X : zX p l s m args meth c cc nL own D cy wa A) (hAd : ∀ i, i < n → A (ad i)) {i : Nat} (hi : i < n) {ci : Nat} {fs : List Value} (he : zc cy N ad i (σ i) = .inr (ci, fs)) {q : vw_C} (hc : vwCl[ci]? = some q) (h5 : zV5 own q.1 index y bytes maxL ret As.length)
    (hM : ∀ sz, Met l y (.code y bytes maxL ret :: zB) (zRm d) (zPc (.ref (ad i) :: As) D cy wa N n ad σ sz) (zQv D cy N n ad σ' sz) 0 0 (zA n ad sz)) (hst : st0 = As.reverse ++ .ref (ad i) :: rest) (hnL : L.length = nL) (hrm : (rest.map fun v => v.category).sum ≤ 8) (hR : d + 1 ≤ R.frames ∧ 8 + (maxL + 11) + 40 * d ≤ R.locals) (hf : cells ≤ R.cells ∧ slots ≤ R.slots) (hdg : decode cc pc = .ok (.invokevirtual index, 3))
    (kk : zW p l e R s m args below meth c D cy N A n ad cells slots Q (pc + 3, L, rest) σ') : zW p l e R s m args below meth c D cy N A n ad cells slots Q (pc, L, st0) σ := by
  subst hst
  obtain ⟨w1, w2, w3, w4, w5, w6, w7, w8, w9⟩ := h5
  exact zw_callv X hAd (mc := 0) (ms := 0) (av := .ref (ad i) :: As) (rest := rest) (fun H locs ls hP hS hl => va_runV ⟨X.1, X.2.1, X.2.2.1, X.2.2.2.1, X.2.2.2.2.1⟩ (hM H.size) (cwV As.length X.2.2.2.2.1 (z_gV w1 w2 w3 w4 w5) rfl rfl rfl ⟨w6, w7, w8, w9⟩ hR) ⟨zPc_blind, zw_recv X hP hi he hc, zPc_of X hAd hS hP _⟩ rfl rfl (hl.1.trans hnL) rfl (lv_room hrm) hdg hf) kk
theorem zw_Si (X : zX p l s m args meth c cc nL own D cy wa A) (hAd : ∀ i, i < n → A (ad i)) (h5 : zS5 own index y bytes maxL ret As.length)
    (hM : ∀ sz, Met l y (.code y bytes maxL ret :: zB) (zRm d) (zPc As D cy wa N n ad σ sz) (zQi ans D cy N n ad σ' sz) 0 0 (zA n ad sz)) (hst : st0 = As.reverse ++ rest) (hnL : L.length = nL) (hrm : (rest.map fun v => v.category).sum ≤ 8) (hR : d + 1 ≤ R.frames ∧ 8 + (maxL + 11) + 40 * d ≤ R.locals) (hf : cells ≤ R.cells ∧ slots ≤ R.slots) (hdg : decode cc pc = .ok (.invokestatic index, 3))
    (kk : zW p l e R s m args below meth c D cy N A n ad cells slots Q (pc + 3, L, .int ans :: rest) σ') : zW p l e R s m args below meth c D cy N A n ad cells slots Q (pc, L, st0) σ := by
  subst hst
  obtain ⟨w1, w2, w4, w5, w7, w8, w9⟩ := h5
  exact zw_calli X hAd (mc := 0) (ms := 0) (ws := []) (y := y) (rm := zRm d) (av := As) (rest := rest) (fun H locs ls hP hS hl => va_runS ⟨X.1, X.2.1, X.2.2.1, X.2.2.2.1, X.2.2.2.2.1⟩ (hM H.size) (va_cwS As.length X.2.2.2.2.1 (z_gS w1 w2 w4 w5) rfl rfl rfl ⟨w7, w8, w9⟩ hR) ⟨zPc_blind, zPc_of X hAd hS hP _⟩ rfl rfl (hl.1.trans hnL) rfl (lv_room hrm) hdg hf) kk
theorem zw_Sv (X : zX p l s m args meth c cc nL own D cy wa A) (hAd : ∀ i, i < n → A (ad i)) (h5 : zS5 own index y bytes maxL ret As.length)
    (hM : ∀ sz, Met l y (.code y bytes maxL ret :: zB) (zRm d) (zPc As D cy wa N n ad σ sz) (zQv D cy N n ad σ' sz) 0 0 (zA n ad sz)) (hst : st0 = As.reverse ++ rest) (hnL : L.length = nL) (hrm : (rest.map fun v => v.category).sum ≤ 8) (hR : d + 1 ≤ R.frames ∧ 8 + (maxL + 11) + 40 * d ≤ R.locals) (hf : cells ≤ R.cells ∧ slots ≤ R.slots) (hdg : decode cc pc = .ok (.invokestatic index, 3))
    (kk : zW p l e R s m args below meth c D cy N A n ad cells slots Q (pc + 3, L, rest) σ') : zW p l e R s m args below meth c D cy N A n ad cells slots Q (pc, L, st0) σ := by
  subst hst
  obtain ⟨w1, w2, w4, w5, w7, w8, w9⟩ := h5
  exact zw_callv X hAd (mc := 0) (ms := 0) (av := As) (rest := rest) (fun H locs ls hP hS hl => va_runS ⟨X.1, X.2.1, X.2.2.1, X.2.2.2.1, X.2.2.2.2.1⟩ (hM H.size) (va_cwS As.length X.2.2.2.2.1 (z_gS w1 w2 w4 w5) rfl rfl rfl ⟨w7, w8, w9⟩ hR) ⟨zPc_blind, zPc_of X hAd hS hP _⟩ rfl rfl (hl.1.trans hnL) rfl (lv_room hrm) hdg hf) kk
/-- a virtual call that throws, uncaught here; a static one -/
theorem zw_Vo (X : zX p l s m args meth c cc nL own D cy wa A) (hno : ∀ x ∈ c.exceptionTable.toList, False) (hAd : ∀ i, i < n → A (ad i)) {E : String} {sz0 : Nat} (hA0 : A = zA n ad sz0) {Qc : Array Value → State → Outcome → State → Prop} {i : Nat} (hi : i < n) {ci : Nat} {fs : List Value} (he : zc cy N ad i (σ i) = .inr (ci, fs)) {q : vw_C} (hc : vwCl[ci]? = some q) (h5 : zV5 own q.1 index y bytes maxL ret As.length)
    (hM : ∀ sz, vx_Met l y (.code y bytes maxL ret :: zB) (zRx d) (zPc (.ref (ad i) :: As) D cy wa N n ad σ sz) zNo (zXC E D cy N n ad σ sz) 1 6 (zA n ad sz)) (hst : st0 = As.reverse ++ .ref (ad i) :: rest) (hnL : L.length = nL) (hrm : (rest.map fun v => v.category).sum ≤ 8) (hR : 6 + d + 1 ≤ R.frames ∧ 8 + (maxL + 11) + (120 + 40 * d) ≤ R.locals) (hf : 0 + 1 ≤ R.cells ∧ 0 + 6 ≤ R.slots) (hdg : decode cc pc = .ok (.invokevirtual index, 3)) :
    zW p l e R s m args below meth c D cy N A n ad 0 0 (vx_MQ below Qc (zXC E D cy N n ad σ sz0) args s 1 6 A) (pc, L, st0) σ := by
  subst hst
  obtain ⟨w1, w2, w3, w4, w5, w6, w7, w8, w9⟩ := h5
  exact zw_outx X hno hAd hA0 (rest := rest) (fun H locs ls hP hS hl => vx_runV ⟨X.1, X.2.1, X.2.2.1, X.2.2.2.1, X.2.2.2.2.1⟩ (hM H.size) (cwV As.length X.2.2.2.2.1 (z_gV w1 w2 w3 w4 w5) rfl rfl rfl ⟨w6, w7, w8, w9⟩ hR) ⟨zPc_blind, zw_recv X hP hi he hc, zPc_of X hAd hS hP _⟩ rfl rfl (hl.1.trans hnL) rfl (lv_room hrm) hdg hf)
theorem zw_So (X : zX p l s m args meth c cc nL own D cy wa A) (hno : ∀ x ∈ c.exceptionTable.toList, False) (hAd : ∀ i, i < n → A (ad i)) {E : String} {sz0 : Nat} (hA0 : A = zA n ad sz0) {Qc : Array Value → State → Outcome → State → Prop} (h5 : zS5 own index y bytes maxL ret As.length)
    (hM : ∀ sz, vx_Met l y (.code y bytes maxL ret :: zB) (zRx d) (zPc As D cy wa N n ad σ sz) zNo (zXC E D cy N n ad σ sz) 1 6 (zA n ad sz)) (hst : st0 = As.reverse ++ rest) (hnL : L.length = nL) (hrm : (rest.map fun v => v.category).sum ≤ 8) (hR : 6 + d + 1 ≤ R.frames ∧ 8 + (maxL + 11) + (120 + 40 * d) ≤ R.locals) (hf : 0 + 1 ≤ R.cells ∧ 0 + 6 ≤ R.slots) (hdg : decode cc pc = .ok (.invokestatic index, 3)) :
    zW p l e R s m args below meth c D cy N A n ad 0 0 (vx_MQ below Qc (zXC E D cy N n ad σ sz0) args s 1 6 A) (pc, L, st0) σ := by
  subst hst
  obtain ⟨w1, w2, w4, w5, w7, w8, w9⟩ := h5
  exact zw_outx X hno hAd hA0 (rest := rest) (fun H locs ls hP hS hl => vx_runS ⟨X.1, X.2.1, X.2.2.1, X.2.2.2.1, X.2.2.2.2.1⟩ (hM H.size) (va_cwS As.length X.2.2.2.2.1 (z_gS w1 w2 w4 w5) rfl rfl rfl ⟨w7, w8, w9⟩ hR) ⟨zPc_blind, zPc_of X hAd hS hP _⟩ rfl rfl (hl.1.trans hnL) rfl (lv_room hrm) hdg hf)
theorem zw_min (X : zX p l s m args meth c cc nL own D cy wa A) (h1 : Cond.methodLink own index Lib.Math.min.name ∈ zB) (h2 : Cond.static Lib.Math.min.name ∈ zB) (h3 : Cond.initialized "java/lang/Math" ∈ zB) (h4 : Cond.code Lib.Math.min.name Lib.Math.min.code 2 (some .int) ∈ zB) (hnL : L.length = nL) (hR : 1 ≤ R.frames ∧ (rest.map fun v => v.category).sum + 13 ≤ R.locals) (hf : cells ≤ R.cells ∧ slots ≤ R.slots) {a b v : Int32} (hv : (if b < a then b else a) = v) (hdg : decode cc pc = .ok (.invokestatic index, 3))
    (kk : zW p l e R s m args below meth c D cy N A n ad cells slots Q (pc + 3, L, .int v :: rest) σ) : zW p l e R s m args below meth c D cy N A n ad cells slots Q (pc, L, .int b :: .int a :: rest) σ := by
  obtain ⟨hx, hb, hml, hown, hts, hlk, hK, hA, hE, hM, hls⟩ := X
  intro H locs hP hS ls hl'
  subst hv
  exact va_mmin hx hb (by rw [hml, hl'.1]; exact hnL.symm) hown (hts _ h1) (hts _ h2) (hts _ h3) (hts _ h4) hR.1 hR.2 hf.1 hf.2 hdg (kk H locs hP hS ls hl')
theorem zw_max (X : zX p l s m args meth c cc nL own D cy wa A) (h1 : Cond.methodLink own index Lib.Math.max.name ∈ zB) (h2 : Cond.static Lib.Math.max.name ∈ zB) (h3 : Cond.initialized "java/lang/Math" ∈ zB) (h4 : Cond.code Lib.Math.max.name Lib.Math.max.code 2 (some .int) ∈ zB) (hnL : L.length = nL) (hR : 1 ≤ R.frames ∧ (rest.map fun v => v.category).sum + 13 ≤ R.locals) (hf : cells ≤ R.cells ∧ slots ≤ R.slots) {a b v : Int32} (hv : (if a < b then b else a) = v) (hdg : decode cc pc = .ok (.invokestatic index, 3))
    (kk : zW p l e R s m args below meth c D cy N A n ad cells slots Q (pc + 3, L, .int v :: rest) σ) : zW p l e R s m args below meth c D cy N A n ad cells slots Q (pc, L, .int b :: .int a :: rest) σ := by
  obtain ⟨hx, hb, hml, hown, hts, hlk, hK, hA, hE, hM, hls⟩ := X
  intro H locs hP hS ls hl'
  subst hv
  exact va_mmax hx hb (by rw [hml, hl'.1]; exact hnL.symm) hown (hts _ h1) (hts _ h2) (hts _ h3) (hts _ h4) hR.1 hR.2 hf.1 hf.2 hdg (kk H locs hP hS ls hl')
theorem zw_div (X : zX p l s m args meth c cc nL own D cy wa A) {a b : Int32} (h0 : ¬ b = 0) (hdg : decode cc pc = .ok (.idiv, 1))
    (kk : zW p l e R s m args below meth c D cy N A n ad cells slots Q (pc + 1, L, .int (a / b) :: rest) σ) : zW p l e R s m args below meth c D cy N A n ad cells slots Q (pc, L, .int b :: .int a :: rest) σ :=
  fun H locs hP hS ls hl => lv_idiv X.1 X.2.1 hdg h0 (kk H locs hP hS ls hl)
theorem zw_rem (X : zX p l s m args meth c cc nL own D cy wa A) {a b v : Int32} (h0 : ¬ b = 0) (hv : a - a / b * b = v) (hdg : decode cc pc = .ok (.irem, 1))
    (kk : zW p l e R s m args below meth c D cy N A n ad cells slots Q (pc + 1, L, .int v :: rest) σ) : zW p l e R s m args below meth c D cy N A n ad cells slots Q (pc, L, .int b :: .int a :: rest) σ := by
  subst hv
  exact fun H locs hP hS ls hl => lv_irem X.1 X.2.1 hdg h0 (kk H locs hP hS ls hl)
theorem zw_shl (X : zX p l s m args meth c cc nL own D cy wa A) {a b : Int32} (hdg : decode cc pc = .ok (.ishl, 1))
    (kk : zW p l e R s m args below meth c D cy N A n ad cells slots Q (pc + 1, L, .int (a <<< (b &&& 31)) :: rest) σ) : zW p l e R s m args below meth c D cy N A n ad cells slots Q (pc, L, .int b :: .int a :: rest) σ :=
  fun H locs hP hS ls hl => lv_ishl X.1 X.2.1 hdg (kk H locs hP hS ls hl)
theorem zw_tabIn (X : zX p l s m args meth c cc nL own D cy wa A) {dflt lo hi : Int} {offs : Array Int} {len : Nat} {x : Int32} {off : Int} {tgt : Nat} (hdg : decode cc pc = .ok (.tableswitch dflt lo hi offs, len)) (h1 : ¬ x.toInt < lo) (h2 : ¬ hi < x.toInt) (ho : offs[(x.toInt - lo).toNat]? = some off) (ht : (pc : Int) + off = (tgt : Int))
    (kk : zW p l e R s m args below meth c D cy N A n ad cells slots Q (tgt, L, rest) σ) : zW p l e R s m args below meth c D cy N A n ad cells slots Q (pc, L, .int x :: rest) σ :=
  fun H locs hP hS ls hl => lv_tableIn X.1 X.2.1 hdg h1 h2 ho ht (kk H locs hP hS ls hl)
theorem zw_tabOut (X : zX p l s m args meth c cc nL own D cy wa A) {dflt lo hi : Int} {offs : Array Int} {len : Nat} {x : Int32} {tgt : Nat} (hdg : decode cc pc = .ok (.tableswitch dflt lo hi offs, len)) (h : x.toInt < lo ∨ hi < x.toInt) (ht : (pc : Int) + dflt = (tgt : Int))
    (kk : zW p l e R s m args below meth c D cy N A n ad cells slots Q (tgt, L, rest) σ) : zW p l e R s m args below meth c D cy N A n ad cells slots Q (pc, L, .int x :: rest) σ :=
  fun H locs hP hS ls hl => lv_tableOut X.1 X.2.1 hdg h ht (kk H locs hP hS ls hl)
end ZK
