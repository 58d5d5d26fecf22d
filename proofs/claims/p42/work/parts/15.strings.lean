/-! Strings: the JDK's length() and charAt(int) of the words, the class's own spelling. -/
/-- an answer that is a known cell -/
def zQa (a : Nat) (D : va_G) (cy : Nat → ClassId) (N n : Nat) (ad : Nat → Nat) (σ : zS) (sz : Nat) : Array Value → State → Outcome → State → Prop :=
  va_Qr (S := Unit) (fun _ => True) (fun _ q t => q = a ∧ va_P D vwCl (zw n ad (zf cy N ad σ)) t.heap) (zA n ad sz)
theorem z_metF {l : Launch} {y : MethodName} {bytes : ByteArray} {maxL : Nat} {ret : Option FieldType} {rm : Room} {av : List Value} {D : va_G} {cy : Nat → ClassId} {wa : Nat → Nat} {N n : Nat} {ad : Nat → Nat} {σ : zS} {sz mc ms : Nat} {Qc : Array Value → State → Outcome → State → Prop}
    (hy : plainFor y = true) (hls : l.stackTraces = false) (hc : ∀ v ∈ av, v.category = 1) (hn : av.length ≤ maxL)
    (body : ∀ (p : Program) (e : Env) (s : State) (m : MethodId) (below : List Frame) (meth : Method) (c : Code), s.heap.size = sz → meth.sig.returnType = ret → zX p l s m av.toArray meth c bytes maxL y.cls D cy wa (zA n ad sz) →
      zW p l e rm s m av.toArray below meth c D cy N (zA n ad sz) n ad 0 0 (MQ below Qc av.toArray s mc ms (zA n ad sz)) (0, av.map some ++ List.replicate (maxL - av.length) none, []) σ) :
    Met l y (.code y bytes maxL ret :: zB) rm (zPc av D cy wa N n ad σ sz) Qc mc ms (zA n ad sz) := by
  refine va_MetF (cc := bytes) (maxL := maxL) (ret := ret) hy rfl ?_
  intro p e s m args below meth c s₁ B hml hv
  obtain ⟨rfl, hsz, hP, hK, hE, hM⟩ := hv
  have hts := atoms_spec (ws := .code y bytes maxL ret :: zB) B.pre
  have hX : zX p l s m av.toArray meth c bytes maxL y.cls D cy wa (zA n ad sz) := ⟨B.exec, B.bytes, hml, findClass_of_methodNamed B.named, fun w hw => hts w (List.mem_cons_of_mem _ hw), B.notSynchronized, hK, fun q h => Or.inr (by rw [← hsz]; exact h), hE, hM, hls⟩
  rw [lg_entry_eq]
  exact body p e s m below meth c hsz B.returns hX s.heap [] hP va_S.rf _ (zl_entry av hc hn)
section ZG
variable {p : Program} {l : Launch} {e : Env} {R : Room} {s : State} {m : MethodId} {args : Array Value} {below : List Frame} {meth : Method} {c : Code} {D : va_G} {cy : Nat → ClassId} {wa : Nat → Nat} {N : Nat} {A : Nat → Prop} {n : Nat} {ad : Nat → Nat} {cells slots : Nat} {Q : State → Prop} {σ σ' : zS}
variable {cc : ByteArray} {nL : Nat} {own : String} {pc : Nat} {L : List (Option Value)} {rest st0 : List Value}
variable {y : MethodName} {bytes : ByteArray} {maxL index d : Nat} {ret : Option FieldType} {As : List Value} {ans : Int32}
theorem zw_gets (X : zX p l s m args meth c cc nL own D cy wa A) {C nm ds : String} {v : Value} (hZ : va_Z C nm ds v A s s.heap) (hl : Cond.fieldLink own index C nm ds ∈ zB) (hdg : decode cc pc = .ok (.getstatic index, 3))
    (kk : zW p l e R s m args below meth c D cy N A n ad cells slots Q (pc + 3, L, v :: rest) σ) : zW p l e R s m args below meth c D cy N A n ad cells slots Q (pc, L, rest) σ :=
  fun H locs hP hS ls hl' => va_gets X.1 X.2.1 hZ hS X.2.2.2.1 (X.2.2.2.2.1 _ hl) (fun _ h => h) hdg (kk H locs hP hS ls hl')
theorem zw_rawf (X : zX p l s m args meth c cc nL own D cy wa A) {o nm ds : String} {q : Nat} {v : Value} (hO : va_OF o nm ds v q A s s.heap) (hl : Cond.fieldLink own index o nm ds ∈ zB) (hdg : decode cc pc = .ok (.getfield index, 3))
    (kk : zW p l e R s m args below meth c D cy N A n ad cells slots Q (pc + 3, L, v :: rest) σ) : zW p l e R s m args below meth c D cy N A n ad cells slots Q (pc, L, .ref q :: rest) σ :=
  fun H locs hP hS ls hl' => vk_getf X.1 X.2.1 hO hS X.2.2.2.1 (X.2.2.2.2.1 _ hl) (fun _ h => h) hdg (kk H locs hP hS ls hl')
theorem zw_tlen (X : zX p l s m args meth c cc nL own D cy wa A) {ty : FieldType} {t len : Nat} {f : Nat → Value} (hT : va_T ty t len f A s s.heap) {v : Int32} (hv : Int32.ofNat len = v) (hdg : decode cc pc = .ok (.arraylength, 1))
    (kk : zW p l e R s m args below meth c D cy N A n ad cells slots Q (pc + 1, L, .int v :: rest) σ) : zW p l e R s m args below meth c D cy N A n ad cells slots Q (pc, L, .ref t :: rest) σ :=
  fun H locs hP hS ls hl' => va_tlen X.1 X.2.1 hT hS hv hdg (kk H locs hP hS ls hl')
theorem zw_tb (X : zX p l s m args meth c cc nL own D cy wa A) {t len : Nat} {f : Nat → Value} (hT : va_T .byte t len f A s s.heap) {j : Nat} (hj : j < len) (hlen : len < 2 ^ 31) {v : Int32} (hv : f j = .int v) (hdg : decode cc pc = .ok (.baload, 1))
    (kk : zW p l e R s m args below meth c D cy N A n ad cells slots Q (pc + 1, L, .int v :: rest) σ) : zW p l e R s m args below meth c D cy N A n ad cells slots Q (pc, L, .int (nI j) :: .ref t :: rest) σ :=
  fun H locs hP hS ls hl' => va_tb X.1 X.2.1 hT hS (vp_in_nI hj hlen) (by rw [nI_clamp (Nat.lt_trans hj hlen)]; exact hv) hdg (kk H locs hP hS ls hl')
theorem zw_shr (X : zX p l s m args meth c cc nL own D cy wa A) {a b v : Int32} (hv : a >>> (b &&& 31) = v) (hdg : decode cc pc = .ok (.ishr, 1))
    (kk : zW p l e R s m args below meth c D cy N A n ad cells slots Q (pc + 1, L, .int v :: rest) σ) : zW p l e R s m args below meth c D cy N A n ad cells slots Q (pc, L, .int b :: .int a :: rest) σ := by
  subst hv
  exact fun H locs hP hS ls hl' => lv_ishr X.1 X.2.1 hdg (kk H locs hP hS ls hl')
theorem zw_ushr (X : zX p l s m args meth c cc nL own D cy wa A) {a b : Int32} (hdg : decode cc pc = .ok (.iushr, 1))
    (kk : zW p l e R s m args below meth c D cy N A n ad cells slots Q (pc + 1, L, .int (a.toUInt32 >>> (b.toUInt32 &&& Int32.toUInt32 31)).toInt32 :: rest) σ) : zW p l e R s m args below meth c D cy N A n ad cells slots Q (pc, L, .int b :: .int a :: rest) σ :=
  fun H locs hP hS ls hl' => lv_iushr X.1 X.2.1 hdg rfl (kk H locs hP hS ls hl')
theorem zw_i2c (X : zX p l s m args meth c cc nL own D cy wa A) {a v : Int32} (hv : (a.toUInt32 % 65536).toInt32 = v) (hdg : decode cc pc = .ok (.i2c, 1))
    (kk : zW p l e R s m args below meth c D cy N A n ad cells slots Q (pc + 1, L, .int v :: rest) σ) : zW p l e R s m args below meth c D cy N A n ad cells slots Q (pc, L, .int a :: rest) σ :=
  fun H locs hP hS ls hl' => lv_i2c X.1 X.2.1 hdg hv (kk H locs hP hS ls hl')
theorem zw_lds (X : zX p l s m args meth c cc nL own D cy wa A) {tx : String} {q : Nat} (hq : vk_R own index tx q s) (hdg : decode cc pc = .ok (.ldc index, 2))
    (kk : zW p l e R s m args below meth c D cy N A n ad cells slots Q (pc + 2, L, .ref q :: rest) σ) : zW p l e R s m args below meth c D cy N A n ad cells slots Q (pc, L, rest) σ :=
  fun H locs hP hS ls hl' => va_ldcS X.1 X.2.1 X.2.2.2.1 hq hdg (kk H locs hP hS ls hl')
theorem zw_Gi (X : zX p l s m args meth c cc nL own D cy wa A) (hAd : ∀ i, i < n → A (ad i)) {b : Nat} {C : String} (hO : va_O C b A s s.heap) (h5 : zV5 own C index y bytes maxL ret As.length)
    (hM : ∀ sz, Met l y (.code y bytes maxL ret :: zB) (zRm d) (zPc (.ref b :: As) D cy wa N n ad σ sz) (zQi ans D cy N n ad σ' sz) 0 0 (zA n ad sz)) (hst : st0 = As.reverse ++ .ref b :: rest) (hnL : L.length = nL) (hrm : (rest.map fun v => v.category).sum ≤ 8) (hR : d + 1 ≤ R.frames ∧ 8 + (maxL + 11) + 40 * d ≤ R.locals) (hf : cells ≤ R.cells ∧ slots ≤ R.slots) (hdg : decode cc pc = .ok (.invokevirtual index, 3))
    (kk : zW p l e R s m args below meth c D cy N A n ad cells slots Q (pc + 3, L, .int ans :: rest) σ') : zW p l e R s m args below meth c D cy N A n ad cells slots Q (pc, L, st0) σ := by
  subst hst
  obtain ⟨w1, w2, w3, w4, w5, w6, w7, w8, w9⟩ := h5
  refine zw_calli X hAd (mc := 0) (ms := 0) (ws := []) (y := y) (rm := zRm d) (av := .ref b :: As) (rest := rest) (fun H locs ls hP hS hl => va_runV ⟨X.1, X.2.1, X.2.2.1, X.2.2.2.1, X.2.2.2.2.1⟩ (hM H.size) (cwV As.length X.2.2.2.2.1 (z_gV w1 w2 w3 w4 w5) rfl rfl rfl ⟨w6, w7, w8, w9⟩ hR) ⟨zPc_blind, ?_, zPc_of X hAd hS hP _⟩ rfl rfl (hl.1.trans hnL) rfl (lv_room hrm) hdg hf) kk
  obtain ⟨cell, h1, h2, h3, -⟩ := hO.kept hS.2.1
  exact ⟨cell, h1, h2, h3⟩
/-- a static call that answers a known cell -/
theorem zw_Sa (X : zX p l s m args meth c cc nL own D cy wa A) (hAd : ∀ i, i < n → A (ad i)) {b : Nat} (h5 : zS5 own index y bytes maxL ret As.length)
    (hM : ∀ sz, Met l y (.code y bytes maxL ret :: zB) (zRm d) (zPc As D cy wa N n ad σ sz) (zQa b D cy N n ad σ' sz) 0 0 (zA n ad sz)) (hst : st0 = As.reverse ++ rest) (hnL : L.length = nL) (hrm : (rest.map fun v => v.category).sum ≤ 8) (hR : d + 1 ≤ R.frames ∧ 8 + (maxL + 11) + 40 * d ≤ R.locals) (hf : cells ≤ R.cells ∧ slots ≤ R.slots) (hdg : decode cc pc = .ok (.invokestatic index, 3))
    (kk : zW p l e R s m args below meth c D cy N A n ad cells slots Q (pc + 3, L, .ref b :: rest) σ') : zW p l e R s m args below meth c D cy N A n ad cells slots Q (pc, L, st0) σ := by
  subst hst
  obtain ⟨w1, w2, w4, w5, w7, w8, w9⟩ := h5
  intro H locs hP hS ls hl
  have hz := zA_in X hAd hS
  refine va_callr (va_runS ⟨X.1, X.2.1, X.2.2.1, X.2.2.2.1, X.2.2.2.2.1⟩ (hM H.size) (va_cwS As.length X.2.2.2.2.1 (z_gS w1 w2 w4 w5) rfl rfl rfl ⟨w7, w8, w9⟩ hR) ⟨zPc_blind, zPc_of X hAd hS hP _⟩ rfl rfl (hl.1.trans hnL) rfl (lv_room hrm) hdg hf) hS (fun q _ h => hz q h) hz (fun u ra t H1 locs1 ht hvm hp hB hz1 hk1 hS1 => ?_)
  obtain ⟨rfl, hB⟩ := hB
  rw [ht] at hB
  exact kk H1 locs1 hB hS1 ls hl
theorem zw_aret (X : zX p l s m args meth c cc nL own D cy wa A) {rt : String} (hr : meth.sig.returnType = some (.object rt)) (hdg : decode cc pc = .ok (.areturn, 1)) {a : Nat} {σ' : zS} {sz : Nat} (hA0 : A = zA n ad sz) (hσ : σ = σ') :
    zW p l e R s m args below meth c D cy N A n ad cells slots (MQ below (zQa a D cy N n ad σ' sz) args s cells slots A) (pc, L, [.ref a]) σ := by
  subst hσ; subst hA0
  obtain ⟨hx, hb, hml, hown, hts, hlk, hK, hA, hE, hM, hls⟩ := X
  intro H locs hP hS ls hl'
  exact W.aret hx hb hr (Or.inl ⟨_, rfl⟩) (Or.inr ⟨a, rfl⟩) (fun t ht hW => ⟨⟨(), a, rfl, trivial, rfl, by rw [ht]; exact hP⟩, hS.F ht⟩) hS.2.2 hdg hlk
end ZG

set_option maxHeartbeats 4000000 in
set_option maxRecDepth 100000 in
theorem c_coder {l : Launch} (hls : l.stackTraces = false) {D : va_G} {cy : Nat → ClassId} {wa : Nat → Nat} {N n : Nat} {ad : Nat → Nat} (hD : zD n ad) (hn : 40 ≤ n) (σ : zS) (a v len : Nat) (byt : List Int32) (hlen : len < 100) (hG : ∀ A U H, zE wa A U H → zG len byt a v A U H)  (sz : Nat) : Met l yJ0_coder_7d493 (.code yJ0_coder_7d493 cJ0_coder_7d493 1 (some .byte) :: zB) (zRm 0) (zPc [.ref (a)] D cy wa N n ad σ sz) (zQi (0) D cy N n ad (σ) sz) 0 0 (zA n ad sz) := by
  refine z_metF (by decide +kernel) hls (List.forall_mem_cons.mpr ⟨rfl, (fun _ h => nomatch h)⟩) (Nat.le_of_ble_eq_true rfl) (fun p_ e_ s_ m_ below_ meth_ c_ hsz hr X => ?_)
  have X : zX p_ l s_ m_ [.ref (a)].toArray meth_ c_ cJ0_coder_7d493 1 RJ0 D cy wa (zA n ad sz) := X
  have hAd : ∀ i, i < n → zA n ad sz (ad i) := fun i hi => Or.inl ⟨i, hi, rfl⟩
  obtain ⟨hO, hc, hv, hT⟩ := hG _ _ _ X.2.2.2.2.2.2.2.2.1
  refine zw_gets X X.2.2.2.2.2.2.2.2.1.2.2.1 zm_177 dJ0_coder_7d493_0 ?_
  refine zw_if_eq X (tgt := 13) dJ0_coder_7d493_3 (by decide) (fun h_ => absurd h_ (by decide)) (fun _ => ?_)
  refine zw_run X (is := [(6, .aload_n 0, 1)]) (t' := (7, [some (.ref (a))], [.ref (a)])) ⟨dJ0_coder_7d493_6, trivial⟩ rfl ?_
  refine zw_rawf X hc zm_178 dJ0_coder_7d493_7 ?_
  refine zw_go X (tgt := 14) dJ0_coder_7d493_10 (by decide) ?_
  exact zw_zret X hr dJ0_coder_7d493_14 rfl rfl rfl rfl

set_option maxHeartbeats 4000000 in
set_option maxRecDepth 100000 in
theorem c_isLatin1 {l : Launch} (hls : l.stackTraces = false) {D : va_G} {cy : Nat → ClassId} {wa : Nat → Nat} {N n : Nat} {ad : Nat → Nat} (hD : zD n ad) (hn : 40 ≤ n) (σ : zS) (a v len : Nat) (byt : List Int32) (hlen : len < 100) (hG : ∀ A U H, zE wa A U H → zG len byt a v A U H)  (sz : Nat) : Met l yJ0_isLatin1_aae02 (.code yJ0_isLatin1_aae02 cJ0_isLatin1_aae02 1 (some .boolean) :: zB) (zRm 0) (zPc [.ref (a)] D cy wa N n ad σ sz) (zQi (1) D cy N n ad (σ) sz) 0 0 (zA n ad sz) := by
  refine z_metF (by decide +kernel) hls (List.forall_mem_cons.mpr ⟨rfl, (fun _ h => nomatch h)⟩) (Nat.le_of_ble_eq_true rfl) (fun p_ e_ s_ m_ below_ meth_ c_ hsz hr X => ?_)
  have X : zX p_ l s_ m_ [.ref (a)].toArray meth_ c_ cJ0_isLatin1_aae02 1 RJ0 D cy wa (zA n ad sz) := X
  have hAd : ∀ i, i < n → zA n ad sz (ad i) := fun i hi => Or.inl ⟨i, hi, rfl⟩
  obtain ⟨hO, hc, hv, hT⟩ := hG _ _ _ X.2.2.2.2.2.2.2.2.1
  refine zw_gets X X.2.2.2.2.2.2.2.2.1.2.2.1 zm_177 dJ0_isLatin1_aae02_0 ?_
  refine zw_if_eq X (tgt := 17) dJ0_isLatin1_aae02_3 (by decide) (fun h_ => absurd h_ (by decide)) (fun _ => ?_)
  refine zw_run X (is := [(6, .aload_n 0, 1)]) (t' := (7, [some (.ref (a))], [.ref (a)])) ⟨dJ0_isLatin1_aae02_6, trivial⟩ rfl ?_
  refine zw_rawf X hc zm_178 dJ0_isLatin1_aae02_7 ?_
  refine zw_if_ne X (tgt := 17) dJ0_isLatin1_aae02_10 (by decide) (fun h_ => absurd rfl h_) (fun h_ => ?_)
  refine zw_run X (is := [(13, .iconst 1, 1)]) (t' := (14, [some (.ref (a))], [.int 1])) ⟨dJ0_isLatin1_aae02_13, trivial⟩ rfl ?_
  refine zw_go X (tgt := 18) dJ0_isLatin1_aae02_14 (by decide) ?_
  exact zw_zret X hr dJ0_isLatin1_aae02_18 rfl rfl rfl rfl

set_option maxHeartbeats 4000000 in
set_option maxRecDepth 100000 in
theorem c_length {l : Launch} (hls : l.stackTraces = false) {D : va_G} {cy : Nat → ClassId} {wa : Nat → Nat} {N n : Nat} {ad : Nat → Nat} (hD : zD n ad) (hn : 40 ≤ n) (σ : zS) (a v len : Nat) (byt : List Int32) (hlen : len < 100) (hG : ∀ A U H, zE wa A U H → zG len byt a v A U H)  (sz : Nat) : Met l yJ0_length_8abf5 (.code yJ0_length_8abf5 cJ0_length_8abf5 1 (some .int) :: zB) (zRm 1) (zPc [.ref (a)] D cy wa N n ad σ sz) (zQi (nI len) D cy N n ad (σ) sz) 0 0 (zA n ad sz) := by
  refine z_metF (by decide +kernel) hls (List.forall_mem_cons.mpr ⟨rfl, (fun _ h => nomatch h)⟩) (Nat.le_of_ble_eq_true rfl) (fun p_ e_ s_ m_ below_ meth_ c_ hsz hr X => ?_)
  have X : zX p_ l s_ m_ [.ref (a)].toArray meth_ c_ cJ0_length_8abf5 1 RJ0 D cy wa (zA n ad sz) := X
  have hAd : ∀ i, i < n → zA n ad sz (ad i) := fun i hi => Or.inl ⟨i, hi, rfl⟩
  obtain ⟨hO, hc, hv, hT⟩ := hG _ _ _ X.2.2.2.2.2.2.2.2.1
  refine zw_run X (is := [(0, .aload_n 0, 1)]) (t' := (1, [some (.ref (a))], [.ref (a)])) ⟨dJ0_length_8abf5_0, trivial⟩ rfl ?_
  refine zw_rawf X hv zm_172 dJ0_length_8abf5_1 ?_
  refine zw_tlen X hT (v := nI len) rfl dJ0_length_8abf5_4 ?_
  refine zw_run X (is := [(5, .aload_n 0, 1)]) (t' := (6, [some (.ref (a))], [.ref (a), .int (nI len)])) ⟨dJ0_length_8abf5_5, trivial⟩ rfl ?_
  refine zw_Gi X hAd (As := []) (rest := [.int (nI len)]) (d := 0) hO ⟨zm_173, zm_174, zm_175, zm_170, zm_176, rfl, by decide, by decide, (show (parseMethodDescriptor yJ0_coder_7d493.desc).map (fun d => d.parameters.length) = some 0 by decide +kernel)⟩ (fun sz => c_coder hls hD hn σ a v len byt hlen hG sz) rfl rfl (Nat.le_of_ble_eq_true rfl) ⟨Nat.le_of_ble_eq_true rfl, Nat.le_of_ble_eq_true rfl⟩ ⟨Nat.zero_le _, Nat.zero_le _⟩ dJ0_length_8abf5_6 ?_
  refine zw_shr X (v := nI len) (by rw [show (0 : Int32) &&& 31 = 0 from rfl]; exact sb_shr0 _) dJ0_length_8abf5_9 ?_
  exact zw_iret X hr dJ0_length_8abf5_10 rfl rfl rfl

set_option maxHeartbeats 4000000 in
set_option maxRecDepth 100000 in
theorem c_J3check {l : Launch} (hls : l.stackTraces = false) {D : va_G} {cy : Nat → ClassId} {wa : Nat → Nat} {N n : Nat} {ad : Nat → Nat} (hD : zD n ad) (hn : 40 ≤ n) (σ : zS) (j len : Nat) (hj : j < len) (hlen : len < 100) (v : Value) (hvc : v.category = 1) (sz : Nat) : Met l yJ3_checkIndex_8e157 (.code yJ3_checkIndex_8e157 cJ3_checkIndex_8e157 3 (some .int) :: zB) (zRm 0) (zPc [.int (nI j), .int (nI len), v] D cy wa N n ad σ sz) (zQi (nI j) D cy N n ad (σ) sz) 0 0 (zA n ad sz) := by
  refine z_metF (by decide +kernel) hls (List.forall_mem_cons.mpr ⟨rfl, (List.forall_mem_cons.mpr ⟨rfl, (List.forall_mem_cons.mpr ⟨hvc, (fun _ h => nomatch h)⟩)⟩)⟩) (Nat.le_of_ble_eq_true rfl) (fun p_ e_ s_ m_ below_ meth_ c_ hsz hr X => ?_)
  have X : zX p_ l s_ m_ [.int (nI j), .int (nI len), v].toArray meth_ c_ cJ3_checkIndex_8e157 3 RJ3 D cy wa (zA n ad sz) := X
  have hAd : ∀ i, i < n → zA n ad sz (ad i) := fun i hi => Or.inl ⟨i, hi, rfl⟩
  refine zw_run X (is := [(0, .iload_n 0, 1)]) (t' := (1, [some (.int (nI j)), some (.int (nI len)), some (v)], [.int (nI j)])) ⟨dJ3_checkIndex_8e157_0, trivial⟩ rfl ?_
  refine zw_if_lt X (tgt := 9) dJ3_checkIndex_8e157_1 (by decide) (fun h_ => absurd h_ (nI_pos (by omega))) (fun _ => ?_)
  refine zw_run X (is := [(4, .iload_n 0, 1), (5, .iload_n 1, 1)]) (t' := (6, [some (.int (nI j)), some (.int (nI len)), some (v)], [.int (nI len), .int (nI j)])) ⟨dJ3_checkIndex_8e157_4, dJ3_checkIndex_8e157_5, trivial⟩ rfl ?_
  refine zw_icmp_lt X (tgt := 16) dJ3_checkIndex_8e157_6 (by decide) (fun _ => ?_) (fun h_ => absurd (nI_lt hj (by omega)) h_)
  refine zw_run X (is := [(16, .iload_n 0, 1)]) (t' := (17, [some (.int (nI j)), some (.int (nI len)), some (v)], [.int (nI j)])) ⟨dJ3_checkIndex_8e157_16, trivial⟩ rfl ?_
  exact zw_iret X hr dJ3_checkIndex_8e157_17 rfl rfl rfl

set_option maxHeartbeats 4000000 in
set_option maxRecDepth 100000 in
theorem c_J0check {l : Launch} (hls : l.stackTraces = false) {D : va_G} {cy : Nat → ClassId} {wa : Nat → Nat} {N n : Nat} {ad : Nat → Nat} (hD : zD n ad) (hn : 40 ≤ n) (σ : zS) (j len : Nat) (hj : j < len) (hlen : len < 100) (sz : Nat) : Met l yJ0_checkIndex_df160 (.code yJ0_checkIndex_df160 cJ0_checkIndex_df160 2 none :: zB) (zRm 1) (zPc [.int (nI j), .int (nI len)] D cy wa N n ad σ sz) (zQv D cy N n ad (σ) sz) 0 0 (zA n ad sz) := by
  refine z_metF (by decide +kernel) hls (List.forall_mem_cons.mpr ⟨rfl, (List.forall_mem_cons.mpr ⟨rfl, (fun _ h => nomatch h)⟩)⟩) (Nat.le_of_ble_eq_true rfl) (fun p_ e_ s_ m_ below_ meth_ c_ hsz hr X => ?_)
  have X : zX p_ l s_ m_ [.int (nI j), .int (nI len)].toArray meth_ c_ cJ0_checkIndex_df160 2 RJ0 D cy wa (zA n ad sz) := X
  have hAd : ∀ i, i < n → zA n ad sz (ad i) := fun i hi => Or.inl ⟨i, hi, rfl⟩
  refine zw_run X (is := [(0, .iload_n 0, 1), (1, .iload_n 1, 1)]) (t' := (2, [some (.int (nI j)), some (.int (nI len))], [.int (nI len), .int (nI j)])) ⟨dJ0_checkIndex_df160_0, dJ0_checkIndex_df160_1, trivial⟩ rfl ?_
  rcases X.2.2.2.2.2.2.2.2.1.2.2.2.1 with hz | ⟨z, hz⟩
  · refine zw_gets X hz zm_194 dJ0_checkIndex_df160_2 ?_
    refine zw_Si X hAd (As := [.int (nI j), .int (nI len), .null]) (rest := []) (d := 0) ⟨zm_195, zm_196, zm_197, zm_198, by decide, by decide, (show (parseMethodDescriptor yJ3_checkIndex_8e157.desc).map (fun d => d.parameters.length) = some 3 by decide +kernel)⟩ (fun sz => c_J3check hls hD hn σ j len hj hlen (.null) rfl sz) rfl rfl (Nat.le_of_ble_eq_true rfl) ⟨Nat.le_of_ble_eq_true rfl, Nat.le_of_ble_eq_true rfl⟩ ⟨Nat.zero_le _, Nat.zero_le _⟩ dJ0_checkIndex_df160_5 ?_
    refine zw_run X (is := [(8, .pop, 1)]) (t' := (9, [some (.int (nI j)), some (.int (nI len))], [])) ⟨dJ0_checkIndex_df160_8, trivial⟩ rfl ?_
    exact zw_vret X hr dJ0_checkIndex_df160_9 rfl rfl
  · refine zw_gets X hz zm_194 dJ0_checkIndex_df160_2 ?_
    refine zw_Si X hAd (As := [.int (nI j), .int (nI len), .ref (z)]) (rest := []) (d := 0) ⟨zm_195, zm_196, zm_197, zm_198, by decide, by decide, (show (parseMethodDescriptor yJ3_checkIndex_8e157.desc).map (fun d => d.parameters.length) = some 3 by decide +kernel)⟩ (fun sz => c_J3check hls hD hn σ j len hj hlen (.ref (z)) rfl sz) rfl rfl (Nat.le_of_ble_eq_true rfl) ⟨Nat.le_of_ble_eq_true rfl, Nat.le_of_ble_eq_true rfl⟩ ⟨Nat.zero_le _, Nat.zero_le _⟩ dJ0_checkIndex_df160_5 ?_
    refine zw_run X (is := [(8, .pop, 1)]) (t' := (9, [some (.int (nI j)), some (.int (nI len))], [])) ⟨dJ0_checkIndex_df160_8, trivial⟩ rfl ?_
    exact zw_vret X hr dJ0_checkIndex_df160_9 rfl rfl

set_option maxHeartbeats 4000000 in
set_option maxRecDepth 100000 in
theorem c_J1charAt {l : Launch} (hls : l.stackTraces = false) {D : va_G} {cy : Nat → ClassId} {wa : Nat → Nat} {N n : Nat} {ad : Nat → Nat} (hD : zD n ad) (hn : 40 ≤ n) (σ : zS) (v len : Nat) (byt : List Int32) (hlen : len < 100) (hT0 : ∀ A U H, zE wa A U H → va_T .byte v len (fun j => .int (byt.getD j 0)) A U H) (j : Nat) (hj : j < len) (hch : ((byt.getD j 0 &&& 255).toUInt32 % 65536).toInt32 = byt.getD j 0)  (sz : Nat) : Met l yJ1_charAt_3b067 (.code yJ1_charAt_3b067 cJ1_charAt_3b067 2 (some .char) :: zB) (zRm 2) (zPc [.ref (v), .int (nI j)] D cy wa N n ad σ sz) (zQi (byt.getD j 0) D cy N n ad (σ) sz) 0 0 (zA n ad sz) := by
  refine z_metF (by decide +kernel) hls (List.forall_mem_cons.mpr ⟨rfl, (List.forall_mem_cons.mpr ⟨rfl, (fun _ h => nomatch h)⟩)⟩) (Nat.le_of_ble_eq_true rfl) (fun p_ e_ s_ m_ below_ meth_ c_ hsz hr X => ?_)
  have X : zX p_ l s_ m_ [.ref (v), .int (nI j)].toArray meth_ c_ cJ1_charAt_3b067 2 RJ1 D cy wa (zA n ad sz) := X
  have hAd : ∀ i, i < n → zA n ad sz (ad i) := fun i hi => Or.inl ⟨i, hi, rfl⟩
  have hnr : narrow .char (.int (byt.getD j 0)) = .int (byt.getD j 0) := by rw [← hch]; exact pk_nc _
  refine zw_run X (is := [(0, .iload_n 1, 1), (1, .aload_n 0, 1)]) (t' := (2, [some (.ref (v)), some (.int (nI j))], [.ref (v), .int (nI j)])) ⟨dJ1_charAt_3b067_0, dJ1_charAt_3b067_1, trivial⟩ rfl ?_
  refine zw_tlen X (hT0 _ _ _ X.2.2.2.2.2.2.2.2.1) (v := nI len) rfl dJ1_charAt_3b067_2 ?_
  refine zw_Sv X hAd (As := [.int (nI j), .int (nI len)]) (rest := []) (d := 1) ⟨zm_191, zm_192, zm_170, zm_193, by decide, by decide, (show (parseMethodDescriptor yJ0_checkIndex_df160.desc).map (fun d => d.parameters.length) = some 2 by decide +kernel)⟩ (fun sz => c_J0check hls hD hn σ j len hj hlen sz) rfl rfl (Nat.le_of_ble_eq_true rfl) ⟨Nat.le_of_ble_eq_true rfl, Nat.le_of_ble_eq_true rfl⟩ ⟨Nat.zero_le _, Nat.zero_le _⟩ dJ1_charAt_3b067_3 ?_
  refine zw_run X (is := [(6, .aload_n 0, 1), (7, .iload_n 1, 1)]) (t' := (8, [some (.ref (v)), some (.int (nI j))], [.int (nI j), .ref (v)])) ⟨dJ1_charAt_3b067_6, dJ1_charAt_3b067_7, trivial⟩ rfl ?_
  refine zw_tb X (hT0 _ _ _ X.2.2.2.2.2.2.2.2.1) hj (by omega) (v := byt.getD j 0) rfl dJ1_charAt_3b067_8 ?_
  refine zw_run X (is := [(9, .sipush 255, 3), (12, .iand, 1)]) (t' := (13, [some (.ref (v)), some (.int (nI j))], [.int ((byt.getD j 0) &&& 255)])) ⟨dJ1_charAt_3b067_9, dJ1_charAt_3b067_12, trivial⟩ rfl ?_
  refine zw_i2c X (v := byt.getD j 0) hch dJ1_charAt_3b067_13 ?_
  exact zw_zret X hr dJ1_charAt_3b067_14 hnr rfl rfl rfl

set_option maxHeartbeats 4000000 in
set_option maxRecDepth 100000 in
theorem c_charAt {l : Launch} (hls : l.stackTraces = false) {D : va_G} {cy : Nat → ClassId} {wa : Nat → Nat} {N n : Nat} {ad : Nat → Nat} (hD : zD n ad) (hn : 40 ≤ n) (σ : zS) (a v len : Nat) (byt : List Int32) (hlen : len < 100) (hG : ∀ A U H, zE wa A U H → zG len byt a v A U H) (j : Nat) (hj : j < len) (hch : ((byt.getD j 0 &&& 255).toUInt32 % 65536).toInt32 = byt.getD j 0)  (sz : Nat) : Met l yJ0_charAt_5068e (.code yJ0_charAt_5068e cJ0_charAt_5068e 2 (some .char) :: zB) (zRm 3) (zPc [.ref (a), .int (nI j)] D cy wa N n ad σ sz) (zQi (byt.getD j 0) D cy N n ad (σ) sz) 0 0 (zA n ad sz) := by
  refine z_metF (by decide +kernel) hls (List.forall_mem_cons.mpr ⟨rfl, (List.forall_mem_cons.mpr ⟨rfl, (fun _ h => nomatch h)⟩)⟩) (Nat.le_of_ble_eq_true rfl) (fun p_ e_ s_ m_ below_ meth_ c_ hsz hr X => ?_)
  have X : zX p_ l s_ m_ [.ref (a), .int (nI j)].toArray meth_ c_ cJ0_charAt_5068e 2 RJ0 D cy wa (zA n ad sz) := X
  have hAd : ∀ i, i < n → zA n ad sz (ad i) := fun i hi => Or.inl ⟨i, hi, rfl⟩
  obtain ⟨hO, hc, hv, hT⟩ := hG _ _ _ X.2.2.2.2.2.2.2.2.1
  have hnr : narrow .char (.int (byt.getD j 0)) = .int (byt.getD j 0) := by rw [← hch]; exact pk_nc _
  refine zw_run X (is := [(0, .aload_n 0, 1)]) (t' := (1, [some (.ref (a)), some (.int (nI j))], [.ref (a)])) ⟨dJ0_charAt_5068e_0, trivial⟩ rfl ?_
  refine zw_Gi X hAd (As := []) (rest := []) (d := 0) hO ⟨zm_183, zm_184, zm_185, zm_170, zm_186, rfl, by decide, by decide, (show (parseMethodDescriptor yJ0_isLatin1_aae02.desc).map (fun d => d.parameters.length) = some 0 by decide +kernel)⟩ (fun sz => c_isLatin1 hls hD hn σ a v len byt hlen hG sz) rfl rfl (Nat.le_of_ble_eq_true rfl) ⟨Nat.le_of_ble_eq_true rfl, Nat.le_of_ble_eq_true rfl⟩ ⟨Nat.zero_le _, Nat.zero_le _⟩ dJ0_charAt_5068e_1 ?_
  refine zw_if_eq X (tgt := 16) dJ0_charAt_5068e_4 (by decide) (fun h_ => absurd h_ (by decide)) (fun _ => ?_)
  refine zw_run X (is := [(7, .aload_n 0, 1)]) (t' := (8, [some (.ref (a)), some (.int (nI j))], [.ref (a)])) ⟨dJ0_charAt_5068e_7, trivial⟩ rfl ?_
  refine zw_rawf X hv zm_172 dJ0_charAt_5068e_8 ?_
  refine zw_run X (is := [(11, .iload_n 1, 1)]) (t' := (12, [some (.ref (a)), some (.int (nI j))], [.int (nI j), .ref (v)])) ⟨dJ0_charAt_5068e_11, trivial⟩ rfl ?_
  refine zw_Si X hAd (As := [.ref (v), .int (nI j)]) (rest := []) (d := 2) ⟨zm_187, zm_188, zm_189, zm_190, by decide, by decide, (show (parseMethodDescriptor yJ1_charAt_3b067.desc).map (fun d => d.parameters.length) = some 2 by decide +kernel)⟩ (fun sz => c_J1charAt hls hD hn σ v len byt hlen (fun A U H h => (hG A U H h).2.2.2) j hj hch sz) rfl rfl (Nat.le_of_ble_eq_true rfl) ⟨Nat.le_of_ble_eq_true rfl, Nat.le_of_ble_eq_true rfl⟩ ⟨Nat.zero_le _, Nat.zero_le _⟩ dJ0_charAt_5068e_12 ?_
  exact zw_zret X hr dJ0_charAt_5068e_15 hnr rfl rfl rfl
