/-! The script; the law's own methods that read it, spell and type. -/
def zXs (b Ls : Nat) (xs : Nat → Int32) (A : Nat → Prop) (s : State) : Prop := va_X b Ls xs s s.heap ∧ b < s.heap.size ∧ ¬ A b
def zPs (b Ls : Nat) (xs : Nat → Int32) (av : List Value) (D : va_G) (cy : Nat → ClassId) (wa : Nat → Nat) (N n : Nat) (ad : Nat → Nat) (σ : zS) (sz : Nat) : Array Value → State → Prop :=
  fun a U => zPc av D cy wa N n ad σ sz a U ∧ va_X b Ls xs U U.heap ∧ b < sz ∧ ¬ zA n ad sz b
def zQe (post : Int32 → Prop) (D : va_G) (cy : Nat → ClassId) (N n : Nat) (ad : Nat → Nat) (σ : zS) (sz : Nat) : Array Value → State → Outcome → State → Prop :=
  va_Qi (S := Unit) (fun r _ => post r) (fun _ t => va_P D vwCl (zw n ad (zf cy N ad σ)) t.heap) (zA n ad sz)
theorem zPs_blind {b Ls : Nat} {xs : Nat → Int32} {av : List Value} {D : va_G} {cy : Nat → ClassId} {wa : Nat → Nat} {N n : Nat} {ad : Nat → Nat} {σ : zS} {sz : Nat} : FrameBlind (zPs b Ls xs av D cy wa N n ad σ sz) := by
  intro a U g mk h
  exact ⟨zPc_blind a U g mk h.1, va_X.moved (u := U) (U := U.calling g mk a) (Vm.Alike.refl U.vm) h.2.1, h.2.2⟩
theorem z_metS {l : Launch} {y : MethodName} {bytes : ByteArray} {maxL : Nat} {ret : Option FieldType} {rm : Room} {b Ls : Nat} {xs : Nat → Int32} {av : List Value} {D : va_G} {cy : Nat → ClassId} {wa : Nat → Nat} {N n : Nat} {ad : Nat → Nat} {σ : zS} {sz mc ms : Nat} {Qc : Array Value → State → Outcome → State → Prop}
    (hy : plainName y.cls = true) (hls : l.stackTraces = false) (hc : ∀ v ∈ av, v.category = 1) (hn : av.length ≤ maxL)
    (body : ∀ (p : Program) (e : Env) (s : State) (m : MethodId) (below : List Frame) (meth : Method) (c : Code), s.heap.size = sz → meth.sig.returnType = ret → zX p l s m av.toArray meth c bytes maxL y.cls D cy wa (zA n ad sz) → zXs b Ls xs (zA n ad sz) s →
      zW p l e rm s m av.toArray below meth c D cy N (zA n ad sz) n ad 0 0 (MQ below Qc av.toArray s mc ms (zA n ad sz)) (0, av.map some ++ List.replicate (maxL - av.length) none, []) σ) :
    Met l y (.code y bytes maxL ret :: zB) rm (zPs b Ls xs av D cy wa N n ad σ sz) Qc mc ms (zA n ad sz) := by
  refine Met.ofW (cc := bytes) (maxL := maxL) (ret := ret) hy rfl ?_
  intro p e s m args below meth c s₁ B hml hv
  obtain ⟨⟨rfl, hsz, hP, hK, hE, hM⟩, hx1, hx2, hx3⟩ := hv
  have hts := atoms_spec (ws := .code y bytes maxL ret :: zB) B.pre
  have hX : zX p l s m av.toArray meth c bytes maxL y.cls D cy wa (zA n ad sz) := ⟨B.exec, B.bytes, hml, findClass_of_methodNamed B.named, fun w hw => hts w (List.mem_cons_of_mem _ hw), B.notSynchronized, hK, fun q h => Or.inr (by rw [← hsz]; exact h), hE, hM, hls⟩
  rw [lg_entry_eq]
  exact body p e s m below meth c hsz B.returns hX ⟨hx1, by rw [hsz]; exact hx2, hx3⟩ s.heap [] hP va_S.rf _ (zl_entry av hc hn)
section ZSC
variable {p : Program} {l : Launch} {e : Env} {R : Room} {s : State} {m : MethodId} {args : Array Value} {below : List Frame} {meth : Method} {c : Code} {D : va_G} {cy : Nat → ClassId} {wa : Nat → Nat} {N : Nat} {A : Nat → Prop} {n : Nat} {ad : Nat → Nat} {cells slots : Nat} {Q : State → Prop} {σ σ' : zS}
variable {cc : ByteArray} {nL : Nat} {own : String} {pc : Nat} {L : List (Option Value)} {rest st0 : List Value}
variable {y : MethodName} {bytes : ByteArray} {maxL index d : Nat} {ret : Option FieldType} {As : List Value} {ans : Int32} {b Ls : Nat} {xs : Nat → Int32}
theorem zw_slen (X : zX p l s m args meth c cc nL own D cy wa A) (hXs : zXs b Ls xs A s) (hdg : decode cc pc = .ok (.arraylength, 1))
    (kk : zW p l e R s m args below meth c D cy N A n ad cells slots Q (pc + 1, L, .int (nI Ls) :: rest) σ) : zW p l e R s m args below meth c D cy N A n ad cells slots Q (pc, L, .ref b :: rest) σ :=
  fun H locs hP hS ls hl' => va_slen X.1 X.2.1 hXs.1 hXs.2.1 hXs.2.2 hS hdg (kk H locs hP hS ls hl')
theorem zw_sld (X : zX p l s m args meth c cc nL own D cy wa A) (hXs : zXs b Ls xs A s) {j : Nat} (hj : j < Ls) (hlen : Ls < 2 ^ 31) (hdg : decode cc pc = .ok (.iaload, 1))
    (kk : zW p l e R s m args below meth c D cy N A n ad cells slots Q (pc + 1, L, .int (xs j) :: rest) σ) : zW p l e R s m args below meth c D cy N A n ad cells slots Q (pc, L, .int (nI j) :: .ref b :: rest) σ := by
  intro H locs hP hS ls hl'
  refine va_sld X.1 X.2.1 hXs.1 hXs.2.1 hXs.2.2 hS (vp_in_nI hj hlen) hdg ?_
  rw [nI_clamp (Nat.lt_trans hj hlen)]
  exact kk H locs hP hS ls hl'
theorem zw_eret (X : zX p l s m args meth c cc nL own D cy wa A) (hr : meth.sig.returnType = some .int) (hdg : decode cc pc = .ok (.ireturn, 1)) {post : Int32 → Prop} {v : Int32} {σ' : zS} {sz : Nat} (hA0 : A = zA n ad sz) (hv : post v) (hσ : σ = σ') :
    zW p l e R s m args below meth c D cy N A n ad cells slots (MQ below (zQe post D cy N n ad σ' sz) args s cells slots A) (pc, L, [.int v]) σ := by
  subst hσ; subst hA0
  obtain ⟨hx, hb, hml, hown, hts, hlk, hK, hA, hE, hM, hls⟩ := X
  intro H locs hP hS ls hl'
  exact W.iret hx hb hr (fun t ht hW => ⟨⟨v, (), rfl, hv, by show va_P _ _ _ t.heap; rw [ht]; exact hP⟩, hS.F ht⟩) hS.2.2 hdg hlk
theorem zw_Ss (X : zX p l s m args meth c cc nL own D cy wa A) (hAd : ∀ i, i < n → A (ad i)) (hXs : zXs b Ls xs A s) {post : Int32 → Prop} (h5 : zS5 own index y bytes maxL ret As.length)
    (hM : ∀ sz, Met l y (.code y bytes maxL ret :: zB) (zRm d) (zPs b Ls xs As D cy wa N n ad σ sz) (zQe post D cy N n ad σ' sz) 0 0 (zA n ad sz)) (hst : st0 = As.reverse ++ rest) (hnL : L.length = nL) (hrm : (rest.map fun v => v.category).sum ≤ 8) (hR : d + 1 ≤ R.frames ∧ 8 + (maxL + 11) + 40 * d ≤ R.locals) (hf : cells ≤ R.cells ∧ slots ≤ R.slots) (hdg : decode cc pc = .ok (.invokestatic index, 3))
    (kk : ∀ r, post r → zW p l e R s m args below meth c D cy N A n ad cells slots Q (pc + 3, L, .int r :: rest) σ') : zW p l e R s m args below meth c D cy N A n ad cells slots Q (pc, L, st0) σ := by
  subst hst
  obtain ⟨w1, w2, w4, w5, w7, w8, w9⟩ := h5
  intro H locs hP hS ls hl
  have hz := zA_in X hAd hS
  refine va_calli (va_runS ⟨X.1, X.2.1, X.2.2.1, X.2.2.2.1, X.2.2.2.2.1⟩ (hM H.size) (va_cwS As.length X.2.2.2.2.1 (z_gS w1 w2 w4 w5) rfl rfl rfl ⟨w7, w8, w9⟩ hR) ⟨zPs_blind, fun U hU hW => ⟨zPc_of X hAd hS hP _ U hU hW, ?_, Nat.lt_of_lt_of_le hXs.2.1 hS.1, ?_⟩⟩ rfl rfl (hl.1.trans hnL) rfl (lv_room hrm) hdg hf) hS (fun q _ h => hz q h) hz (fun r u t H1 locs1 ht hvm hp hB hz1 hk1 hS1 => ?_)
  · rw [hU]
    exact (hXs.1.kept (hS.2.1 b hXs.2.1 hXs.2.2)).moved hW.alike
  · exact fun h => hXs.2.2 (hz b h)
  · rw [ht] at hB
    exact kk r hp H1 locs1 hB hS1 ls hl
end ZSC

set_option maxHeartbeats 4000000 in
set_option maxRecDepth 100000 in
theorem c_cell {l : Launch} (hls : l.stackTraces = false) {D : va_G} {cy : Nat → ClassId} {wa : Nat → Nat} {N n : Nat} {ad : Nat → Nat} (hD : zD n ad) (hn : 40 ≤ n) (σ : zS) (b Ls : Nat) (xs : Nat → Int32) (hLs : Ls ≤ 260) (j : Nat) (hj : j < 1000) (sz : Nat) : Met l yL_cell (.code yL_cell cL_cell 3 (some .int) :: zB) (zRm 0) (zPs b Ls xs [.ref (b), .int (nI j)] D cy wa N n ad σ sz) (zQe (fun _ => True) D cy N n ad σ sz) 0 0 (zA n ad sz) := by
  refine z_metS (by decide) hls (List.forall_mem_cons.mpr ⟨rfl, (List.forall_mem_cons.mpr ⟨rfl, (fun _ h => nomatch h)⟩)⟩) (Nat.le_of_ble_eq_true rfl) (fun p_ e_ s_ m_ below_ meth_ c_ hsz hr X hXs => ?_)
  have X : zX p_ l s_ m_ [.ref (b), .int (nI j)].toArray meth_ c_ cL_cell 3 RL D cy wa (zA n ad sz) := X
  have hAd : ∀ i, i < n → zA n ad sz (ad i) := fun i hi => Or.inl ⟨i, hi, rfl⟩
  refine zw_ldc X (v := 69069) zm_97 dL_cell_0 ?_
  refine zw_run X (is := [(2, .iload_n 1, 1), (3, .aload_n 0, 1)]) (t' := (4, [some (.ref (b)), some (.int (nI j)), none], [.ref (b), .int (nI j), .int 69069])) ⟨dL_cell_2, dL_cell_3, trivial⟩ rfl ?_
  refine zw_slen X hXs dL_cell_4 ?_
  refine zw_icmp_ge X (tgt := 14) dL_cell_5 (by decide) (fun hb => ?_) (fun hb => ?_)
  · refine zw_run X (is := [(14, .iconst 0, 1), (15, .sipush 1009, 3), (18, .iload_n 1, 1), (19, .imul, 1), (20, .iadd, 1), (21, .imul, 1), (22, .sipush 12345, 3), (25, .iadd, 1), (26, .istore_n 2, 1), (27, .iload_n 2, 1), (28, .iload_n 2, 1), (29, .bipush 13, 2)]) (t' := (31, [some (.ref (b)), some (.int (nI j)), some (.int ((69069 * (0 + (1009 * (nI j)))) + 12345))], [.int 13, .int ((69069 * (0 + (1009 * (nI j)))) + 12345), .int ((69069 * (0 + (1009 * (nI j)))) + 12345)])) ⟨dL_cell_14, dL_cell_15, dL_cell_18, dL_cell_19, dL_cell_20, dL_cell_21, dL_cell_22, dL_cell_25, dL_cell_26, dL_cell_27, dL_cell_28, dL_cell_29, trivial⟩ rfl ?_
    refine zw_ushr X dL_cell_31 ?_
    refine zw_run X (is := [(32, .ixor, 1)]) (t' := (33, [some (.ref (b)), some (.int (nI j)), some (.int ((69069 * (0 + (1009 * (nI j)))) + 12345))], [.int (((69069 * (0 + (1009 * (nI j)))) + 12345) ^^^ ((((69069 * (0 + (1009 * (nI j)))) + 12345).toUInt32 >>> ((13 : Int32).toUInt32 &&& Int32.toUInt32 31)).toInt32))])) ⟨dL_cell_32, trivial⟩ rfl ?_
    refine zw_ldc X (v := 1103515245) zm_98 dL_cell_33 ?_
    refine zw_run X (is := [(35, .imul, 1), (36, .istore_n 2, 1), (37, .iload_n 2, 1), (38, .iload_n 2, 1), (39, .bipush 16, 2)]) (t' := (41, [some (.ref (b)), some (.int (nI j)), some (.int ((((69069 * (0 + (1009 * (nI j)))) + 12345) ^^^ ((((69069 * (0 + (1009 * (nI j)))) + 12345).toUInt32 >>> ((13 : Int32).toUInt32 &&& Int32.toUInt32 31)).toInt32)) * 1103515245))], [.int 16, .int ((((69069 * (0 + (1009 * (nI j)))) + 12345) ^^^ ((((69069 * (0 + (1009 * (nI j)))) + 12345).toUInt32 >>> ((13 : Int32).toUInt32 &&& Int32.toUInt32 31)).toInt32)) * 1103515245), .int ((((69069 * (0 + (1009 * (nI j)))) + 12345) ^^^ ((((69069 * (0 + (1009 * (nI j)))) + 12345).toUInt32 >>> ((13 : Int32).toUInt32 &&& Int32.toUInt32 31)).toInt32)) * 1103515245)])) ⟨dL_cell_35, dL_cell_36, dL_cell_37, dL_cell_38, dL_cell_39, trivial⟩ rfl ?_
    refine zw_ushr X dL_cell_41 ?_
    refine zw_run X (is := [(42, .ixor, 1)]) (t' := (43, [some (.ref (b)), some (.int (nI j)), some (.int ((((69069 * (0 + (1009 * (nI j)))) + 12345) ^^^ ((((69069 * (0 + (1009 * (nI j)))) + 12345).toUInt32 >>> ((13 : Int32).toUInt32 &&& Int32.toUInt32 31)).toInt32)) * 1103515245))], [.int (((((69069 * (0 + (1009 * (nI j)))) + 12345) ^^^ ((((69069 * (0 + (1009 * (nI j)))) + 12345).toUInt32 >>> ((13 : Int32).toUInt32 &&& Int32.toUInt32 31)).toInt32)) * 1103515245) ^^^ ((((((69069 * (0 + (1009 * (nI j)))) + 12345) ^^^ ((((69069 * (0 + (1009 * (nI j)))) + 12345).toUInt32 >>> ((13 : Int32).toUInt32 &&& Int32.toUInt32 31)).toInt32)) * 1103515245).toUInt32 >>> ((16 : Int32).toUInt32 &&& Int32.toUInt32 31)).toInt32))])) ⟨dL_cell_42, trivial⟩ rfl ?_
    exact zw_eret X hr dL_cell_43 rfl trivial rfl
  · refine zw_run X (is := [(8, .aload_n 0, 1), (9, .iload_n 1, 1)]) (t' := (10, [some (.ref (b)), some (.int (nI j)), none], [.int (nI j), .ref (b), .int 69069])) ⟨dL_cell_8, dL_cell_9, trivial⟩ rfl ?_
    refine zw_sld X hXs (j := j) ((nI_ltI (by omega) (by omega)).mp (Int32.not_le.mp hb)) (by omega) dL_cell_10 ?_
    refine zw_go X (tgt := 15) dL_cell_11 (by decide) ?_
    refine zw_run X (is := [(15, .sipush 1009, 3), (18, .iload_n 1, 1), (19, .imul, 1), (20, .iadd, 1), (21, .imul, 1), (22, .sipush 12345, 3), (25, .iadd, 1), (26, .istore_n 2, 1), (27, .iload_n 2, 1), (28, .iload_n 2, 1), (29, .bipush 13, 2)]) (t' := (31, [some (.ref (b)), some (.int (nI j)), some (.int ((69069 * ((xs j) + (1009 * (nI j)))) + 12345))], [.int 13, .int ((69069 * ((xs j) + (1009 * (nI j)))) + 12345), .int ((69069 * ((xs j) + (1009 * (nI j)))) + 12345)])) ⟨dL_cell_15, dL_cell_18, dL_cell_19, dL_cell_20, dL_cell_21, dL_cell_22, dL_cell_25, dL_cell_26, dL_cell_27, dL_cell_28, dL_cell_29, trivial⟩ rfl ?_
    refine zw_ushr X dL_cell_31 ?_
    refine zw_run X (is := [(32, .ixor, 1)]) (t' := (33, [some (.ref (b)), some (.int (nI j)), some (.int ((69069 * ((xs j) + (1009 * (nI j)))) + 12345))], [.int (((69069 * ((xs j) + (1009 * (nI j)))) + 12345) ^^^ ((((69069 * ((xs j) + (1009 * (nI j)))) + 12345).toUInt32 >>> ((13 : Int32).toUInt32 &&& Int32.toUInt32 31)).toInt32))])) ⟨dL_cell_32, trivial⟩ rfl ?_
    refine zw_ldc X (v := 1103515245) zm_98 dL_cell_33 ?_
    refine zw_run X (is := [(35, .imul, 1), (36, .istore_n 2, 1), (37, .iload_n 2, 1), (38, .iload_n 2, 1), (39, .bipush 16, 2)]) (t' := (41, [some (.ref (b)), some (.int (nI j)), some (.int ((((69069 * ((xs j) + (1009 * (nI j)))) + 12345) ^^^ ((((69069 * ((xs j) + (1009 * (nI j)))) + 12345).toUInt32 >>> ((13 : Int32).toUInt32 &&& Int32.toUInt32 31)).toInt32)) * 1103515245))], [.int 16, .int ((((69069 * ((xs j) + (1009 * (nI j)))) + 12345) ^^^ ((((69069 * ((xs j) + (1009 * (nI j)))) + 12345).toUInt32 >>> ((13 : Int32).toUInt32 &&& Int32.toUInt32 31)).toInt32)) * 1103515245), .int ((((69069 * ((xs j) + (1009 * (nI j)))) + 12345) ^^^ ((((69069 * ((xs j) + (1009 * (nI j)))) + 12345).toUInt32 >>> ((13 : Int32).toUInt32 &&& Int32.toUInt32 31)).toInt32)) * 1103515245)])) ⟨dL_cell_35, dL_cell_36, dL_cell_37, dL_cell_38, dL_cell_39, trivial⟩ rfl ?_
    refine zw_ushr X dL_cell_41 ?_
    refine zw_run X (is := [(42, .ixor, 1)]) (t' := (43, [some (.ref (b)), some (.int (nI j)), some (.int ((((69069 * ((xs j) + (1009 * (nI j)))) + 12345) ^^^ ((((69069 * ((xs j) + (1009 * (nI j)))) + 12345).toUInt32 >>> ((13 : Int32).toUInt32 &&& Int32.toUInt32 31)).toInt32)) * 1103515245))], [.int (((((69069 * ((xs j) + (1009 * (nI j)))) + 12345) ^^^ ((((69069 * ((xs j) + (1009 * (nI j)))) + 12345).toUInt32 >>> ((13 : Int32).toUInt32 &&& Int32.toUInt32 31)).toInt32)) * 1103515245) ^^^ ((((((69069 * ((xs j) + (1009 * (nI j)))) + 12345) ^^^ ((((69069 * ((xs j) + (1009 * (nI j)))) + 12345).toUInt32 >>> ((13 : Int32).toUInt32 &&& Int32.toUInt32 31)).toInt32)) * 1103515245).toUInt32 >>> ((16 : Int32).toUInt32 &&& Int32.toUInt32 31)).toInt32))])) ⟨dL_cell_42, trivial⟩ rfl ?_
    exact zw_eret X hr dL_cell_43 rfl trivial rfl

set_option maxHeartbeats 4000000 in
set_option maxRecDepth 100000 in
theorem c_in {l : Launch} (hls : l.stackTraces = false) {D : va_G} {cy : Nat → ClassId} {wa : Nat → Nat} {N n : Nat} {ad : Nat → Nat} (hD : zD n ad) (hn : 40 ≤ n) (σ : zS) (b Ls : Nat) (xs : Nat → Int32) (hLs : Ls ≤ 260) (j : Nat) (hj : j < 1000) (q : Nat) (h0 : 0 < q) (hq : q ≤ 10000) (sz : Nat) : Met l yL_in (.code yL_in cL_in 3 (some .int) :: zB) (zRm 1) (zPs b Ls xs [.ref (b), .int (nI j), .int (nI q)] D cy wa N n ad σ sz) (zQe (fun r => ∃ k, r = nI k ∧ k < q) D cy N n ad σ sz) 0 0 (zA n ad sz) := by
  refine z_metS (by decide) hls (List.forall_mem_cons.mpr ⟨rfl, (List.forall_mem_cons.mpr ⟨rfl, (List.forall_mem_cons.mpr ⟨rfl, (fun _ h => nomatch h)⟩)⟩)⟩) (Nat.le_of_ble_eq_true rfl) (fun p_ e_ s_ m_ below_ meth_ c_ hsz hr X hXs => ?_)
  have X : zX p_ l s_ m_ [.ref (b), .int (nI j), .int (nI q)].toArray meth_ c_ cL_in 3 RL D cy wa (zA n ad sz) := X
  have hAd : ∀ i, i < n → zA n ad sz (ad i) := fun i hi => Or.inl ⟨i, hi, rfl⟩
  refine zw_run X (is := [(0, .aload_n 0, 1), (1, .iload_n 1, 1)]) (t' := (2, [some (.ref (b)), some (.int (nI j)), some (.int (nI q))], [.int (nI j), .ref (b)])) ⟨dL_in_0, dL_in_1, trivial⟩ rfl ?_
  refine zw_Ss X hAd hXs (As := [.ref (b), .int (nI j)]) (rest := []) (d := 0) ⟨zm_94, zm_95, zm_91, zm_96, by decide, by decide, (show (parseMethodDescriptor yL_cell.desc).map (fun d => d.parameters.length) = some 2 by decide +kernel)⟩ (fun sz => c_cell hls hD hn σ b Ls xs hLs j hj sz) rfl rfl (Nat.le_of_ble_eq_true rfl) ⟨Nat.le_of_ble_eq_true rfl, Nat.le_of_ble_eq_true rfl⟩ ⟨Nat.zero_le _, Nat.zero_le _⟩ dL_in_2 ?_
  intro r _
  refine zw_ldc X (v := 2147483647) zm_93 dL_in_5 ?_
  refine zw_run X (is := [(7, .iand, 1)]) (t' := (8, [some (.ref (b)), some (.int (nI j)), some (.int (nI q))], [.int (r &&& 2147483647)])) ⟨dL_in_7, trivial⟩ rfl ?_
  refine zw_run X (is := [(8, .iload_n 2, 1)]) (t' := (9, [some (.ref (b)), some (.int (nI j)), some (.int (nI q))], [.int (nI q), .int (r &&& 2147483647)])) ⟨dL_in_8, trivial⟩ rfl ?_
  rw [pk_and r 31 (by decide +kernel)]
  refine zw_rem X (nI_ne0 h0 (by omega)) (v := nI (r.toBitVec.toNat % 2 ^ 31 % q)) (pk_rem (Nat.mod_lt _ (by decide)) h0 (by omega)) dL_in_9 ?_
  exact zw_eret X hr dL_in_10 rfl ⟨_, rfl, Nat.mod_lt _ h0⟩ rfl

set_option maxHeartbeats 4000000 in
set_option maxRecDepth 100000 in
theorem c_word_0 {l : Launch} (hls : l.stackTraces = false) {D : va_G} {cy : Nat → ClassId} {wa : Nat → Nat} {N n : Nat} {ad : Nat → Nat} (hD : zD n ad) (hn : 40 ≤ n) (σ : zS)  (sz : Nat) : Met l yL_word (.code yL_word cL_word 1 (some (.object "java/lang/String")) :: zB) (zRm 0) (zPc [.int 0] D cy wa N n ad σ sz) (zQa (wa 0) D cy N n ad (σ) sz) 0 0 (zA n ad sz) := by
  refine z_met (by decide) hls (List.forall_mem_cons.mpr ⟨rfl, (fun _ h => nomatch h)⟩) (Nat.le_of_ble_eq_true rfl) (fun p_ e_ s_ m_ below_ meth_ c_ hsz hr X => ?_)
  have X : zX p_ l s_ m_ [.int 0].toArray meth_ c_ cL_word 1 RL D cy wa (zA n ad sz) := X
  have hAd : ∀ i, i < n → zA n ad sz (ad i) := fun i hi => Or.inl ⟨i, hi, rfl⟩
  refine zw_run X (is := [(0, .iload_n 0, 1)]) (t' := (1, [some (.int 0)], [.int 0])) ⟨dL_word_0, trivial⟩ rfl ?_
  refine zw_if_ne X (tgt := 9) dL_word_1 (by decide) (fun h_ => absurd rfl h_) (fun h_ => ?_)
  refine zw_lds X (tx := "creation") (q := wa 0) (X.2.2.2.2.2.2.2.2.2.1.2.1 ("WagonplayLaw", 116, "creation", 0) (by decide +kernel)) dL_word_4 ?_
  refine zw_go X (tgt := 41) dL_word_6 (by decide) ?_
  exact zw_aret X hr dL_word_41 rfl rfl

set_option maxHeartbeats 4000000 in
set_option maxRecDepth 100000 in
theorem c_word_1 {l : Launch} (hls : l.stackTraces = false) {D : va_G} {cy : Nat → ClassId} {wa : Nat → Nat} {N n : Nat} {ad : Nat → Nat} (hD : zD n ad) (hn : 40 ≤ n) (σ : zS)  (sz : Nat) : Met l yL_word (.code yL_word cL_word 1 (some (.object "java/lang/String")) :: zB) (zRm 0) (zPc [.int 1] D cy wa N n ad σ sz) (zQa (wa 1) D cy N n ad (σ) sz) 0 0 (zA n ad sz) := by
  refine z_met (by decide) hls (List.forall_mem_cons.mpr ⟨rfl, (fun _ h => nomatch h)⟩) (Nat.le_of_ble_eq_true rfl) (fun p_ e_ s_ m_ below_ meth_ c_ hsz hr X => ?_)
  have X : zX p_ l s_ m_ [.int 1].toArray meth_ c_ cL_word 1 RL D cy wa (zA n ad sz) := X
  have hAd : ∀ i, i < n → zA n ad sz (ad i) := fun i hi => Or.inl ⟨i, hi, rfl⟩
  refine zw_run X (is := [(0, .iload_n 0, 1)]) (t' := (1, [some (.int 1)], [.int 1])) ⟨dL_word_0, trivial⟩ rfl ?_
  refine zw_if_ne X (tgt := 9) dL_word_1 (by decide) (fun h_ => ?_) (fun h_ => absurd h_ (by decide))
  refine zw_run X (is := [(9, .iload_n 0, 1), (10, .iconst 1, 1)]) (t' := (11, [some (.int 1)], [.int 1, .int 1])) ⟨dL_word_9, dL_word_10, trivial⟩ rfl ?_
  refine zw_icmp_ne X (tgt := 19) dL_word_11 (by decide) (fun h_ => absurd rfl h_) (fun h_ => ?_)
  refine zw_lds X (tx := "flood") (q := wa 1) (X.2.2.2.2.2.2.2.2.2.1.2.1 ("WagonplayLaw", 118, "flood", 1) (by decide +kernel)) dL_word_14 ?_
  refine zw_go X (tgt := 41) dL_word_16 (by decide) ?_
  exact zw_aret X hr dL_word_41 rfl rfl

set_option maxHeartbeats 4000000 in
set_option maxRecDepth 100000 in
theorem c_word_2 {l : Launch} (hls : l.stackTraces = false) {D : va_G} {cy : Nat → ClassId} {wa : Nat → Nat} {N n : Nat} {ad : Nat → Nat} (hD : zD n ad) (hn : 40 ≤ n) (σ : zS)  (sz : Nat) : Met l yL_word (.code yL_word cL_word 1 (some (.object "java/lang/String")) :: zB) (zRm 0) (zPc [.int 2] D cy wa N n ad σ sz) (zQa (wa 2) D cy N n ad (σ) sz) 0 0 (zA n ad sz) := by
  refine z_met (by decide) hls (List.forall_mem_cons.mpr ⟨rfl, (fun _ h => nomatch h)⟩) (Nat.le_of_ble_eq_true rfl) (fun p_ e_ s_ m_ below_ meth_ c_ hsz hr X => ?_)
  have X : zX p_ l s_ m_ [.int 2].toArray meth_ c_ cL_word 1 RL D cy wa (zA n ad sz) := X
  have hAd : ∀ i, i < n → zA n ad sz (ad i) := fun i hi => Or.inl ⟨i, hi, rfl⟩
  refine zw_run X (is := [(0, .iload_n 0, 1)]) (t' := (1, [some (.int 2)], [.int 2])) ⟨dL_word_0, trivial⟩ rfl ?_
  refine zw_if_ne X (tgt := 9) dL_word_1 (by decide) (fun h_ => ?_) (fun h_ => absurd h_ (by decide))
  refine zw_run X (is := [(9, .iload_n 0, 1), (10, .iconst 1, 1)]) (t' := (11, [some (.int 2)], [.int 1, .int 2])) ⟨dL_word_9, dL_word_10, trivial⟩ rfl ?_
  refine zw_icmp_ne X (tgt := 19) dL_word_11 (by decide) (fun h_ => ?_) (fun h_ => absurd h_ (by decide))
  refine zw_run X (is := [(19, .iload_n 0, 1), (20, .iconst 2, 1)]) (t' := (21, [some (.int 2)], [.int 2, .int 2])) ⟨dL_word_19, dL_word_20, trivial⟩ rfl ?_
  refine zw_icmp_ne X (tgt := 29) dL_word_21 (by decide) (fun h_ => absurd rfl h_) (fun h_ => ?_)
  refine zw_lds X (tx := "birth") (q := wa 2) (X.2.2.2.2.2.2.2.2.2.1.2.1 ("WagonplayLaw", 120, "birth", 2) (by decide +kernel)) dL_word_24 ?_
  refine zw_go X (tgt := 41) dL_word_26 (by decide) ?_
  exact zw_aret X hr dL_word_41 rfl rfl

set_option maxHeartbeats 4000000 in
set_option maxRecDepth 100000 in
theorem c_word_3 {l : Launch} (hls : l.stackTraces = false) {D : va_G} {cy : Nat → ClassId} {wa : Nat → Nat} {N n : Nat} {ad : Nat → Nat} (hD : zD n ad) (hn : 40 ≤ n) (σ : zS)  (sz : Nat) : Met l yL_word (.code yL_word cL_word 1 (some (.object "java/lang/String")) :: zB) (zRm 0) (zPc [.int 3] D cy wa N n ad σ sz) (zQa (wa 3) D cy N n ad (σ) sz) 0 0 (zA n ad sz) := by
  refine z_met (by decide) hls (List.forall_mem_cons.mpr ⟨rfl, (fun _ h => nomatch h)⟩) (Nat.le_of_ble_eq_true rfl) (fun p_ e_ s_ m_ below_ meth_ c_ hsz hr X => ?_)
  have X : zX p_ l s_ m_ [.int 3].toArray meth_ c_ cL_word 1 RL D cy wa (zA n ad sz) := X
  have hAd : ∀ i, i < n → zA n ad sz (ad i) := fun i hi => Or.inl ⟨i, hi, rfl⟩
  refine zw_run X (is := [(0, .iload_n 0, 1)]) (t' := (1, [some (.int 3)], [.int 3])) ⟨dL_word_0, trivial⟩ rfl ?_
  refine zw_if_ne X (tgt := 9) dL_word_1 (by decide) (fun h_ => ?_) (fun h_ => absurd h_ (by decide))
  refine zw_run X (is := [(9, .iload_n 0, 1), (10, .iconst 1, 1)]) (t' := (11, [some (.int 3)], [.int 1, .int 3])) ⟨dL_word_9, dL_word_10, trivial⟩ rfl ?_
  refine zw_icmp_ne X (tgt := 19) dL_word_11 (by decide) (fun h_ => ?_) (fun h_ => absurd h_ (by decide))
  refine zw_run X (is := [(19, .iload_n 0, 1), (20, .iconst 2, 1)]) (t' := (21, [some (.int 3)], [.int 2, .int 3])) ⟨dL_word_19, dL_word_20, trivial⟩ rfl ?_
  refine zw_icmp_ne X (tgt := 29) dL_word_21 (by decide) (fun h_ => ?_) (fun h_ => absurd h_ (by decide))
  refine zw_run X (is := [(29, .iload_n 0, 1), (30, .iconst 3, 1)]) (t' := (31, [some (.int 3)], [.int 3, .int 3])) ⟨dL_word_29, dL_word_30, trivial⟩ rfl ?_
  refine zw_icmp_ne X (tgt := 39) dL_word_31 (by decide) (fun h_ => absurd rfl h_) (fun h_ => ?_)
  refine zw_lds X (tx := "passion") (q := wa 3) (X.2.2.2.2.2.2.2.2.2.1.2.1 ("WagonplayLaw", 122, "passion", 3) (by decide +kernel)) dL_word_34 ?_
  refine zw_go X (tgt := 41) dL_word_36 (by decide) ?_
  exact zw_aret X hr dL_word_41 rfl rfl

set_option maxHeartbeats 4000000 in
set_option maxRecDepth 100000 in
theorem c_word_4 {l : Launch} (hls : l.stackTraces = false) {D : va_G} {cy : Nat → ClassId} {wa : Nat → Nat} {N n : Nat} {ad : Nat → Nat} (hD : zD n ad) (hn : 40 ≤ n) (σ : zS)  (sz : Nat) : Met l yL_word (.code yL_word cL_word 1 (some (.object "java/lang/String")) :: zB) (zRm 0) (zPc [.int 4] D cy wa N n ad σ sz) (zQa (wa 4) D cy N n ad (σ) sz) 0 0 (zA n ad sz) := by
  refine z_met (by decide) hls (List.forall_mem_cons.mpr ⟨rfl, (fun _ h => nomatch h)⟩) (Nat.le_of_ble_eq_true rfl) (fun p_ e_ s_ m_ below_ meth_ c_ hsz hr X => ?_)
  have X : zX p_ l s_ m_ [.int 4].toArray meth_ c_ cL_word 1 RL D cy wa (zA n ad sz) := X
  have hAd : ∀ i, i < n → zA n ad sz (ad i) := fun i hi => Or.inl ⟨i, hi, rfl⟩
  refine zw_run X (is := [(0, .iload_n 0, 1)]) (t' := (1, [some (.int 4)], [.int 4])) ⟨dL_word_0, trivial⟩ rfl ?_
  refine zw_if_ne X (tgt := 9) dL_word_1 (by decide) (fun h_ => ?_) (fun h_ => absurd h_ (by decide))
  refine zw_run X (is := [(9, .iload_n 0, 1), (10, .iconst 1, 1)]) (t' := (11, [some (.int 4)], [.int 1, .int 4])) ⟨dL_word_9, dL_word_10, trivial⟩ rfl ?_
  refine zw_icmp_ne X (tgt := 19) dL_word_11 (by decide) (fun h_ => ?_) (fun h_ => absurd h_ (by decide))
  refine zw_run X (is := [(19, .iload_n 0, 1), (20, .iconst 2, 1)]) (t' := (21, [some (.int 4)], [.int 2, .int 4])) ⟨dL_word_19, dL_word_20, trivial⟩ rfl ?_
  refine zw_icmp_ne X (tgt := 29) dL_word_21 (by decide) (fun h_ => ?_) (fun h_ => absurd h_ (by decide))
  refine zw_run X (is := [(29, .iload_n 0, 1), (30, .iconst 3, 1)]) (t' := (31, [some (.int 4)], [.int 3, .int 4])) ⟨dL_word_29, dL_word_30, trivial⟩ rfl ?_
  refine zw_icmp_ne X (tgt := 39) dL_word_31 (by decide) (fun h_ => ?_) (fun h_ => absurd h_ (by decide))
  refine zw_lds X (tx := "doom") (q := wa 4) (X.2.2.2.2.2.2.2.2.2.1.2.1 ("WagonplayLaw", 124, "doom", 4) (by decide +kernel)) dL_word_39 ?_
  exact zw_aret X hr dL_word_41 rfl rfl

theorem c_word {l : Launch} (hls : l.stackTraces = false) {D : va_G} {cy : Nat → ClassId} {wa : Nat → Nat} {N n : Nat} {ad : Nat → Nat} (hD : zD n ad) (hn : 40 ≤ n) (σ : zS) : ∀ (k : Nat) (_ : k < 5) (sz : Nat), Met l yL_word (.code yL_word cL_word 1 (some (.object "java/lang/String")) :: zB) (zRm 0) (zPc [.int (nI k)] D cy wa N n ad σ sz) (zQa (wa k) D cy N n ad σ sz) 0 0 (zA n ad sz)
  | 0, _, sz => c_word_0 hls hD hn σ sz
  | 1, _, sz => c_word_1 hls hD hn σ sz
  | 2, _, sz => c_word_2 hls hD hn σ sz
  | 3, _, sz => c_word_3 hls hD hn σ sz
  | 4, _, sz => c_word_4 hls hD hn σ sz
  | k + 5, h, _ => absurd h (by omega)

def zty (σ : zS) (k : Nat) : Nat → zS
  | 0 => zu σ 4 1 0
  | j + 1 => zu (zu (zty σ k j) 5 j ((zbyt k).getD j 0)) 4 1 (zu (zty σ k j) 5 j ((zbyt k).getD j 0) 4 1 + 1)
theorem zty_c (σ : zS) (k : Nat) : ∀ j, zty σ k j 4 1 = nI j
  | 0 => zu_s
  | j + 1 => by
    show zu (zu (zty σ k j) 5 j _) 4 1 _ 4 1 = _
    rw [zu_s, zu_n (by omega), zty_c σ k j, nI_1]
theorem zty_n (σ : zS) (k : Nat) {a b : Nat} (h5 : a ≠ 5) (h4 : ¬ (a = 4 ∧ b = 1)) : ∀ j, zty σ k j a b = σ a b
  | 0 => zu_n h4
  | j + 1 => by
    show zu (zu (zty σ k j) 5 j _) 4 1 _ a b = _
    rw [zu_n h4, zu_n (fun q => h5 q.1), zty_n σ k h5 h4 j]
theorem zty_l (σ : zS) (k : Nat) : ∀ j i, i < j → zty σ k j 5 i = (zbyt k).getD i 0
  | j + 1, i, h => by
    show zu (zu (zty σ k j) 5 j _) 4 1 _ 5 i = _
    rw [zu_n (by omega)]
    by_cases e : i = j
    · subst e
      exact zu_s
    · rw [zu_n (fun q => e q.2), zty_l σ k j i (by omega)]
theorem zch2 : ∀ k, k < 6 → ∀ j, j < zlen k → ¬ (zbyt k).getD j 0 < 97 ∧ (zbyt k).getD j 0 ≤ 122 ∧ vp_nar .char ((zbyt k).getD j 0) = (zbyt k).getD j 0 := by decide +kernel

set_option maxHeartbeats 4000000 in
set_option maxRecDepth 100000 in
theorem lp_types {p : Program} {l : Launch} {e : Env} {R : Room} {s : State} {m : MethodId} {args : Array Value} {below : List Frame} {meth : Method} {c : Code} {D : va_G} {cy : Nat → ClassId} {wa : Nat → Nat} {N : Nat} {A : Nat → Prop} {n : Nat} {ad : Nat → Nat} {cells slots : Nat} {Q : State → Prop} (X : zX p l s m args meth c cL_types 5 RL D cy wa A) (hD : zD n ad) (hAd : ∀ i, i < n → A (ad i)) (hn : 40 ≤ n) (σ : zS) (hls : l.stackTraces = false) (hR : 6 ≤ R.frames ∧ 200 ≤ R.locals ∧ cells ≤ R.cells ∧ slots ≤ R.slots) (k : Nat) (hk : k < 6) (had : Int32)  (kk : zW p l e R s m args below meth c D cy N A n ad cells slots Q (58, [some (.ref (ad 0)), some (.ref (wa k)), some (.int had), some (.int 1), some (.int (nI (zlen k)))], []) (zty σ k (zlen k))) : ∀ (d j : Nat), j + d = zlen k → zW p l e R s m args below meth c D cy N A n ad cells slots Q (18, [some (.ref (ad 0)), some (.ref (wa k)), some (.int had), some (.int 1), some (.int (nI j))], []) (zty σ k j) := by
  have h48 := zlen_le k hk
  intro d
  induction d with
  | zero =>
    intro j hj
    obtain rfl : j = zlen k := by omega
    refine zw_run X (is := [(18, .iload 4, 2), (20, .aload_n 1, 1)]) (t' := (21, [some (.ref (ad 0)), some (.ref (wa k)), some (.int had), some (.int 1), some (.int (nI (zlen k)))], [.ref (wa k), .int (nI (zlen k))])) ⟨dL_types_18, dL_types_20, trivial⟩ rfl ?_
    refine zw_Gi X hAd (As := []) (rest := [.int (nI (zlen k))]) (d := 1) (zE_at k hk _ _ _ X.2.2.2.2.2.2.2.2.1).1 ⟨zm_325, zm_168, zm_169, zm_170, zm_171, rfl, by decide, by decide, (show (parseMethodDescriptor yJ0_length_8abf5.desc).map (fun d => d.parameters.length) = some 0 by decide +kernel)⟩ (fun sz => c_length hls hD hn (zty σ k (zlen k)) (wa k) (wa (10 + k)) (zlen k) (zbyt k) (by have := zlen_le k hk; omega) (zE_at k hk) sz) rfl rfl (Nat.le_of_ble_eq_true rfl) ⟨by omega, by omega⟩ ⟨hR.2.2.1, hR.2.2.2⟩ dL_types_21 ?_
    refine zw_icmp_ge X (tgt := 58) dL_types_24 (by decide) (fun _ => ?_) (fun h_ => absurd (nI_le (Nat.le_refl _) (by omega)) h_)
    exact kk
  | succ d ih =>
    intro j hj
    obtain ⟨g1, g2, g3⟩ := zch2 k hk j (by omega)
    refine zw_run X (is := [(18, .iload 4, 2), (20, .aload_n 1, 1)]) (t' := (21, [some (.ref (ad 0)), some (.ref (wa k)), some (.int had), some (.int 1), some (.int (nI j))], [.ref (wa k), .int (nI j)])) ⟨dL_types_18, dL_types_20, trivial⟩ rfl ?_
    refine zw_Gi X hAd (As := []) (rest := [.int (nI j)]) (d := 1) (zE_at k hk _ _ _ X.2.2.2.2.2.2.2.2.1).1 ⟨zm_325, zm_168, zm_169, zm_170, zm_171, rfl, by decide, by decide, (show (parseMethodDescriptor yJ0_length_8abf5.desc).map (fun d => d.parameters.length) = some 0 by decide +kernel)⟩ (fun sz => c_length hls hD hn (zty σ k j) (wa k) (wa (10 + k)) (zlen k) (zbyt k) (by have := zlen_le k hk; omega) (zE_at k hk) sz) rfl rfl (Nat.le_of_ble_eq_true rfl) ⟨by omega, by omega⟩ ⟨hR.2.2.1, hR.2.2.2⟩ dL_types_21 ?_
    refine zw_icmp_ge X (tgt := 58) dL_types_24 (by decide) (fun h_ => absurd h_ (nI_ge (by omega) (by omega))) (fun _ => ?_)
    refine zw_run X (is := [(27, .iload_n 3, 1), (28, .aload_n 0, 1), (29, .aload_n 1, 1), (30, .iload 4, 2)]) (t' := (32, [some (.ref (ad 0)), some (.ref (wa k)), some (.int had), some (.int 1), some (.int (nI j))], [.int (nI j), .ref (wa k), .ref (ad 0), .int 1])) ⟨dL_types_27, dL_types_28, dL_types_29, dL_types_30, trivial⟩ rfl ?_
    refine zw_Gi X hAd (As := [.int (nI j)]) (rest := [.ref (ad 0), .int 1]) (d := 3) (zE_at k hk _ _ _ X.2.2.2.2.2.2.2.2.1).1 ⟨zm_326, zm_180, zm_181, zm_170, zm_182, rfl, by decide, by decide, (show (parseMethodDescriptor yJ0_charAt_5068e.desc).map (fun d => d.parameters.length) = some 1 by decide +kernel)⟩ (fun sz => c_charAt hls hD hn (zty σ k j) (wa k) (wa (10 + k)) (zlen k) (zbyt k) (by have := zlen_le k hk; omega) (zE_at k hk) j (by omega) (zch k hk j (by omega)) sz) rfl rfl (Nat.le_of_ble_eq_true rfl) ⟨by omega, by omega⟩ ⟨hR.2.2.1, hR.2.2.2⟩ dL_types_32 ?_
    refine zw_SWi X hAd (As := [.ref (ad 0), .int ((zbyt k).getD j 0)]) (rest := [.int 1]) (rm := zRm 3) (mc := 0) (ms := 0) ⟨zm_216, zm_217, zm_91, zm_218, by decide, by decide, (show (parseMethodDescriptor yL_type.desc).map (fun d => d.parameters.length) = some 2 by decide +kernel)⟩ ⟨rfl, rfl⟩ (fun sz => w_type hls hD hn (zty σ k j) j (by omega) (zty_c σ k j) ((zbyt k).getD j 0) g1 g2 g3 sz) rfl rfl (Nat.le_of_ble_eq_true rfl) ⟨by show (3 : Nat) + 1 ≤ _; omega, by show 8 + (3 + 11) + 40 * 3 ≤ _; omega⟩ ⟨hR.2.2.1, hR.2.2.2⟩ dL_types_35 ?_
    refine zw_run X (is := [(38, .iload 4, 2), (40, .iconst 1, 1), (41, .iadd, 1)]) (t' := (42, [some (.ref (ad 0)), some (.ref (wa k)), some (.int had), some (.int 1), some (.int (nI j))], [.int ((nI j) + 1), .int (nI (j + 1)), .int 1])) ⟨dL_types_38, dL_types_40, dL_types_41, trivial⟩ rfl ?_
    refine zw_icmp_ne X (tgt := 49) dL_types_42 (by decide) (fun h_ => absurd (nI_1 j).symm h_) (fun h_ => ?_)
    refine zw_run X (is := [(45, .iconst 1, 1)]) (t' := (46, [some (.ref (ad 0)), some (.ref (wa k)), some (.int had), some (.int 1), some (.int (nI j))], [.int 1, .int 1])) ⟨dL_types_45, trivial⟩ rfl ?_
    refine zw_go X (tgt := 50) dL_types_46 (by decide) ?_
    refine zw_run X (is := [(50, .iand, 1)]) (t' := (51, [some (.ref (ad 0)), some (.ref (wa k)), some (.int had), some (.int 1), some (.int (nI j))], [.int (1 &&& 1)])) ⟨dL_types_50, trivial⟩ rfl ?_
    rw [show (1 : Int32) &&& 1 = 1 from rfl]
    refine zw_run X (is := [(51, .istore_n 3, 1), (52, .iinc 4 1, 3)]) (t' := (55, [some (.ref (ad 0)), some (.ref (wa k)), some (.int had), some (.int 1), some (.int (nI j + 1))], [])) ⟨dL_types_51, dL_types_52, trivial⟩ rfl ?_
    refine zw_go X (tgt := 18) dL_types_55 (by decide) ?_
    rw [nI_1]
    exact ih (j + 1) (by omega)

set_option maxHeartbeats 4000000 in
set_option maxRecDepth 100000 in
theorem c_types {l : Launch} (hls : l.stackTraces = false) {D : va_G} {cy : Nat → ClassId} {wa : Nat → Nat} {N n : Nat} {ad : Nat → Nat} (hD : zD n ad) (hn : 40 ≤ n) (σ : zS) (k : Nat) (hk : k < 6) (h0 : ¬ σ 4 1 < 0) (sz : Nat) : Met l yL_types (.code yL_types cL_types 5 (some .boolean) :: zB) (zRm 6) (zPc [.ref (ad 0), .ref (wa k)] D cy wa N n ad σ sz) (zQi (1) D cy N n ad (zty σ k (zlen k)) sz) 0 0 (zA n ad sz) := by
  refine z_met (by decide) hls (List.forall_mem_cons.mpr ⟨rfl, (List.forall_mem_cons.mpr ⟨rfl, (fun _ h => nomatch h)⟩)⟩) (Nat.le_of_ble_eq_true rfl) (fun p_ e_ s_ m_ below_ meth_ c_ hsz hr X => ?_)
  have X : zX p_ l s_ m_ [.ref (ad 0), .ref (wa k)].toArray meth_ c_ cL_types 5 RL D cy wa (zA n ad sz) := X
  have hAd : ∀ i, i < n → zA n ad sz (ad i) := fun i hi => Or.inl ⟨i, hi, rfl⟩
  refine zw_run X (is := [(0, .aload_n 0, 1)]) (t' := (1, [some (.ref (ad 0)), some (.ref (wa k)), none, none, none], [.ref (ad 0)])) ⟨dL_types_0, trivial⟩ rfl ?_
  refine zw_Vi X hAd (As := []) (rest := []) (d := 2) (i := 0) (by omega) zc_0 (q := (RX7, TX7, 16)) rfl ⟨zm_321, zm_322, zm_323, zm_2, zm_324, rfl, by decide, by decide, (show (parseMethodDescriptor yX7_wipe.desc).map (fun d => d.parameters.length) = some 0 by decide +kernel)⟩ (fun sz => c_wipe hls hD hn σ sz) rfl rfl (Nat.le_of_ble_eq_true rfl) ⟨Nat.le_of_ble_eq_true rfl, Nat.le_of_ble_eq_true rfl⟩ ⟨Nat.zero_le _, Nat.zero_le _⟩ dL_types_1 ?_
  refine zw_run X (is := [(4, .istore_n 2, 1), (5, .iload_n 2, 1)]) (t' := (6, [some (.ref (ad 0)), some (.ref (wa k)), some (.int (σ 4 1)), none, none], [.int (σ 4 1)])) ⟨dL_types_4, dL_types_5, trivial⟩ rfl ?_
  refine zw_if_lt X (tgt := 13) dL_types_6 (by decide) (fun h_ => absurd h_ h0) (fun _ => ?_)
  refine zw_run X (is := [(9, .iconst 1, 1)]) (t' := (10, [some (.ref (ad 0)), some (.ref (wa k)), some (.int (σ 4 1)), none, none], [.int 1])) ⟨dL_types_9, trivial⟩ rfl ?_
  refine zw_go X (tgt := 14) dL_types_10 (by decide) ?_
  refine zw_run X (is := [(14, .istore_n 3, 1), (15, .iconst 0, 1), (16, .istore 4, 2)]) (t' := (18, [some (.ref (ad 0)), some (.ref (wa k)), some (.int (σ 4 1)), some (.int 1), some (.int 0)], [])) ⟨dL_types_14, dL_types_15, dL_types_16, trivial⟩ rfl ?_
  refine lp_types X hD hAd hn σ hls ⟨Nat.le_of_ble_eq_true rfl, Nat.le_of_ble_eq_true rfl, Nat.zero_le _, Nat.zero_le _⟩ k hk (σ 4 1) ?_ (zlen k) 0 (by omega)
  refine zw_run X (is := [(58, .iload_n 3, 1)]) (t' := (59, [some (.ref (ad 0)), some (.ref (wa k)), some (.int (σ 4 1)), some (.int 1), some (.int (nI (zlen k)))], [.int 1])) ⟨dL_types_58, trivial⟩ rfl ?_
  exact zw_zret X hr dL_types_59 rfl rfl rfl rfl
