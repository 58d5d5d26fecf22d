/-! The law's own small methods: what they catch. -/
theorem z_metH {l : Launch} {y : MethodName} {bytes : ByteArray} {maxL : Nat} {ret : Option FieldType} {hh : List (Nat × Nat × Nat × Nat)} {rm : Room} {av : List Value} {D : va_G} {cy : Nat → ClassId} {wa : Nat → Nat} {N n : Nat} {ad : Nat → Nat} {σ : zS} {sz mc ms : Nat} {Qc : Array Value → State → Outcome → State → Prop}
    (hy : plainName y.cls = true) (hls : l.stackTraces = false) (hc : ∀ v ∈ av, v.category = 1) (hn : av.length ≤ maxL)
    (body : ∀ (p : Program) (e : Env) (s : State) (m : MethodId) (below : List Frame) (meth : Method) (c : Code), s.heap.size = sz → meth.sig.returnType = ret → c.exceptionTable.toList = tableOf hh → zX p l s m av.toArray meth c bytes maxL y.cls D cy wa (zA n ad sz) →
      zW p l e rm s m av.toArray below meth c D cy N (zA n ad sz) n ad 0 0 (MQ below Qc av.toArray s mc ms (zA n ad sz)) (0, av.map some ++ List.replicate (maxL - av.length) none, []) σ) :
    Met l y (.codeWith y bytes maxL ret hh :: zB) rm (zPc av D cy wa N n ad σ sz) Qc mc ms (zA n ad sz) := by
  refine MetFree.of_bodyS (code := bytes) (maxLocals := maxL) (ret := ret) hy ?_ ?_
  · intro args s m h hn2
    obtain ⟨m9, meth, c, hn9, h1, h2, h3, h4, -, h5, h6, -⟩ := Cond.codeWith_spec (atoms_spec (ws := .codeWith y bytes maxL ret hh :: zB) h _ List.mem_cons_self)
    cases hn2.symm.trans hn9
    exact ⟨meth, c, h1, h2, h3, h4, h5, h6⟩
  · intro p e s m args below meth c s₁ B hml hP _
    have hh0 : s₁.heap = s.heap := by rw [B.state]; rfl
    have hts := atoms_spec (ws := .codeWith y bytes maxL ret hh :: zB) B.pre
    have ht := vx_table (x := y) B (hts _ List.mem_cons_self)
    obtain ⟨rfl, hsz, hP, hK, hE, hM⟩ := hP
    have hX : zX p l s m av.toArray meth c bytes maxL y.cls D cy wa (zA n ad sz) := ⟨B.exec, B.bytes, hml, findClass_of_methodNamed B.named, fun w hw => hts w (List.mem_cons_of_mem _ hw), B.notSynchronized, hK, fun q h => Or.inr (by rw [← hsz]; exact h), hE, hM, hls⟩
    have hb := body p e s m below meth c hsz B.returns ht hX s.heap [] hP va_S.rf _ (zl_entry av hc hn)
    rw [← lg_entry_eq] at hb
    obtain ⟨t, a1, o, b1, b2, b3⟩ := hb s₁ hh0 (Stand.of_body B)
    exact ⟨t, o, a1, b1, b2, ⟨b3.1, b3.2⟩⟩
section ZH
variable {p : Program} {l : Launch} {e : Env} {R : Room} {s : State} {m : MethodId} {args : Array Value} {below : List Frame} {meth : Method} {c : Code} {D : va_G} {cy : Nat → ClassId} {wa : Nat → Nat} {N : Nat} {A : Nat → Prop} {n : Nat} {ad : Nat → Nat} {cells slots : Nat} {Q : State → Prop} {σ σ' : zS}
variable {cc : ByteArray} {nL : Nat} {own : String} {pc : Nat} {L : List (Option Value)} {rest st0 : List Value}
variable {y : MethodName} {bytes : ByteArray} {maxL index d : Nat} {ret : Option FieldType} {As : List Value} {ans : Int32}
/-- a call that throws, caught here: x is the row of the table that takes it -/
theorem zw_catch (X : zX p l s m args meth c cc nL own D cy wa A) (hAd : ∀ i, i < n → A (ad i)) {hh : List (Nat × Nat × Nat × Nat)} (ht : c.exceptionTable.toList = tableOf hh) {E : String} (hE : E ∈ zCs) (pre suf : List (Nat × Nat × Nat × Nat)) (x : Nat × Nat × Nat × Nat) (hsp : hh = pre ++ x :: suf)
    (hpass : ∀ z ∈ pre, z.2.2.2 ≠ 0 ∧ ∃ nm : String, Cond.classLink own z.2.2.2 nm ∈ zB ∧ (E, nm) ∈ zNs) (hx : x.1 ≤ pc ∧ pc < x.2.1) (h0 : x.2.2.2 ≠ 0) (hlink : Cond.classLink own x.2.2.2 E ∈ zB)
    {i : Nat} (hi : i < n) {ci : Nat} {fs : List Value} (he : zc cy N ad i (σ i) = .inr (ci, fs)) {q : vw_C} (hc : vwCl[ci]? = some q) (h5 : zV5 own q.1 index y bytes maxL ret As.length)
    (hM : ∀ sz, vx_Met l y (.code y bytes maxL ret :: zB) (zRx d) (zPc (.ref (ad i) :: As) D cy wa N n ad σ sz) zNo (zXC E D cy N n ad σ sz) 1 6 (zA n ad sz)) (hst : st0 = As.reverse ++ .ref (ad i) :: rest) (hnL : L.length = nL) (hrm : (rest.map fun v => v.category).sum ≤ 8) (hR : 6 + d + 1 ≤ R.frames ∧ 8 + (maxL + 11) + (120 + 40 * d) ≤ R.locals) (hf : cells + 1 ≤ R.cells ∧ slots + 6 ≤ R.slots) (hdg : decode cc pc = .ok (.invokevirtual index, 3))
    (kk : ∀ q9 : Nat, zW p l e R s m args below meth c D cy N A n ad (cells + 1) (slots + 6) Q (x.2.2.1, L, [.ref q9]) σ) : zW p l e R s m args below meth c D cy N A n ad cells slots Q (pc, L, st0) σ := by
  subst hst
  obtain ⟨w1, w2, w3, w4, w5, w6, w7, w8, w9⟩ := h5
  refine zw_callx X hAd (rest := rest) (mc := 1) (ms := 6) (fun H locs ls hP hS hl => vx_runV ⟨X.1, X.2.1, X.2.2.1, X.2.2.2.1, X.2.2.2.2.1⟩ (hM H.size) (cwV As.length X.2.2.2.2.1 (z_gV w1 w2 w3 w4 w5) rfl rfl rfl ⟨w6, w7, w8, w9⟩ hR) ⟨zPc_blind, zw_recv X hP hi he hc, zPc_of X hAd hS hP _⟩ rfl rfl (hl.1.trans hnL) rfl (lv_room hrm) hdg hf) (fun H1 locs1 ls ce q9 hP hS hl hce hcv hcl => ?_)
  obtain ⟨hx1, hb, hml, hown, hts, hlk, hK, hA, hE1, hM1, hls⟩ := X
  refine vx_catch hown (tableOf pre) ⟨x.1, x.2.1, x.2.2.1, x.2.2.2⟩ (tableOf suf) (by rw [ht, hsp]; simp [tableOf]) (fun z hz => Or.inr ?_) (by simp [covers, hx.1, hx.2]) h0 (hts _ hlink) (va_Nw.use rfl (hM1.2.2.2.1 E hE)) hce hcv hcl (kk q9 H1 locs1 hP hS ls hl)
  unfold tableOf at hz
  obtain ⟨z0, hz0, rfl⟩ := List.mem_map.mp hz
  obtain ⟨h1, nm, h2, h3⟩ := hpass z0 hz0
  exact ⟨h1, nm, hts _ h2, hM1.2.2.1 _ h3⟩
/-- a call of such a method -/
def zS6 (own : String) (index : Nat) (y : MethodName) (bytes : ByteArray) (maxL : Nat) (ret : Option FieldType) (hh : List (Nat × Nat × Nat × Nat)) (k : Nat) : Prop := Cond.methodLink own index y ∈ zB ∧ Cond.static y ∈ zB ∧ Cond.initialized y.cls ∈ zB ∧ Cond.codeWith y bytes maxL ret hh ∈ zB ∧ y.cls ≠ "java/lang/invoke/MethodHandle" ∧ y.cls ≠ "java/lang/invoke/VarHandle" ∧ (parseMethodDescriptor y.desc).map (fun d => d.parameters.length) = some k
theorem zw_SWi (X : zX p l s m args meth c cc nL own D cy wa A) (hAd : ∀ i, i < n → A (ad i)) {hh : List (Nat × Nat × Nat × Nat)} {rm : Room} {mc ms : Nat} (h5 : zS6 own index y bytes maxL ret hh As.length) (hrc : rm.cells = mc ∧ rm.slots = ms)
    (hM : ∀ sz, Met l y (.codeWith y bytes maxL ret hh :: zB) rm (zPc As D cy wa N n ad σ sz) (zQi ans D cy N n ad σ' sz) mc ms (zA n ad sz)) (hst : st0 = As.reverse ++ rest) (hnL : L.length = nL) (hrm : (rest.map fun v => v.category).sum ≤ 8) (hR : rm.frames + 1 ≤ R.frames ∧ 8 + (maxL + 11) + rm.locals ≤ R.locals) (hf : cells + mc ≤ R.cells ∧ slots + ms ≤ R.slots) (hdg : decode cc pc = .ok (.invokestatic index, 3))
    (kk : zW p l e R s m args below meth c D cy N A n ad (cells + mc) (slots + ms) Q (pc + 3, L, .int ans :: rest) σ') : zW p l e R s m args below meth c D cy N A n ad cells slots Q (pc, L, st0) σ := by
  subst hst
  obtain ⟨w1, w2, w4, w5, w7, w8, w9⟩ := h5
  exact zw_calli X hAd (mc := mc) (ms := ms) (ws := []) (y := y) (rm := rm) (av := As) (rest := rest) (fun H locs ls hP hS hl => vx_runSW ⟨X.1, X.2.1, X.2.2.1, X.2.2.2.1, X.2.2.2.2.1⟩ (hM H.size) (vx_cwSW As.length X.2.2.2.2.1 (z_gS w1 w2 w4 w5) rfl hrc.1 hrc.2 ⟨w7, w8, w9⟩ hR) ⟨zPc_blind, zPc_of X hAd hS hP _⟩ rfl rfl (hl.1.trans hnL) rfl (lv_room hrm) hdg hf) kk
end ZH

set_option maxHeartbeats 4000000 in
set_option maxRecDepth 100000 in
theorem w_addGuild {l : Launch} (hls : l.stackTraces = false) {D : va_G} {cy : Nat → ClassId} {wa : Nat → Nat} {N n : Nat} {ad : Nat → Nat} (hD : zD n ad) (hn : 40 ≤ n) (σ : zS) (gc : Nat) (hgc : gc < 8) (e0 : σ 0 11 = nI gc) (x y z : Int32) (h1 : ¬ x < 0) (h2 : x ≤ 9999) (h3 : ¬ y < 20) (h4 : y ≤ 400) (h5 : ¬ z < 1) (h6 : z ≤ 8)  (sz : Nat) : Met l yL_addGuild (.codeWith yL_addGuild cL_addGuild 5 (some .int) [(0, 7, 8, 15), (0, 7, 13, 18)] :: zB) (zRm 3) (zPc [.ref (ad 0), .int x, .int y, .int z] D cy wa N n ad σ sz) (zQi (nI gc) D cy N n ad (zu (zu (zu (zu (zu (zu (zu σ (8 + gc) 0 x) (16 + gc) 0 y) (16 + gc) 4 y) (16 + gc) 1 z) (0) 14 (((zu (zu (zu (zu σ (8 + gc) 0 x) (16 + gc) 0 y) (16 + gc) 4 y) (16 + gc) 1 z) (0) 14) + x)) (2) gc (nI gc)) (0) 11 (((zu (zu (zu (zu (zu (zu σ (8 + gc) 0 x) (16 + gc) 0 y) (16 + gc) 4 y) (16 + gc) 1 z) (0) 14 (((zu (zu (zu (zu σ (8 + gc) 0 x) (16 + gc) 0 y) (16 + gc) 4 y) (16 + gc) 1 z) (0) 14) + x)) (2) gc (nI gc)) (0) 11) + 1)) sz) 0 0 (zA n ad sz) := by
  refine z_metH (by decide) hls (List.forall_mem_cons.mpr ⟨rfl, (List.forall_mem_cons.mpr ⟨rfl, (List.forall_mem_cons.mpr ⟨rfl, (List.forall_mem_cons.mpr ⟨rfl, (fun _ h => nomatch h)⟩)⟩)⟩)⟩) (Nat.le_of_ble_eq_true rfl) (fun p_ e_ s_ m_ below_ meth_ c_ hsz hr ht X => ?_)
  have X : zX p_ l s_ m_ [.ref (ad 0), .int x, .int y, .int z].toArray meth_ c_ cL_addGuild 5 RL D cy wa (zA n ad sz) := X
  have hAd : ∀ i, i < n → zA n ad sz (ad i) := fun i hi => Or.inl ⟨i, hi, rfl⟩
  refine zw_run X (is := [(0, .aload_n 0, 1), (1, .iload_n 1, 1), (2, .iload_n 2, 1), (3, .iload_n 3, 1)]) (t' := (4, [some (.ref (ad 0)), some (.int x), some (.int y), some (.int z), none], [.int z, .int y, .int x, .ref (ad 0)])) ⟨dL_addGuild_0, dL_addGuild_1, dL_addGuild_2, dL_addGuild_3, trivial⟩ rfl ?_
  refine zw_Vi X hAd (As := [.int x, .int y, .int z]) (rest := []) (d := 2) (i := 0) (by omega) zc_0 (q := (RX7, TX7, 16)) rfl ⟨zm_104, zm_105, zm_106, zm_2, zm_107, rfl, by decide, by decide, (show (parseMethodDescriptor yX7_addGuild.desc).map (fun d => d.parameters.length) = some 3 by decide +kernel)⟩ (fun sz => c_addGuild hls hD hn σ gc hgc e0 x y z h1 h2 h3 h4 h5 h6 sz) rfl rfl (Nat.le_of_ble_eq_true rfl) ⟨Nat.le_of_ble_eq_true rfl, Nat.le_of_ble_eq_true rfl⟩ ⟨Nat.zero_le _, Nat.zero_le _⟩ dL_addGuild_4 ?_
  exact zw_iret X hr dL_addGuild_7 rfl rfl rfl

set_option maxHeartbeats 4000000 in
set_option maxRecDepth 100000 in
theorem w_addGuild_w {l : Launch} (hls : l.stackTraces = false) {D : va_G} {cy : Nat → ClassId} {wa : Nat → Nat} {N n : Nat} {ad : Nat → Nat} (hD : zD n ad) (hn : 40 ≤ n) (σ : zS) (y z : Int32) (sz : Nat) : Met l yL_addGuild (.codeWith yL_addGuild cL_addGuild 5 (some .int) [(0, 7, 8, 15), (0, 7, 13, 18)] :: zB) (zRx 3) (zPc [.ref (ad 0), .int 10000, .int y, .int z] D cy wa N n ad σ sz) (zQi ((-900001)) D cy N n ad (σ) sz) 1 6 (zA n ad sz) := by
  refine z_metH (by decide) hls (List.forall_mem_cons.mpr ⟨rfl, (List.forall_mem_cons.mpr ⟨rfl, (List.forall_mem_cons.mpr ⟨rfl, (List.forall_mem_cons.mpr ⟨rfl, (fun _ h => nomatch h)⟩)⟩)⟩)⟩) (Nat.le_of_ble_eq_true rfl) (fun p_ e_ s_ m_ below_ meth_ c_ hsz hr ht X => ?_)
  have X : zX p_ l s_ m_ [.ref (ad 0), .int 10000, .int y, .int z].toArray meth_ c_ cL_addGuild 5 RL D cy wa (zA n ad sz) := X
  have hAd : ∀ i, i < n → zA n ad sz (ad i) := fun i hi => Or.inl ⟨i, hi, rfl⟩
  refine zw_run X (is := [(0, .aload_n 0, 1), (1, .iload_n 1, 1), (2, .iload_n 2, 1), (3, .iload_n 3, 1)]) (t' := (4, [some (.ref (ad 0)), some (.int 10000), some (.int y), some (.int z), none], [.int z, .int y, .int 10000, .ref (ad 0)])) ⟨dL_addGuild_0, dL_addGuild_1, dL_addGuild_2, dL_addGuild_3, trivial⟩ rfl ?_
  refine zw_catch X hAd ht (E := "java/lang/IllegalArgumentException") (by decide +kernel) [] [(0, 7, 13, 18)] (0, 7, 8, 15) rfl (fun _ h => nomatch h) ⟨by decide, by decide⟩ (by decide) zm_102 (As := [.int 10000, .int y, .int z]) (rest := []) (d := 2) (i := 0) (by omega) zc_0 (q := (RX7, TX7, 16)) rfl ⟨zm_104, zm_105, zm_106, zm_2, zm_107, rfl, by decide, by decide, (show (parseMethodDescriptor yX7_addGuild.desc).map (fun d => d.parameters.length) = some 3 by decide +kernel)⟩ (fun sz => c_addGuild_w hls hD hn σ y z sz) rfl rfl (Nat.le_of_ble_eq_true rfl) ⟨Nat.le_of_ble_eq_true rfl, Nat.le_of_ble_eq_true rfl⟩ ⟨Nat.le_of_ble_eq_true rfl, Nat.le_of_ble_eq_true rfl⟩ dL_addGuild_4 (fun q9 => ?_)
  refine zw_run X (is := [(8, .astore 4, 2)]) (t' := (10, [some (.ref (ad 0)), some (.int 10000), some (.int y), some (.int z), some (.ref (q9))], [])) ⟨dL_addGuild_8, trivial⟩ rfl ?_
  refine zw_ldc X (v := (-900001)) zm_8 dL_addGuild_10 ?_
  exact zw_iret X hr dL_addGuild_12 rfl rfl rfl

set_option maxHeartbeats 4000000 in
set_option maxRecDepth 100000 in
theorem w_addGuild_l {l : Launch} (hls : l.stackTraces = false) {D : va_G} {cy : Nat → ClassId} {wa : Nat → Nat} {N n : Nat} {ad : Nat → Nat} (hD : zD n ad) (hn : 40 ≤ n) (σ : zS) (x z : Int32) (h1 : ¬ x < 0) (h2 : x ≤ 9999) (sz : Nat) : Met l yL_addGuild (.codeWith yL_addGuild cL_addGuild 5 (some .int) [(0, 7, 8, 15), (0, 7, 13, 18)] :: zB) (zRx 3) (zPc [.ref (ad 0), .int x, .int 19, .int z] D cy wa N n ad σ sz) (zQi ((-900001)) D cy N n ad (σ) sz) 1 6 (zA n ad sz) := by
  refine z_metH (by decide) hls (List.forall_mem_cons.mpr ⟨rfl, (List.forall_mem_cons.mpr ⟨rfl, (List.forall_mem_cons.mpr ⟨rfl, (List.forall_mem_cons.mpr ⟨rfl, (fun _ h => nomatch h)⟩)⟩)⟩)⟩) (Nat.le_of_ble_eq_true rfl) (fun p_ e_ s_ m_ below_ meth_ c_ hsz hr ht X => ?_)
  have X : zX p_ l s_ m_ [.ref (ad 0), .int x, .int 19, .int z].toArray meth_ c_ cL_addGuild 5 RL D cy wa (zA n ad sz) := X
  have hAd : ∀ i, i < n → zA n ad sz (ad i) := fun i hi => Or.inl ⟨i, hi, rfl⟩
  refine zw_run X (is := [(0, .aload_n 0, 1), (1, .iload_n 1, 1), (2, .iload_n 2, 1), (3, .iload_n 3, 1)]) (t' := (4, [some (.ref (ad 0)), some (.int x), some (.int 19), some (.int z), none], [.int z, .int 19, .int x, .ref (ad 0)])) ⟨dL_addGuild_0, dL_addGuild_1, dL_addGuild_2, dL_addGuild_3, trivial⟩ rfl ?_
  refine zw_catch X hAd ht (E := "java/lang/IllegalArgumentException") (by decide +kernel) [] [(0, 7, 13, 18)] (0, 7, 8, 15) rfl (fun _ h => nomatch h) ⟨by decide, by decide⟩ (by decide) zm_102 (As := [.int x, .int 19, .int z]) (rest := []) (d := 2) (i := 0) (by omega) zc_0 (q := (RX7, TX7, 16)) rfl ⟨zm_104, zm_105, zm_106, zm_2, zm_107, rfl, by decide, by decide, (show (parseMethodDescriptor yX7_addGuild.desc).map (fun d => d.parameters.length) = some 3 by decide +kernel)⟩ (fun sz => c_addGuild_l hls hD hn σ x z h1 h2 sz) rfl rfl (Nat.le_of_ble_eq_true rfl) ⟨Nat.le_of_ble_eq_true rfl, Nat.le_of_ble_eq_true rfl⟩ ⟨Nat.le_of_ble_eq_true rfl, Nat.le_of_ble_eq_true rfl⟩ dL_addGuild_4 (fun q9 => ?_)
  refine zw_run X (is := [(8, .astore 4, 2)]) (t' := (10, [some (.ref (ad 0)), some (.int x), some (.int 19), some (.int z), some (.ref (q9))], [])) ⟨dL_addGuild_8, trivial⟩ rfl ?_
  refine zw_ldc X (v := (-900001)) zm_8 dL_addGuild_10 ?_
  exact zw_iret X hr dL_addGuild_12 rfl rfl rfl

set_option maxHeartbeats 4000000 in
set_option maxRecDepth 100000 in
theorem w_addGuild_p {l : Launch} (hls : l.stackTraces = false) {D : va_G} {cy : Nat → ClassId} {wa : Nat → Nat} {N n : Nat} {ad : Nat → Nat} (hD : zD n ad) (hn : 40 ≤ n) (σ : zS) (x y : Int32) (h1 : ¬ x < 0) (h2 : x ≤ 9999) (h3 : ¬ y < 20) (h4 : y ≤ 400) (sz : Nat) : Met l yL_addGuild (.codeWith yL_addGuild cL_addGuild 5 (some .int) [(0, 7, 8, 15), (0, 7, 13, 18)] :: zB) (zRx 3) (zPc [.ref (ad 0), .int x, .int y, .int 9] D cy wa N n ad σ sz) (zQi ((-900001)) D cy N n ad (σ) sz) 1 6 (zA n ad sz) := by
  refine z_metH (by decide) hls (List.forall_mem_cons.mpr ⟨rfl, (List.forall_mem_cons.mpr ⟨rfl, (List.forall_mem_cons.mpr ⟨rfl, (List.forall_mem_cons.mpr ⟨rfl, (fun _ h => nomatch h)⟩)⟩)⟩)⟩) (Nat.le_of_ble_eq_true rfl) (fun p_ e_ s_ m_ below_ meth_ c_ hsz hr ht X => ?_)
  have X : zX p_ l s_ m_ [.ref (ad 0), .int x, .int y, .int 9].toArray meth_ c_ cL_addGuild 5 RL D cy wa (zA n ad sz) := X
  have hAd : ∀ i, i < n → zA n ad sz (ad i) := fun i hi => Or.inl ⟨i, hi, rfl⟩
  refine zw_run X (is := [(0, .aload_n 0, 1), (1, .iload_n 1, 1), (2, .iload_n 2, 1), (3, .iload_n 3, 1)]) (t' := (4, [some (.ref (ad 0)), some (.int x), some (.int y), some (.int 9), none], [.int 9, .int y, .int x, .ref (ad 0)])) ⟨dL_addGuild_0, dL_addGuild_1, dL_addGuild_2, dL_addGuild_3, trivial⟩ rfl ?_
  refine zw_catch X hAd ht (E := "java/lang/IllegalArgumentException") (by decide +kernel) [] [(0, 7, 13, 18)] (0, 7, 8, 15) rfl (fun _ h => nomatch h) ⟨by decide, by decide⟩ (by decide) zm_102 (As := [.int x, .int y, .int 9]) (rest := []) (d := 2) (i := 0) (by omega) zc_0 (q := (RX7, TX7, 16)) rfl ⟨zm_104, zm_105, zm_106, zm_2, zm_107, rfl, by decide, by decide, (show (parseMethodDescriptor yX7_addGuild.desc).map (fun d => d.parameters.length) = some 3 by decide +kernel)⟩ (fun sz => c_addGuild_p hls hD hn σ x y h1 h2 h3 h4 sz) rfl rfl (Nat.le_of_ble_eq_true rfl) ⟨Nat.le_of_ble_eq_true rfl, Nat.le_of_ble_eq_true rfl⟩ ⟨Nat.le_of_ble_eq_true rfl, Nat.le_of_ble_eq_true rfl⟩ dL_addGuild_4 (fun q9 => ?_)
  refine zw_run X (is := [(8, .astore 4, 2)]) (t' := (10, [some (.ref (ad 0)), some (.int x), some (.int y), some (.int 9), some (.ref (q9))], [])) ⟨dL_addGuild_8, trivial⟩ rfl ?_
  refine zw_ldc X (v := (-900001)) zm_8 dL_addGuild_10 ?_
  exact zw_iret X hr dL_addGuild_12 rfl rfl rfl

set_option maxHeartbeats 4000000 in
set_option maxRecDepth 100000 in
theorem w_merge {l : Launch} (hls : l.stackTraces = false) {D : va_G} {cy : Nat → ClassId} {wa : Nat → Nat} {N n : Nat} {ad : Nat → Nat} (hD : zD n ad) (hn : 40 ≤ n) (σ : zS) (gc : Nat) (hgc : gc ≤ 8) (e0 : σ 0 11 = nI gc) (g : Nat) (hg : g < gc) (h : Nat) (hh : h < gc) (hne : g ≠ h) (ho : σ (8 + g) 2 = 0) (ho2 : σ (8 + h) 2 = 0) (sz : Nat) : Met l yL_merge (.codeWith yL_merge cL_merge 4 (some .int) [(0, 6, 7, 25), (0, 6, 11, 15), (0, 6, 15, 27)] :: zB) (zRm 3) (zPc [.ref (ad 0), .int (nI g), .int (nI h)] D cy wa N n ad σ sz) (zQi ((zu (zu (zu σ (8 + h) 0 ((σ (8 + h) 0) + (σ (8 + g) 0))) (8 + g) 0 0) (8 + g) 2 1) (8 + h) 0) D cy N n ad (zu (zu (zu σ (8 + h) 0 ((σ (8 + h) 0) + (σ (8 + g) 0))) (8 + g) 0 0) (8 + g) 2 1) sz) 0 0 (zA n ad sz) := by
  refine z_metH (by decide) hls (List.forall_mem_cons.mpr ⟨rfl, (List.forall_mem_cons.mpr ⟨rfl, (List.forall_mem_cons.mpr ⟨rfl, (fun _ h => nomatch h)⟩)⟩)⟩) (Nat.le_of_ble_eq_true rfl) (fun p_ e_ s_ m_ below_ meth_ c_ hsz hr ht X => ?_)
  have X : zX p_ l s_ m_ [.ref (ad 0), .int (nI g), .int (nI h)].toArray meth_ c_ cL_merge 4 RL D cy wa (zA n ad sz) := X
  have hAd : ∀ i, i < n → zA n ad sz (ad i) := fun i hi => Or.inl ⟨i, hi, rfl⟩
  refine zw_run X (is := [(0, .aload_n 0, 1), (1, .iload_n 1, 1), (2, .iload_n 2, 1)]) (t' := (3, [some (.ref (ad 0)), some (.int (nI g)), some (.int (nI h)), none], [.int (nI h), .int (nI g), .ref (ad 0)])) ⟨dL_merge_0, dL_merge_1, dL_merge_2, trivial⟩ rfl ?_
  refine zw_Vi X hAd (As := [.int (nI g), .int (nI h)]) (rest := []) (d := 2) (i := 0) (by omega) zc_0 (q := (RX7, TX7, 16)) rfl ⟨zm_269, zm_270, zm_271, zm_2, zm_272, rfl, by decide, by decide, (show (parseMethodDescriptor yX7_merge.desc).map (fun d => d.parameters.length) = some 2 by decide +kernel)⟩ (fun sz => c_merge hls hD hn σ gc hgc e0 g hg h hh hne ho ho2 sz) rfl rfl (Nat.le_of_ble_eq_true rfl) ⟨Nat.le_of_ble_eq_true rfl, Nat.le_of_ble_eq_true rfl⟩ ⟨Nat.zero_le _, Nat.zero_le _⟩ dL_merge_3 ?_
  exact zw_iret X hr dL_merge_6 rfl rfl rfl

set_option maxHeartbeats 4000000 in
set_option maxRecDepth 100000 in
theorem w_merge_same {l : Launch} (hls : l.stackTraces = false) {D : va_G} {cy : Nat → ClassId} {wa : Nat → Nat} {N n : Nat} {ad : Nat → Nat} (hD : zD n ad) (hn : 40 ≤ n) (σ : zS) (gc : Nat) (hgc : gc ≤ 8) (e0 : σ 0 11 = nI gc) (g : Nat) (hg : g < gc)  (sz : Nat) : Met l yL_merge (.codeWith yL_merge cL_merge 4 (some .int) [(0, 6, 7, 25), (0, 6, 11, 15), (0, 6, 15, 27)] :: zB) (zRx 3) (zPc [.ref (ad 0), .int (nI g), .int (nI g)] D cy wa N n ad σ sz) (zQi ((-900002)) D cy N n ad (σ) sz) 1 6 (zA n ad sz) := by
  refine z_metH (by decide) hls (List.forall_mem_cons.mpr ⟨rfl, (List.forall_mem_cons.mpr ⟨rfl, (List.forall_mem_cons.mpr ⟨rfl, (fun _ h => nomatch h)⟩)⟩)⟩) (Nat.le_of_ble_eq_true rfl) (fun p_ e_ s_ m_ below_ meth_ c_ hsz hr ht X => ?_)
  have X : zX p_ l s_ m_ [.ref (ad 0), .int (nI g), .int (nI g)].toArray meth_ c_ cL_merge 4 RL D cy wa (zA n ad sz) := X
  have hAd : ∀ i, i < n → zA n ad sz (ad i) := fun i hi => Or.inl ⟨i, hi, rfl⟩
  refine zw_run X (is := [(0, .aload_n 0, 1), (1, .iload_n 1, 1), (2, .iload_n 2, 1)]) (t' := (3, [some (.ref (ad 0)), some (.int (nI g)), some (.int (nI g)), none], [.int (nI g), .int (nI g), .ref (ad 0)])) ⟨dL_merge_0, dL_merge_1, dL_merge_2, trivial⟩ rfl ?_
  refine zw_catch X hAd ht (E := "java/lang/IllegalArgumentException") (by decide +kernel) [(0, 6, 7, 25)] [(0, 6, 15, 27)] (0, 6, 11, 15) rfl (List.forall_mem_cons.mpr ⟨⟨by decide, _, zm_129, by decide +kernel⟩, (fun _ h => nomatch h)⟩) ⟨by decide, by decide⟩ (by decide) zm_102 (As := [.int (nI g), .int (nI g)]) (rest := []) (d := 2) (i := 0) (by omega) zc_0 (q := (RX7, TX7, 16)) rfl ⟨zm_269, zm_270, zm_271, zm_2, zm_272, rfl, by decide, by decide, (show (parseMethodDescriptor yX7_merge.desc).map (fun d => d.parameters.length) = some 2 by decide +kernel)⟩ (fun sz => c_merge_same hls hD hn σ gc hgc e0 g hg  sz) rfl rfl (Nat.le_of_ble_eq_true rfl) ⟨Nat.le_of_ble_eq_true rfl, Nat.le_of_ble_eq_true rfl⟩ ⟨Nat.le_of_ble_eq_true rfl, Nat.le_of_ble_eq_true rfl⟩ dL_merge_3 (fun q9 => ?_)
  refine zw_run X (is := [(11, .astore_n 3, 1)]) (t' := (12, [some (.ref (ad 0)), some (.int (nI g)), some (.int (nI g)), some (.ref (q9))], [])) ⟨dL_merge_11, trivial⟩ rfl ?_
  refine zw_ldc X (v := (-900002)) zm_10 dL_merge_12 ?_
  exact zw_iret X hr dL_merge_14 rfl rfl rfl

set_option maxHeartbeats 4000000 in
set_option maxRecDepth 100000 in
theorem w_merge_over {l : Launch} (hls : l.stackTraces = false) {D : va_G} {cy : Nat → ClassId} {wa : Nat → Nat} {N n : Nat} {ad : Nat → Nat} (hD : zD n ad) (hn : 40 ≤ n) (σ : zS) (gc : Nat) (hgc : gc ≤ 8) (e0 : σ 0 11 = nI gc) (g : Nat) (hg : g < gc) (h : Nat) (hh : h < gc) (hne : g ≠ h) (ho : ¬ σ (8 + g) 2 = 0) (sz : Nat) : Met l yL_merge (.codeWith yL_merge cL_merge 4 (some .int) [(0, 6, 7, 25), (0, 6, 11, 15), (0, 6, 15, 27)] :: zB) (zRx 3) (zPc [.ref (ad 0), .int (nI g), .int (nI h)] D cy wa N n ad σ sz) (zQi ((-900003)) D cy N n ad (σ) sz) 1 6 (zA n ad sz) := by
  refine z_metH (by decide) hls (List.forall_mem_cons.mpr ⟨rfl, (List.forall_mem_cons.mpr ⟨rfl, (List.forall_mem_cons.mpr ⟨rfl, (fun _ h => nomatch h)⟩)⟩)⟩) (Nat.le_of_ble_eq_true rfl) (fun p_ e_ s_ m_ below_ meth_ c_ hsz hr ht X => ?_)
  have X : zX p_ l s_ m_ [.ref (ad 0), .int (nI g), .int (nI h)].toArray meth_ c_ cL_merge 4 RL D cy wa (zA n ad sz) := X
  have hAd : ∀ i, i < n → zA n ad sz (ad i) := fun i hi => Or.inl ⟨i, hi, rfl⟩
  refine zw_run X (is := [(0, .aload_n 0, 1), (1, .iload_n 1, 1), (2, .iload_n 2, 1)]) (t' := (3, [some (.ref (ad 0)), some (.int (nI g)), some (.int (nI h)), none], [.int (nI h), .int (nI g), .ref (ad 0)])) ⟨dL_merge_0, dL_merge_1, dL_merge_2, trivial⟩ rfl ?_
  refine zw_catch X hAd ht (E := "java/lang/UnsupportedOperationException") (by decide +kernel) [(0, 6, 7, 25), (0, 6, 11, 15)] [] (0, 6, 15, 27) rfl (List.forall_mem_cons.mpr ⟨⟨by decide, _, zm_129, by decide +kernel⟩, (List.forall_mem_cons.mpr ⟨⟨by decide, _, zm_102, by decide +kernel⟩, (fun _ h => nomatch h)⟩)⟩) ⟨by decide, by decide⟩ (by decide) zm_144 (As := [.int (nI g), .int (nI h)]) (rest := []) (d := 2) (i := 0) (by omega) zc_0 (q := (RX7, TX7, 16)) rfl ⟨zm_269, zm_270, zm_271, zm_2, zm_272, rfl, by decide, by decide, (show (parseMethodDescriptor yX7_merge.desc).map (fun d => d.parameters.length) = some 2 by decide +kernel)⟩ (fun sz => c_merge_over hls hD hn σ gc hgc e0 g hg h hh hne ho sz) rfl rfl (Nat.le_of_ble_eq_true rfl) ⟨Nat.le_of_ble_eq_true rfl, Nat.le_of_ble_eq_true rfl⟩ ⟨Nat.le_of_ble_eq_true rfl, Nat.le_of_ble_eq_true rfl⟩ dL_merge_3 (fun q9 => ?_)
  refine zw_run X (is := [(15, .astore_n 3, 1)]) (t' := (16, [some (.ref (ad 0)), some (.int (nI g)), some (.int (nI h)), some (.ref (q9))], [])) ⟨dL_merge_15, trivial⟩ rfl ?_
  refine zw_ldc X (v := (-900003)) zm_9 dL_merge_16 ?_
  exact zw_iret X hr dL_merge_18 rfl rfl rfl

set_option maxHeartbeats 4000000 in
set_option maxRecDepth 100000 in
theorem w_merge_over2 {l : Launch} (hls : l.stackTraces = false) {D : va_G} {cy : Nat → ClassId} {wa : Nat → Nat} {N n : Nat} {ad : Nat → Nat} (hD : zD n ad) (hn : 40 ≤ n) (σ : zS) (gc : Nat) (hgc : gc ≤ 8) (e0 : σ 0 11 = nI gc) (g : Nat) (hg : g < gc) (h : Nat) (hh : h < gc) (hne : g ≠ h) (ho : σ (8 + g) 2 = 0) (ho2 : ¬ σ (8 + h) 2 = 0) (sz : Nat) : Met l yL_merge (.codeWith yL_merge cL_merge 4 (some .int) [(0, 6, 7, 25), (0, 6, 11, 15), (0, 6, 15, 27)] :: zB) (zRx 3) (zPc [.ref (ad 0), .int (nI g), .int (nI h)] D cy wa N n ad σ sz) (zQi ((-900003)) D cy N n ad (σ) sz) 1 6 (zA n ad sz) := by
  refine z_metH (by decide) hls (List.forall_mem_cons.mpr ⟨rfl, (List.forall_mem_cons.mpr ⟨rfl, (List.forall_mem_cons.mpr ⟨rfl, (fun _ h => nomatch h)⟩)⟩)⟩) (Nat.le_of_ble_eq_true rfl) (fun p_ e_ s_ m_ below_ meth_ c_ hsz hr ht X => ?_)
  have X : zX p_ l s_ m_ [.ref (ad 0), .int (nI g), .int (nI h)].toArray meth_ c_ cL_merge 4 RL D cy wa (zA n ad sz) := X
  have hAd : ∀ i, i < n → zA n ad sz (ad i) := fun i hi => Or.inl ⟨i, hi, rfl⟩
  refine zw_run X (is := [(0, .aload_n 0, 1), (1, .iload_n 1, 1), (2, .iload_n 2, 1)]) (t' := (3, [some (.ref (ad 0)), some (.int (nI g)), some (.int (nI h)), none], [.int (nI h), .int (nI g), .ref (ad 0)])) ⟨dL_merge_0, dL_merge_1, dL_merge_2, trivial⟩ rfl ?_
  refine zw_catch X hAd ht (E := "java/lang/UnsupportedOperationException") (by decide +kernel) [(0, 6, 7, 25), (0, 6, 11, 15)] [] (0, 6, 15, 27) rfl (List.forall_mem_cons.mpr ⟨⟨by decide, _, zm_129, by decide +kernel⟩, (List.forall_mem_cons.mpr ⟨⟨by decide, _, zm_102, by decide +kernel⟩, (fun _ h => nomatch h)⟩)⟩) ⟨by decide, by decide⟩ (by decide) zm_144 (As := [.int (nI g), .int (nI h)]) (rest := []) (d := 2) (i := 0) (by omega) zc_0 (q := (RX7, TX7, 16)) rfl ⟨zm_269, zm_270, zm_271, zm_2, zm_272, rfl, by decide, by decide, (show (parseMethodDescriptor yX7_merge.desc).map (fun d => d.parameters.length) = some 2 by decide +kernel)⟩ (fun sz => c_merge_over2 hls hD hn σ gc hgc e0 g hg h hh hne ho ho2 sz) rfl rfl (Nat.le_of_ble_eq_true rfl) ⟨Nat.le_of_ble_eq_true rfl, Nat.le_of_ble_eq_true rfl⟩ ⟨Nat.le_of_ble_eq_true rfl, Nat.le_of_ble_eq_true rfl⟩ dL_merge_3 (fun q9 => ?_)
  refine zw_run X (is := [(15, .astore_n 3, 1)]) (t' := (16, [some (.ref (ad 0)), some (.int (nI g)), some (.int (nI h)), some (.ref (q9))], [])) ⟨dL_merge_15, trivial⟩ rfl ?_
  refine zw_ldc X (v := (-900003)) zm_9 dL_merge_16 ?_
  exact zw_iret X hr dL_merge_18 rfl rfl rfl

set_option maxHeartbeats 4000000 in
set_option maxRecDepth 100000 in
theorem w_of_m {l : Launch} (hls : l.stackTraces = false) {D : va_G} {cy : Nat → ClassId} {wa : Nat → Nat} {N n : Nat} {ad : Nat → Nat} (hD : zD n ad) (hn : 40 ≤ n) (σ : zS) (gc : Nat) (hgc : gc ≤ 8) (e0 : σ 0 11 = nI gc) (g : Nat) (hg : g < gc)  (sz : Nat) : Met l yL_of (.codeWith yL_of cL_of 4 (some .int) [(0, 6, 7, 25), (0, 6, 11, 15)] :: zB) (zRm 3) (zPc [.ref (ad 0), .int (nI g), .int 109] D cy wa N n ad σ sz) (zQi (σ (8 + g) 0) D cy N n ad (σ) sz) 0 0 (zA n ad sz) := by
  refine z_metH (by decide) hls (List.forall_mem_cons.mpr ⟨rfl, (List.forall_mem_cons.mpr ⟨rfl, (List.forall_mem_cons.mpr ⟨rfl, (fun _ h => nomatch h)⟩)⟩)⟩) (Nat.le_of_ble_eq_true rfl) (fun p_ e_ s_ m_ below_ meth_ c_ hsz hr ht X => ?_)
  have X : zX p_ l s_ m_ [.ref (ad 0), .int (nI g), .int 109].toArray meth_ c_ cL_of 4 RL D cy wa (zA n ad sz) := X
  have hAd : ∀ i, i < n → zA n ad sz (ad i) := fun i hi => Or.inl ⟨i, hi, rfl⟩
  refine zw_run X (is := [(0, .aload_n 0, 1), (1, .iload_n 1, 1), (2, .iload_n 2, 1)]) (t' := (3, [some (.ref (ad 0)), some (.int (nI g)), some (.int 109), none], [.int 109, .int (nI g), .ref (ad 0)])) ⟨dL_of_0, dL_of_1, dL_of_2, trivial⟩ rfl ?_
  refine zw_Vi X hAd (As := [.int (nI g), .int 109]) (rest := []) (d := 2) (i := 0) (by omega) zc_0 (q := (RX7, TX7, 16)) rfl ⟨zm_386, zm_387, zm_388, zm_2, zm_389, rfl, by decide, by decide, (show (parseMethodDescriptor yX7_of.desc).map (fun d => d.parameters.length) = some 2 by decide +kernel)⟩ (fun sz => c_of_m hls hD hn σ gc hgc e0 g hg  sz) rfl rfl (Nat.le_of_ble_eq_true rfl) ⟨Nat.le_of_ble_eq_true rfl, Nat.le_of_ble_eq_true rfl⟩ ⟨Nat.zero_le _, Nat.zero_le _⟩ dL_of_3 ?_
  exact zw_iret X hr dL_of_6 rfl rfl rfl

set_option maxHeartbeats 4000000 in
set_option maxRecDepth 100000 in
theorem w_of_l {l : Launch} (hls : l.stackTraces = false) {D : va_G} {cy : Nat → ClassId} {wa : Nat → Nat} {N n : Nat} {ad : Nat → Nat} (hD : zD n ad) (hn : 40 ≤ n) (σ : zS) (gc : Nat) (hgc : gc ≤ 8) (e0 : σ 0 11 = nI gc) (g : Nat) (hg : g < gc)  (sz : Nat) : Met l yL_of (.codeWith yL_of cL_of 4 (some .int) [(0, 6, 7, 25), (0, 6, 11, 15)] :: zB) (zRm 3) (zPc [.ref (ad 0), .int (nI g), .int 108] D cy wa N n ad σ sz) (zQi (σ (16 + g) 0) D cy N n ad (σ) sz) 0 0 (zA n ad sz) := by
  refine z_metH (by decide) hls (List.forall_mem_cons.mpr ⟨rfl, (List.forall_mem_cons.mpr ⟨rfl, (List.forall_mem_cons.mpr ⟨rfl, (fun _ h => nomatch h)⟩)⟩)⟩) (Nat.le_of_ble_eq_true rfl) (fun p_ e_ s_ m_ below_ meth_ c_ hsz hr ht X => ?_)
  have X : zX p_ l s_ m_ [.ref (ad 0), .int (nI g), .int 108].toArray meth_ c_ cL_of 4 RL D cy wa (zA n ad sz) := X
  have hAd : ∀ i, i < n → zA n ad sz (ad i) := fun i hi => Or.inl ⟨i, hi, rfl⟩
  refine zw_run X (is := [(0, .aload_n 0, 1), (1, .iload_n 1, 1), (2, .iload_n 2, 1)]) (t' := (3, [some (.ref (ad 0)), some (.int (nI g)), some (.int 108), none], [.int 108, .int (nI g), .ref (ad 0)])) ⟨dL_of_0, dL_of_1, dL_of_2, trivial⟩ rfl ?_
  refine zw_Vi X hAd (As := [.int (nI g), .int 108]) (rest := []) (d := 2) (i := 0) (by omega) zc_0 (q := (RX7, TX7, 16)) rfl ⟨zm_386, zm_387, zm_388, zm_2, zm_389, rfl, by decide, by decide, (show (parseMethodDescriptor yX7_of.desc).map (fun d => d.parameters.length) = some 2 by decide +kernel)⟩ (fun sz => c_of_l hls hD hn σ gc hgc e0 g hg  sz) rfl rfl (Nat.le_of_ble_eq_true rfl) ⟨Nat.le_of_ble_eq_true rfl, Nat.le_of_ble_eq_true rfl⟩ ⟨Nat.zero_le _, Nat.zero_le _⟩ dL_of_3 ?_
  exact zw_iret X hr dL_of_6 rfl rfl rfl

set_option maxHeartbeats 4000000 in
set_option maxRecDepth 100000 in
theorem w_of_p {l : Launch} (hls : l.stackTraces = false) {D : va_G} {cy : Nat → ClassId} {wa : Nat → Nat} {N n : Nat} {ad : Nat → Nat} (hD : zD n ad) (hn : 40 ≤ n) (σ : zS) (gc : Nat) (hgc : gc ≤ 8) (e0 : σ 0 11 = nI gc) (g : Nat) (hg : g < gc)  (sz : Nat) : Met l yL_of (.codeWith yL_of cL_of 4 (some .int) [(0, 6, 7, 25), (0, 6, 11, 15)] :: zB) (zRm 3) (zPc [.ref (ad 0), .int (nI g), .int 112] D cy wa N n ad σ sz) (zQi (σ (16 + g) 1) D cy N n ad (σ) sz) 0 0 (zA n ad sz) := by
  refine z_metH (by decide) hls (List.forall_mem_cons.mpr ⟨rfl, (List.forall_mem_cons.mpr ⟨rfl, (List.forall_mem_cons.mpr ⟨rfl, (fun _ h => nomatch h)⟩)⟩)⟩) (Nat.le_of_ble_eq_true rfl) (fun p_ e_ s_ m_ below_ meth_ c_ hsz hr ht X => ?_)
  have X : zX p_ l s_ m_ [.ref (ad 0), .int (nI g), .int 112].toArray meth_ c_ cL_of 4 RL D cy wa (zA n ad sz) := X
  have hAd : ∀ i, i < n → zA n ad sz (ad i) := fun i hi => Or.inl ⟨i, hi, rfl⟩
  refine zw_run X (is := [(0, .aload_n 0, 1), (1, .iload_n 1, 1), (2, .iload_n 2, 1)]) (t' := (3, [some (.ref (ad 0)), some (.int (nI g)), some (.int 112), none], [.int 112, .int (nI g), .ref (ad 0)])) ⟨dL_of_0, dL_of_1, dL_of_2, trivial⟩ rfl ?_
  refine zw_Vi X hAd (As := [.int (nI g), .int 112]) (rest := []) (d := 2) (i := 0) (by omega) zc_0 (q := (RX7, TX7, 16)) rfl ⟨zm_386, zm_387, zm_388, zm_2, zm_389, rfl, by decide, by decide, (show (parseMethodDescriptor yX7_of.desc).map (fun d => d.parameters.length) = some 2 by decide +kernel)⟩ (fun sz => c_of_p hls hD hn σ gc hgc e0 g hg  sz) rfl rfl (Nat.le_of_ble_eq_true rfl) ⟨Nat.le_of_ble_eq_true rfl, Nat.le_of_ble_eq_true rfl⟩ ⟨Nat.zero_le _, Nat.zero_le _⟩ dL_of_3 ?_
  exact zw_iret X hr dL_of_6 rfl rfl rfl

set_option maxHeartbeats 4000000 in
set_option maxRecDepth 100000 in
theorem w_of_e {l : Launch} (hls : l.stackTraces = false) {D : va_G} {cy : Nat → ClassId} {wa : Nat → Nat} {N n : Nat} {ad : Nat → Nat} (hD : zD n ad) (hn : 40 ≤ n) (σ : zS) (gc : Nat) (hgc : gc ≤ 8) (e0 : σ 0 11 = nI gc) (g : Nat) (hg : g < gc)  (sz : Nat) : Met l yL_of (.codeWith yL_of cL_of 4 (some .int) [(0, 6, 7, 25), (0, 6, 11, 15)] :: zB) (zRm 3) (zPc [.ref (ad 0), .int (nI g), .int 101] D cy wa N n ad σ sz) (zQi (σ (16 + g) 3) D cy N n ad (σ) sz) 0 0 (zA n ad sz) := by
  refine z_metH (by decide) hls (List.forall_mem_cons.mpr ⟨rfl, (List.forall_mem_cons.mpr ⟨rfl, (List.forall_mem_cons.mpr ⟨rfl, (fun _ h => nomatch h)⟩)⟩)⟩) (Nat.le_of_ble_eq_true rfl) (fun p_ e_ s_ m_ below_ meth_ c_ hsz hr ht X => ?_)
  have X : zX p_ l s_ m_ [.ref (ad 0), .int (nI g), .int 101].toArray meth_ c_ cL_of 4 RL D cy wa (zA n ad sz) := X
  have hAd : ∀ i, i < n → zA n ad sz (ad i) := fun i hi => Or.inl ⟨i, hi, rfl⟩
  refine zw_run X (is := [(0, .aload_n 0, 1), (1, .iload_n 1, 1), (2, .iload_n 2, 1)]) (t' := (3, [some (.ref (ad 0)), some (.int (nI g)), some (.int 101), none], [.int 101, .int (nI g), .ref (ad 0)])) ⟨dL_of_0, dL_of_1, dL_of_2, trivial⟩ rfl ?_
  refine zw_Vi X hAd (As := [.int (nI g), .int 101]) (rest := []) (d := 2) (i := 0) (by omega) zc_0 (q := (RX7, TX7, 16)) rfl ⟨zm_386, zm_387, zm_388, zm_2, zm_389, rfl, by decide, by decide, (show (parseMethodDescriptor yX7_of.desc).map (fun d => d.parameters.length) = some 2 by decide +kernel)⟩ (fun sz => c_of_e hls hD hn σ gc hgc e0 g hg  sz) rfl rfl (Nat.le_of_ble_eq_true rfl) ⟨Nat.le_of_ble_eq_true rfl, Nat.le_of_ble_eq_true rfl⟩ ⟨Nat.zero_le _, Nat.zero_le _⟩ dL_of_3 ?_
  exact zw_iret X hr dL_of_6 rfl rfl rfl

set_option maxHeartbeats 4000000 in
set_option maxRecDepth 100000 in
theorem w_of_w {l : Launch} (hls : l.stackTraces = false) {D : va_G} {cy : Nat → ClassId} {wa : Nat → Nat} {N n : Nat} {ad : Nat → Nat} (hD : zD n ad) (hn : 40 ≤ n) (σ : zS) (gc : Nat) (hgc : gc ≤ 8) (e0 : σ 0 11 = nI gc) (g : Nat) (hg : g < gc)  (sz : Nat) : Met l yL_of (.codeWith yL_of cL_of 4 (some .int) [(0, 6, 7, 25), (0, 6, 11, 15)] :: zB) (zRm 3) (zPc [.ref (ad 0), .int (nI g), .int 119] D cy wa N n ad σ sz) (zQi (σ (8 + g) 5) D cy N n ad (σ) sz) 0 0 (zA n ad sz) := by
  refine z_metH (by decide) hls (List.forall_mem_cons.mpr ⟨rfl, (List.forall_mem_cons.mpr ⟨rfl, (List.forall_mem_cons.mpr ⟨rfl, (fun _ h => nomatch h)⟩)⟩)⟩) (Nat.le_of_ble_eq_true rfl) (fun p_ e_ s_ m_ below_ meth_ c_ hsz hr ht X => ?_)
  have X : zX p_ l s_ m_ [.ref (ad 0), .int (nI g), .int 119].toArray meth_ c_ cL_of 4 RL D cy wa (zA n ad sz) := X
  have hAd : ∀ i, i < n → zA n ad sz (ad i) := fun i hi => Or.inl ⟨i, hi, rfl⟩
  refine zw_run X (is := [(0, .aload_n 0, 1), (1, .iload_n 1, 1), (2, .iload_n 2, 1)]) (t' := (3, [some (.ref (ad 0)), some (.int (nI g)), some (.int 119), none], [.int 119, .int (nI g), .ref (ad 0)])) ⟨dL_of_0, dL_of_1, dL_of_2, trivial⟩ rfl ?_
  refine zw_Vi X hAd (As := [.int (nI g), .int 119]) (rest := []) (d := 2) (i := 0) (by omega) zc_0 (q := (RX7, TX7, 16)) rfl ⟨zm_386, zm_387, zm_388, zm_2, zm_389, rfl, by decide, by decide, (show (parseMethodDescriptor yX7_of.desc).map (fun d => d.parameters.length) = some 2 by decide +kernel)⟩ (fun sz => c_of_w hls hD hn σ gc hgc e0 g hg  sz) rfl rfl (Nat.le_of_ble_eq_true rfl) ⟨Nat.le_of_ble_eq_true rfl, Nat.le_of_ble_eq_true rfl⟩ ⟨Nat.zero_le _, Nat.zero_le _⟩ dL_of_3 ?_
  exact zw_iret X hr dL_of_6 rfl rfl rfl

set_option maxHeartbeats 4000000 in
set_option maxRecDepth 100000 in
theorem w_of_f {l : Launch} (hls : l.stackTraces = false) {D : va_G} {cy : Nat → ClassId} {wa : Nat → Nat} {N n : Nat} {ad : Nat → Nat} (hD : zD n ad) (hn : 40 ≤ n) (σ : zS) (gc : Nat) (hgc : gc ≤ 8) (e0 : σ 0 11 = nI gc) (g : Nat) (hg : g < gc)  (sz : Nat) : Met l yL_of (.codeWith yL_of cL_of 4 (some .int) [(0, 6, 7, 25), (0, 6, 11, 15)] :: zB) (zRm 3) (zPc [.ref (ad 0), .int (nI g), .int 102] D cy wa N n ad σ sz) (zQi (σ (8 + g) 1) D cy N n ad (σ) sz) 0 0 (zA n ad sz) := by
  refine z_metH (by decide) hls (List.forall_mem_cons.mpr ⟨rfl, (List.forall_mem_cons.mpr ⟨rfl, (List.forall_mem_cons.mpr ⟨rfl, (fun _ h => nomatch h)⟩)⟩)⟩) (Nat.le_of_ble_eq_true rfl) (fun p_ e_ s_ m_ below_ meth_ c_ hsz hr ht X => ?_)
  have X : zX p_ l s_ m_ [.ref (ad 0), .int (nI g), .int 102].toArray meth_ c_ cL_of 4 RL D cy wa (zA n ad sz) := X
  have hAd : ∀ i, i < n → zA n ad sz (ad i) := fun i hi => Or.inl ⟨i, hi, rfl⟩
  refine zw_run X (is := [(0, .aload_n 0, 1), (1, .iload_n 1, 1), (2, .iload_n 2, 1)]) (t' := (3, [some (.ref (ad 0)), some (.int (nI g)), some (.int 102), none], [.int 102, .int (nI g), .ref (ad 0)])) ⟨dL_of_0, dL_of_1, dL_of_2, trivial⟩ rfl ?_
  refine zw_Vi X hAd (As := [.int (nI g), .int 102]) (rest := []) (d := 2) (i := 0) (by omega) zc_0 (q := (RX7, TX7, 16)) rfl ⟨zm_386, zm_387, zm_388, zm_2, zm_389, rfl, by decide, by decide, (show (parseMethodDescriptor yX7_of.desc).map (fun d => d.parameters.length) = some 2 by decide +kernel)⟩ (fun sz => c_of_f hls hD hn σ gc hgc e0 g hg  sz) rfl rfl (Nat.le_of_ble_eq_true rfl) ⟨Nat.le_of_ble_eq_true rfl, Nat.le_of_ble_eq_true rfl⟩ ⟨Nat.zero_le _, Nat.zero_le _⟩ dL_of_3 ?_
  exact zw_iret X hr dL_of_6 rfl rfl rfl

set_option maxHeartbeats 4000000 in
set_option maxRecDepth 100000 in
theorem w_of_a {l : Launch} (hls : l.stackTraces = false) {D : va_G} {cy : Nat → ClassId} {wa : Nat → Nat} {N n : Nat} {ad : Nat → Nat} (hD : zD n ad) (hn : 40 ≤ n) (σ : zS) (gc : Nat) (hgc : gc ≤ 8) (e0 : σ 0 11 = nI gc) (g : Nat) (hg : g < gc)  (sz : Nat) : Met l yL_of (.codeWith yL_of cL_of 4 (some .int) [(0, 6, 7, 25), (0, 6, 11, 15)] :: zB) (zRm 3) (zPc [.ref (ad 0), .int (nI g), .int 97] D cy wa N n ad σ sz) (zQi (σ (16 + g) 0 - σ (16 + g) 4) D cy N n ad (σ) sz) 0 0 (zA n ad sz) := by
  refine z_metH (by decide) hls (List.forall_mem_cons.mpr ⟨rfl, (List.forall_mem_cons.mpr ⟨rfl, (List.forall_mem_cons.mpr ⟨rfl, (fun _ h => nomatch h)⟩)⟩)⟩) (Nat.le_of_ble_eq_true rfl) (fun p_ e_ s_ m_ below_ meth_ c_ hsz hr ht X => ?_)
  have X : zX p_ l s_ m_ [.ref (ad 0), .int (nI g), .int 97].toArray meth_ c_ cL_of 4 RL D cy wa (zA n ad sz) := X
  have hAd : ∀ i, i < n → zA n ad sz (ad i) := fun i hi => Or.inl ⟨i, hi, rfl⟩
  refine zw_run X (is := [(0, .aload_n 0, 1), (1, .iload_n 1, 1), (2, .iload_n 2, 1)]) (t' := (3, [some (.ref (ad 0)), some (.int (nI g)), some (.int 97), none], [.int 97, .int (nI g), .ref (ad 0)])) ⟨dL_of_0, dL_of_1, dL_of_2, trivial⟩ rfl ?_
  refine zw_Vi X hAd (As := [.int (nI g), .int 97]) (rest := []) (d := 2) (i := 0) (by omega) zc_0 (q := (RX7, TX7, 16)) rfl ⟨zm_386, zm_387, zm_388, zm_2, zm_389, rfl, by decide, by decide, (show (parseMethodDescriptor yX7_of.desc).map (fun d => d.parameters.length) = some 2 by decide +kernel)⟩ (fun sz => c_of_a hls hD hn σ gc hgc e0 g hg  sz) rfl rfl (Nat.le_of_ble_eq_true rfl) ⟨Nat.le_of_ble_eq_true rfl, Nat.le_of_ble_eq_true rfl⟩ ⟨Nat.zero_le _, Nat.zero_le _⟩ dL_of_3 ?_
  exact zw_iret X hr dL_of_6 rfl rfl rfl

set_option maxHeartbeats 4000000 in
set_option maxRecDepth 100000 in
theorem w_of_bad {l : Launch} (hls : l.stackTraces = false) {D : va_G} {cy : Nat → ClassId} {wa : Nat → Nat} {N n : Nat} {ad : Nat → Nat} (hD : zD n ad) (hn : 40 ≤ n) (σ : zS) (gc : Nat) (hgc : gc ≤ 8) (e0 : σ 0 11 = nI gc) (g : Nat) (hg : g < gc)  (sz : Nat) : Met l yL_of (.codeWith yL_of cL_of 4 (some .int) [(0, 6, 7, 25), (0, 6, 11, 15)] :: zB) (zRx 3) (zPc [.ref (ad 0), .int (nI g), .int 120] D cy wa N n ad σ sz) (zQi ((-900002)) D cy N n ad (σ) sz) 1 6 (zA n ad sz) := by
  refine z_metH (by decide) hls (List.forall_mem_cons.mpr ⟨rfl, (List.forall_mem_cons.mpr ⟨rfl, (List.forall_mem_cons.mpr ⟨rfl, (fun _ h => nomatch h)⟩)⟩)⟩) (Nat.le_of_ble_eq_true rfl) (fun p_ e_ s_ m_ below_ meth_ c_ hsz hr ht X => ?_)
  have X : zX p_ l s_ m_ [.ref (ad 0), .int (nI g), .int 120].toArray meth_ c_ cL_of 4 RL D cy wa (zA n ad sz) := X
  have hAd : ∀ i, i < n → zA n ad sz (ad i) := fun i hi => Or.inl ⟨i, hi, rfl⟩
  refine zw_run X (is := [(0, .aload_n 0, 1), (1, .iload_n 1, 1), (2, .iload_n 2, 1)]) (t' := (3, [some (.ref (ad 0)), some (.int (nI g)), some (.int 120), none], [.int 120, .int (nI g), .ref (ad 0)])) ⟨dL_of_0, dL_of_1, dL_of_2, trivial⟩ rfl ?_
  refine zw_catch X hAd ht (E := "java/lang/IllegalArgumentException") (by decide +kernel) [(0, 6, 7, 25)] [] (0, 6, 11, 15) rfl (List.forall_mem_cons.mpr ⟨⟨by decide, _, zm_129, by decide +kernel⟩, (fun _ h => nomatch h)⟩) ⟨by decide, by decide⟩ (by decide) zm_102 (As := [.int (nI g), .int 120]) (rest := []) (d := 2) (i := 0) (by omega) zc_0 (q := (RX7, TX7, 16)) rfl ⟨zm_386, zm_387, zm_388, zm_2, zm_389, rfl, by decide, by decide, (show (parseMethodDescriptor yX7_of.desc).map (fun d => d.parameters.length) = some 2 by decide +kernel)⟩ (fun sz => c_of_bad hls hD hn σ gc hgc e0 g hg  sz) rfl rfl (Nat.le_of_ble_eq_true rfl) ⟨Nat.le_of_ble_eq_true rfl, Nat.le_of_ble_eq_true rfl⟩ ⟨Nat.le_of_ble_eq_true rfl, Nat.le_of_ble_eq_true rfl⟩ dL_of_3 (fun q9 => ?_)
  refine zw_run X (is := [(11, .astore_n 3, 1)]) (t' := (12, [some (.ref (ad 0)), some (.int (nI g)), some (.int 120), some (.ref (q9))], [])) ⟨dL_of_11, trivial⟩ rfl ?_
  refine zw_ldc X (v := (-900002)) zm_10 dL_of_12 ?_
  exact zw_iret X hr dL_of_14 rfl rfl rfl

set_option maxHeartbeats 4000000 in
set_option maxRecDepth 100000 in
theorem w_of_x {l : Launch} (hls : l.stackTraces = false) {D : va_G} {cy : Nat → ClassId} {wa : Nat → Nat} {N n : Nat} {ad : Nat → Nat} (hD : zD n ad) (hn : 40 ≤ n) (σ : zS) (gc : Nat) (hgc : gc ≤ 8) (e0 : σ 0 11 = nI gc) (g : Nat) (hg : gc ≤ g) (hg2 : g < 100) (w : Int32) (sz : Nat) : Met l yL_of (.codeWith yL_of cL_of 4 (some .int) [(0, 6, 7, 25), (0, 6, 11, 15)] :: zB) (zRx 3) (zPc [.ref (ad 0), .int (nI g), .int w] D cy wa N n ad σ sz) (zQi ((-900001)) D cy N n ad (σ) sz) 1 6 (zA n ad sz) := by
  refine z_metH (by decide) hls (List.forall_mem_cons.mpr ⟨rfl, (List.forall_mem_cons.mpr ⟨rfl, (List.forall_mem_cons.mpr ⟨rfl, (fun _ h => nomatch h)⟩)⟩)⟩) (Nat.le_of_ble_eq_true rfl) (fun p_ e_ s_ m_ below_ meth_ c_ hsz hr ht X => ?_)
  have X : zX p_ l s_ m_ [.ref (ad 0), .int (nI g), .int w].toArray meth_ c_ cL_of 4 RL D cy wa (zA n ad sz) := X
  have hAd : ∀ i, i < n → zA n ad sz (ad i) := fun i hi => Or.inl ⟨i, hi, rfl⟩
  refine zw_run X (is := [(0, .aload_n 0, 1), (1, .iload_n 1, 1), (2, .iload_n 2, 1)]) (t' := (3, [some (.ref (ad 0)), some (.int (nI g)), some (.int w), none], [.int w, .int (nI g), .ref (ad 0)])) ⟨dL_of_0, dL_of_1, dL_of_2, trivial⟩ rfl ?_
  refine zw_catch X hAd ht (E := "java/lang/IndexOutOfBoundsException") (by decide +kernel) [] [(0, 6, 11, 15)] (0, 6, 7, 25) rfl (fun _ h => nomatch h) ⟨by decide, by decide⟩ (by decide) zm_129 (As := [.int (nI g), .int w]) (rest := []) (d := 2) (i := 0) (by omega) zc_0 (q := (RX7, TX7, 16)) rfl ⟨zm_386, zm_387, zm_388, zm_2, zm_389, rfl, by decide, by decide, (show (parseMethodDescriptor yX7_of.desc).map (fun d => d.parameters.length) = some 2 by decide +kernel)⟩ (fun sz => c_of_x hls hD hn σ gc hgc e0 g hg hg2 w sz) rfl rfl (Nat.le_of_ble_eq_true rfl) ⟨Nat.le_of_ble_eq_true rfl, Nat.le_of_ble_eq_true rfl⟩ ⟨Nat.le_of_ble_eq_true rfl, Nat.le_of_ble_eq_true rfl⟩ dL_of_3 (fun q9 => ?_)
  refine zw_run X (is := [(7, .astore_n 3, 1)]) (t' := (8, [some (.ref (ad 0)), some (.int (nI g)), some (.int w), some (.ref (q9))], [])) ⟨dL_of_7, trivial⟩ rfl ?_
  refine zw_ldc X (v := (-900001)) zm_8 dL_of_8 ?_
  exact zw_iret X hr dL_of_10 rfl rfl rfl

set_option maxHeartbeats 4000000 in
set_option maxRecDepth 100000 in
theorem w_type {l : Launch} (hls : l.stackTraces = false) {D : va_G} {cy : Nat → ClassId} {wa : Nat → Nat} {N n : Nat} {ad : Nat → Nat} (hD : zD n ad) (hn : 40 ≤ n) (σ : zS) (k : Nat) (hk : k < 10) (e1 : σ 4 1 = nI k) (x : Int32) (h1 : ¬ x < 97) (h2 : x ≤ 122) (hx : vp_nar .char x = x) (sz : Nat) : Met l yL_type (.codeWith yL_type cL_type 3 (some .int) [(0, 5, 6, 15), (0, 5, 10, 18)] :: zB) (zRm 3) (zPc [.ref (ad 0), .int x] D cy wa N n ad σ sz) (zQi (nI (k + 1)) D cy N n ad (zu (zu σ (5) k x) (4) 1 (zu σ (5) k x (4) 1 + 1)) sz) 0 0 (zA n ad sz) := by
  refine z_metH (by decide) hls (List.forall_mem_cons.mpr ⟨rfl, (List.forall_mem_cons.mpr ⟨rfl, (fun _ h => nomatch h)⟩)⟩) (Nat.le_of_ble_eq_true rfl) (fun p_ e_ s_ m_ below_ meth_ c_ hsz hr ht X => ?_)
  have X : zX p_ l s_ m_ [.ref (ad 0), .int x].toArray meth_ c_ cL_type 3 RL D cy wa (zA n ad sz) := X
  have hAd : ∀ i, i < n → zA n ad sz (ad i) := fun i hi => Or.inl ⟨i, hi, rfl⟩
  refine zw_run X (is := [(0, .aload_n 0, 1), (1, .iload_n 1, 1)]) (t' := (2, [some (.ref (ad 0)), some (.int x), none], [.int x, .ref (ad 0)])) ⟨dL_type_0, dL_type_1, trivial⟩ rfl ?_
  refine zw_Vi X hAd (As := [.int x]) (rest := []) (d := 2) (i := 0) (by omega) zc_0 (q := (RX7, TX7, 16)) rfl ⟨zm_219, zm_220, zm_221, zm_2, zm_222, rfl, by decide, by decide, (show (parseMethodDescriptor yX7_type.desc).map (fun d => d.parameters.length) = some 1 by decide +kernel)⟩ (fun sz => c_type hls hD hn σ k hk e1 x h1 h2 hx sz) rfl rfl (Nat.le_of_ble_eq_true rfl) ⟨Nat.le_of_ble_eq_true rfl, Nat.le_of_ble_eq_true rfl⟩ ⟨Nat.zero_le _, Nat.zero_le _⟩ dL_type_2 ?_
  exact zw_iret X hr dL_type_5 rfl rfl rfl

set_option maxHeartbeats 4000000 in
set_option maxRecDepth 100000 in
theorem w_type_bad {l : Launch} (hls : l.stackTraces = false) {D : va_G} {cy : Nat → ClassId} {wa : Nat → Nat} {N n : Nat} {ad : Nat → Nat} (hD : zD n ad) (hn : 40 ≤ n) (σ : zS) (x : Int32) (h1 : x < 97) (sz : Nat) : Met l yL_type (.codeWith yL_type cL_type 3 (some .int) [(0, 5, 6, 15), (0, 5, 10, 18)] :: zB) (zRx 3) (zPc [.ref (ad 0), .int x] D cy wa N n ad σ sz) (zQi ((-900001)) D cy N n ad (σ) sz) 1 6 (zA n ad sz) := by
  refine z_metH (by decide) hls (List.forall_mem_cons.mpr ⟨rfl, (List.forall_mem_cons.mpr ⟨rfl, (fun _ h => nomatch h)⟩)⟩) (Nat.le_of_ble_eq_true rfl) (fun p_ e_ s_ m_ below_ meth_ c_ hsz hr ht X => ?_)
  have X : zX p_ l s_ m_ [.ref (ad 0), .int x].toArray meth_ c_ cL_type 3 RL D cy wa (zA n ad sz) := X
  have hAd : ∀ i, i < n → zA n ad sz (ad i) := fun i hi => Or.inl ⟨i, hi, rfl⟩
  refine zw_run X (is := [(0, .aload_n 0, 1), (1, .iload_n 1, 1)]) (t' := (2, [some (.ref (ad 0)), some (.int x), none], [.int x, .ref (ad 0)])) ⟨dL_type_0, dL_type_1, trivial⟩ rfl ?_
  refine zw_catch X hAd ht (E := "java/lang/IllegalArgumentException") (by decide +kernel) [] [(0, 5, 10, 18)] (0, 5, 6, 15) rfl (fun _ h => nomatch h) ⟨by decide, by decide⟩ (by decide) zm_102 (As := [.int x]) (rest := []) (d := 2) (i := 0) (by omega) zc_0 (q := (RX7, TX7, 16)) rfl ⟨zm_219, zm_220, zm_221, zm_2, zm_222, rfl, by decide, by decide, (show (parseMethodDescriptor yX7_type.desc).map (fun d => d.parameters.length) = some 1 by decide +kernel)⟩ (fun sz => c_type_bad hls hD hn σ x h1 sz) rfl rfl (Nat.le_of_ble_eq_true rfl) ⟨Nat.le_of_ble_eq_true rfl, Nat.le_of_ble_eq_true rfl⟩ ⟨Nat.le_of_ble_eq_true rfl, Nat.le_of_ble_eq_true rfl⟩ dL_type_2 (fun q9 => ?_)
  refine zw_run X (is := [(6, .astore_n 2, 1)]) (t' := (7, [some (.ref (ad 0)), some (.int x), some (.ref (q9))], [])) ⟨dL_type_6, trivial⟩ rfl ?_
  refine zw_ldc X (v := (-900001)) zm_8 dL_type_7 ?_
  exact zw_iret X hr dL_type_9 rfl rfl rfl

set_option maxHeartbeats 4000000 in
set_option maxRecDepth 100000 in
theorem w_subject {l : Launch} (hls : l.stackTraces = false) {D : va_G} {cy : Nat → ClassId} {wa : Nat → Nat} {N n : Nat} {ad : Nat → Nat} (hD : zD n ad) (hn : 40 ≤ n) (σ : zS) (gc : Nat) (hgc : gc ≤ 8) (e0 : σ 0 11 = nI gc) (g : Nat) (hg : g < gc) (k : Nat) (hk : k < 5) (e1 : σ 4 1 = nI (zlen k)) (heq : ∀ j, j < zlen k → (zbyt k).getD j 0 = σ 5 j) (ho : σ (8 + g) 2 = 0) (tp : Nat) (htp : tp < 5) (et : σ (16 + g) 2 = nI tp) (sz : Nat) : Met l yL_subject (.codeWith yL_subject cL_subject 3 (some .int) [(0, 5, 6, 25), (0, 5, 10, 27)] :: zB) (zRm 11) (zPc [.ref (ad 0), .int (nI g)] D cy wa N n ad σ sz) (zQi ((zbyt tp).getD 0 0) D cy N n ad (zu σ (16 + g) 2 (nI k)) sz) 0 0 (zA n ad sz) := by
  refine z_metH (by decide) hls (List.forall_mem_cons.mpr ⟨rfl, (List.forall_mem_cons.mpr ⟨rfl, (fun _ h => nomatch h)⟩)⟩) (Nat.le_of_ble_eq_true rfl) (fun p_ e_ s_ m_ below_ meth_ c_ hsz hr ht X => ?_)
  have X : zX p_ l s_ m_ [.ref (ad 0), .int (nI g)].toArray meth_ c_ cL_subject 3 RL D cy wa (zA n ad sz) := X
  have hAd : ∀ i, i < n → zA n ad sz (ad i) := fun i hi => Or.inl ⟨i, hi, rfl⟩
  refine zw_run X (is := [(0, .aload_n 0, 1), (1, .iload_n 1, 1)]) (t' := (2, [some (.ref (ad 0)), some (.int (nI g)), none], [.int (nI g), .ref (ad 0)])) ⟨dL_subject_0, dL_subject_1, trivial⟩ rfl ?_
  refine zw_Vi X hAd (As := [.int (nI g)]) (rest := []) (d := 10) (i := 0) (by omega) zc_0 (q := (RX7, TX7, 16)) rfl ⟨zm_330, zm_331, zm_332, zm_2, zm_333, rfl, by decide, by decide, (show (parseMethodDescriptor yX7_subject.desc).map (fun d => d.parameters.length) = some 1 by decide +kernel)⟩ (fun sz => c_subject hls hD hn σ gc hgc e0 g hg k hk e1 heq ho tp htp et sz) rfl rfl (Nat.le_of_ble_eq_true rfl) ⟨Nat.le_of_ble_eq_true rfl, Nat.le_of_ble_eq_true rfl⟩ ⟨Nat.zero_le _, Nat.zero_le _⟩ dL_subject_2 ?_
  exact zw_iret X hr dL_subject_5 rfl rfl rfl

set_option maxHeartbeats 4000000 in
set_option maxRecDepth 100000 in
theorem w_subject_over {l : Launch} (hls : l.stackTraces = false) {D : va_G} {cy : Nat → ClassId} {wa : Nat → Nat} {N n : Nat} {ad : Nat → Nat} (hD : zD n ad) (hn : 40 ≤ n) (σ : zS) (gc : Nat) (hgc : gc ≤ 8) (e0 : σ 0 11 = nI gc) (g : Nat) (hg : g < gc) (k : Nat) (hk : k < 5) (e1 : σ 4 1 = nI (zlen k)) (heq : ∀ j, j < zlen k → (zbyt k).getD j 0 = σ 5 j) (ho : ¬ σ (8 + g) 2 = 0) (sz : Nat) : Met l yL_subject (.codeWith yL_subject cL_subject 3 (some .int) [(0, 5, 6, 25), (0, 5, 10, 27)] :: zB) (zRx 11) (zPc [.ref (ad 0), .int (nI g)] D cy wa N n ad σ sz) (zQi ((-900002)) D cy N n ad (σ) sz) 1 6 (zA n ad sz) := by
  refine z_metH (by decide) hls (List.forall_mem_cons.mpr ⟨rfl, (List.forall_mem_cons.mpr ⟨rfl, (fun _ h => nomatch h)⟩)⟩) (Nat.le_of_ble_eq_true rfl) (fun p_ e_ s_ m_ below_ meth_ c_ hsz hr ht X => ?_)
  have X : zX p_ l s_ m_ [.ref (ad 0), .int (nI g)].toArray meth_ c_ cL_subject 3 RL D cy wa (zA n ad sz) := X
  have hAd : ∀ i, i < n → zA n ad sz (ad i) := fun i hi => Or.inl ⟨i, hi, rfl⟩
  refine zw_run X (is := [(0, .aload_n 0, 1), (1, .iload_n 1, 1)]) (t' := (2, [some (.ref (ad 0)), some (.int (nI g)), none], [.int (nI g), .ref (ad 0)])) ⟨dL_subject_0, dL_subject_1, trivial⟩ rfl ?_
  refine zw_catch X hAd ht (E := "java/lang/UnsupportedOperationException") (by decide +kernel) [(0, 5, 6, 25)] [] (0, 5, 10, 27) rfl (List.forall_mem_cons.mpr ⟨⟨by decide, _, zm_129, by decide +kernel⟩, (fun _ h => nomatch h)⟩) ⟨by decide, by decide⟩ (by decide) zm_144 (As := [.int (nI g)]) (rest := []) (d := 10) (i := 0) (by omega) zc_0 (q := (RX7, TX7, 16)) rfl ⟨zm_330, zm_331, zm_332, zm_2, zm_333, rfl, by decide, by decide, (show (parseMethodDescriptor yX7_subject.desc).map (fun d => d.parameters.length) = some 1 by decide +kernel)⟩ (fun sz => c_subject_over hls hD hn σ gc hgc e0 g hg k hk e1 heq ho sz) rfl rfl (Nat.le_of_ble_eq_true rfl) ⟨Nat.le_of_ble_eq_true rfl, Nat.le_of_ble_eq_true rfl⟩ ⟨Nat.le_of_ble_eq_true rfl, Nat.le_of_ble_eq_true rfl⟩ dL_subject_2 (fun q9 => ?_)
  refine zw_run X (is := [(10, .astore_n 2, 1)]) (t' := (11, [some (.ref (ad 0)), some (.int (nI g)), some (.ref (q9))], [])) ⟨dL_subject_10, trivial⟩ rfl ?_
  refine zw_ldc X (v := (-900002)) zm_10 dL_subject_11 ?_
  exact zw_iret X hr dL_subject_13 rfl rfl rfl

set_option maxHeartbeats 4000000 in
set_option maxRecDepth 100000 in
theorem w_subject_none {l : Launch} (hls : l.stackTraces = false) {D : va_G} {cy : Nat → ClassId} {wa : Nat → Nat} {N n : Nat} {ad : Nat → Nat} (hD : zD n ad) (hn : 40 ≤ n) (σ : zS) (gc : Nat) (hgc : gc ≤ 8) (e0 : σ 0 11 = nI gc) (g : Nat) (hg : g < gc) (cnt : Nat) (hc : cnt = 0 ∨ cnt = 6) (e1 : σ 4 1 = nI cnt)  (sz : Nat) : Met l yL_subject (.codeWith yL_subject cL_subject 3 (some .int) [(0, 5, 6, 25), (0, 5, 10, 27)] :: zB) (zRx 11) (zPc [.ref (ad 0), .int (nI g)] D cy wa N n ad σ sz) (zQi ((-900002)) D cy N n ad (σ) sz) 1 6 (zA n ad sz) := by
  refine z_metH (by decide) hls (List.forall_mem_cons.mpr ⟨rfl, (List.forall_mem_cons.mpr ⟨rfl, (fun _ h => nomatch h)⟩)⟩) (Nat.le_of_ble_eq_true rfl) (fun p_ e_ s_ m_ below_ meth_ c_ hsz hr ht X => ?_)
  have X : zX p_ l s_ m_ [.ref (ad 0), .int (nI g)].toArray meth_ c_ cL_subject 3 RL D cy wa (zA n ad sz) := X
  have hAd : ∀ i, i < n → zA n ad sz (ad i) := fun i hi => Or.inl ⟨i, hi, rfl⟩
  refine zw_run X (is := [(0, .aload_n 0, 1), (1, .iload_n 1, 1)]) (t' := (2, [some (.ref (ad 0)), some (.int (nI g)), none], [.int (nI g), .ref (ad 0)])) ⟨dL_subject_0, dL_subject_1, trivial⟩ rfl ?_
  refine zw_catch X hAd ht (E := "java/lang/UnsupportedOperationException") (by decide +kernel) [(0, 5, 6, 25)] [] (0, 5, 10, 27) rfl (List.forall_mem_cons.mpr ⟨⟨by decide, _, zm_129, by decide +kernel⟩, (fun _ h => nomatch h)⟩) ⟨by decide, by decide⟩ (by decide) zm_144 (As := [.int (nI g)]) (rest := []) (d := 10) (i := 0) (by omega) zc_0 (q := (RX7, TX7, 16)) rfl ⟨zm_330, zm_331, zm_332, zm_2, zm_333, rfl, by decide, by decide, (show (parseMethodDescriptor yX7_subject.desc).map (fun d => d.parameters.length) = some 1 by decide +kernel)⟩ (fun sz => c_subject_none hls hD hn σ gc hgc e0 g hg cnt hc e1 sz) rfl rfl (Nat.le_of_ble_eq_true rfl) ⟨Nat.le_of_ble_eq_true rfl, Nat.le_of_ble_eq_true rfl⟩ ⟨Nat.le_of_ble_eq_true rfl, Nat.le_of_ble_eq_true rfl⟩ dL_subject_2 (fun q9 => ?_)
  refine zw_run X (is := [(10, .astore_n 2, 1)]) (t' := (11, [some (.ref (ad 0)), some (.int (nI g)), some (.ref (q9))], [])) ⟨dL_subject_10, trivial⟩ rfl ?_
  refine zw_ldc X (v := (-900002)) zm_10 dL_subject_11 ?_
  exact zw_iret X hr dL_subject_13 rfl rfl rfl

set_option maxHeartbeats 4000000 in
set_option maxRecDepth 100000 in
theorem w_learn {l : Launch} (hls : l.stackTraces = false) {D : va_G} {cy : Nat → ClassId} {wa : Nat → Nat} {N n : Nat} {ad : Nat → Nat} (hD : zD n ad) (hn : 40 ≤ n) (σ : zS) (gc : Nat) (hgc : gc ≤ 8) (e0 : σ 0 11 = nI gc) (g : Nat) (hg : g < gc) (x : Int32) (h1 : ¬ x < 1) (h2 : x ≤ 30) (ho : σ (8 + g) 2 = 0) (sz : Nat) : Met l yL_learn (.codeWith yL_learn cL_learn 4 (some .int) [(0, 6, 7, 25), (0, 6, 11, 15), (0, 6, 15, 27)] :: zB) (zRm 3) (zPc [.ref (ad 0), .int (nI g), .int x] D cy wa N n ad σ sz) (zQi (if σ (16 + g) 3 + 5 * x < 100 then σ (16 + g) 3 + 5 * x else 100) D cy N n ad (zu σ (16 + g) 3 (if σ (16 + g) 3 + 5 * x < 100 then σ (16 + g) 3 + 5 * x else 100)) sz) 0 0 (zA n ad sz) := by
  refine z_metH (by decide) hls (List.forall_mem_cons.mpr ⟨rfl, (List.forall_mem_cons.mpr ⟨rfl, (List.forall_mem_cons.mpr ⟨rfl, (fun _ h => nomatch h)⟩)⟩)⟩) (Nat.le_of_ble_eq_true rfl) (fun p_ e_ s_ m_ below_ meth_ c_ hsz hr ht X => ?_)
  have X : zX p_ l s_ m_ [.ref (ad 0), .int (nI g), .int x].toArray meth_ c_ cL_learn 4 RL D cy wa (zA n ad sz) := X
  have hAd : ∀ i, i < n → zA n ad sz (ad i) := fun i hi => Or.inl ⟨i, hi, rfl⟩
  refine zw_run X (is := [(0, .aload_n 0, 1), (1, .iload_n 1, 1), (2, .iload_n 2, 1)]) (t' := (3, [some (.ref (ad 0)), some (.int (nI g)), some (.int x), none], [.int x, .int (nI g), .ref (ad 0)])) ⟨dL_learn_0, dL_learn_1, dL_learn_2, trivial⟩ rfl ?_
  refine zw_Vi X hAd (As := [.int (nI g), .int x]) (rest := []) (d := 2) (i := 0) (by omega) zc_0 (q := (RX7, TX7, 16)) rfl ⟨zm_231, zm_232, zm_233, zm_2, zm_234, rfl, by decide, by decide, (show (parseMethodDescriptor yX7_learn.desc).map (fun d => d.parameters.length) = some 2 by decide +kernel)⟩ (fun sz => c_learn hls hD hn σ gc hgc e0 g hg x h1 h2 ho sz) rfl rfl (Nat.le_of_ble_eq_true rfl) ⟨Nat.le_of_ble_eq_true rfl, Nat.le_of_ble_eq_true rfl⟩ ⟨Nat.zero_le _, Nat.zero_le _⟩ dL_learn_3 ?_
  exact zw_iret X hr dL_learn_6 rfl rfl rfl

set_option maxHeartbeats 4000000 in
set_option maxRecDepth 100000 in
theorem w_learn_over {l : Launch} (hls : l.stackTraces = false) {D : va_G} {cy : Nat → ClassId} {wa : Nat → Nat} {N n : Nat} {ad : Nat → Nat} (hD : zD n ad) (hn : 40 ≤ n) (σ : zS) (gc : Nat) (hgc : gc ≤ 8) (e0 : σ 0 11 = nI gc) (g : Nat) (hg : g < gc) (x : Int32) (h1 : ¬ x < 1) (h2 : x ≤ 30) (ho : ¬ σ (8 + g) 2 = 0) (sz : Nat) : Met l yL_learn (.codeWith yL_learn cL_learn 4 (some .int) [(0, 6, 7, 25), (0, 6, 11, 15), (0, 6, 15, 27)] :: zB) (zRx 3) (zPc [.ref (ad 0), .int (nI g), .int x] D cy wa N n ad σ sz) (zQi ((-900003)) D cy N n ad (σ) sz) 1 6 (zA n ad sz) := by
  refine z_metH (by decide) hls (List.forall_mem_cons.mpr ⟨rfl, (List.forall_mem_cons.mpr ⟨rfl, (List.forall_mem_cons.mpr ⟨rfl, (fun _ h => nomatch h)⟩)⟩)⟩) (Nat.le_of_ble_eq_true rfl) (fun p_ e_ s_ m_ below_ meth_ c_ hsz hr ht X => ?_)
  have X : zX p_ l s_ m_ [.ref (ad 0), .int (nI g), .int x].toArray meth_ c_ cL_learn 4 RL D cy wa (zA n ad sz) := X
  have hAd : ∀ i, i < n → zA n ad sz (ad i) := fun i hi => Or.inl ⟨i, hi, rfl⟩
  refine zw_run X (is := [(0, .aload_n 0, 1), (1, .iload_n 1, 1), (2, .iload_n 2, 1)]) (t' := (3, [some (.ref (ad 0)), some (.int (nI g)), some (.int x), none], [.int x, .int (nI g), .ref (ad 0)])) ⟨dL_learn_0, dL_learn_1, dL_learn_2, trivial⟩ rfl ?_
  refine zw_catch X hAd ht (E := "java/lang/UnsupportedOperationException") (by decide +kernel) [(0, 6, 7, 25), (0, 6, 11, 15)] [] (0, 6, 15, 27) rfl (List.forall_mem_cons.mpr ⟨⟨by decide, _, zm_129, by decide +kernel⟩, (List.forall_mem_cons.mpr ⟨⟨by decide, _, zm_102, by decide +kernel⟩, (fun _ h => nomatch h)⟩)⟩) ⟨by decide, by decide⟩ (by decide) zm_144 (As := [.int (nI g), .int x]) (rest := []) (d := 2) (i := 0) (by omega) zc_0 (q := (RX7, TX7, 16)) rfl ⟨zm_231, zm_232, zm_233, zm_2, zm_234, rfl, by decide, by decide, (show (parseMethodDescriptor yX7_learn.desc).map (fun d => d.parameters.length) = some 2 by decide +kernel)⟩ (fun sz => c_learn_over hls hD hn σ gc hgc e0 g hg x h1 h2 ho sz) rfl rfl (Nat.le_of_ble_eq_true rfl) ⟨Nat.le_of_ble_eq_true rfl, Nat.le_of_ble_eq_true rfl⟩ ⟨Nat.le_of_ble_eq_true rfl, Nat.le_of_ble_eq_true rfl⟩ dL_learn_3 (fun q9 => ?_)
  refine zw_run X (is := [(15, .astore_n 3, 1)]) (t' := (16, [some (.ref (ad 0)), some (.int (nI g)), some (.int x), some (.ref (q9))], [])) ⟨dL_learn_15, trivial⟩ rfl ?_
  refine zw_ldc X (v := (-900003)) zm_9 dL_learn_16 ?_
  exact zw_iret X hr dL_learn_18 rfl rfl rfl

set_option maxHeartbeats 4000000 in
set_option maxRecDepth 100000 in
theorem w_learn_bad {l : Launch} (hls : l.stackTraces = false) {D : va_G} {cy : Nat → ClassId} {wa : Nat → Nat} {N n : Nat} {ad : Nat → Nat} (hD : zD n ad) (hn : 40 ≤ n) (σ : zS) (gc : Nat) (hgc : gc ≤ 8) (e0 : σ 0 11 = nI gc) (g : Nat) (hg : g < gc)  (sz : Nat) : Met l yL_learn (.codeWith yL_learn cL_learn 4 (some .int) [(0, 6, 7, 25), (0, 6, 11, 15), (0, 6, 15, 27)] :: zB) (zRx 3) (zPc [.ref (ad 0), .int (nI g), .int 31] D cy wa N n ad σ sz) (zQi ((-900002)) D cy N n ad (σ) sz) 1 6 (zA n ad sz) := by
  refine z_metH (by decide) hls (List.forall_mem_cons.mpr ⟨rfl, (List.forall_mem_cons.mpr ⟨rfl, (List.forall_mem_cons.mpr ⟨rfl, (fun _ h => nomatch h)⟩)⟩)⟩) (Nat.le_of_ble_eq_true rfl) (fun p_ e_ s_ m_ below_ meth_ c_ hsz hr ht X => ?_)
  have X : zX p_ l s_ m_ [.ref (ad 0), .int (nI g), .int 31].toArray meth_ c_ cL_learn 4 RL D cy wa (zA n ad sz) := X
  have hAd : ∀ i, i < n → zA n ad sz (ad i) := fun i hi => Or.inl ⟨i, hi, rfl⟩
  refine zw_run X (is := [(0, .aload_n 0, 1), (1, .iload_n 1, 1), (2, .iload_n 2, 1)]) (t' := (3, [some (.ref (ad 0)), some (.int (nI g)), some (.int 31), none], [.int 31, .int (nI g), .ref (ad 0)])) ⟨dL_learn_0, dL_learn_1, dL_learn_2, trivial⟩ rfl ?_
  refine zw_catch X hAd ht (E := "java/lang/IllegalArgumentException") (by decide +kernel) [(0, 6, 7, 25)] [(0, 6, 15, 27)] (0, 6, 11, 15) rfl (List.forall_mem_cons.mpr ⟨⟨by decide, _, zm_129, by decide +kernel⟩, (fun _ h => nomatch h)⟩) ⟨by decide, by decide⟩ (by decide) zm_102 (As := [.int (nI g), .int 31]) (rest := []) (d := 2) (i := 0) (by omega) zc_0 (q := (RX7, TX7, 16)) rfl ⟨zm_231, zm_232, zm_233, zm_2, zm_234, rfl, by decide, by decide, (show (parseMethodDescriptor yX7_learn.desc).map (fun d => d.parameters.length) = some 2 by decide +kernel)⟩ (fun sz => c_learn_bad hls hD hn σ gc hgc e0 g hg  sz) rfl rfl (Nat.le_of_ble_eq_true rfl) ⟨Nat.le_of_ble_eq_true rfl, Nat.le_of_ble_eq_true rfl⟩ ⟨Nat.le_of_ble_eq_true rfl, Nat.le_of_ble_eq_true rfl⟩ dL_learn_3 (fun q9 => ?_)
  refine zw_run X (is := [(11, .astore_n 3, 1)]) (t' := (12, [some (.ref (ad 0)), some (.int (nI g)), some (.int 31), some (.ref (q9))], [])) ⟨dL_learn_11, trivial⟩ rfl ?_
  refine zw_ldc X (v := (-900002)) zm_10 dL_learn_12 ?_
  exact zw_iret X hr dL_learn_14 rfl rfl rfl

set_option maxHeartbeats 4000000 in
set_option maxRecDepth 100000 in
theorem w_cast {l : Launch} (hls : l.stackTraces = false) {D : va_G} {cy : Nat → ClassId} {wa : Nat → Nat} {N n : Nat} {ad : Nat → Nat} (hD : zD n ad) (hn : 40 ≤ n) (σ : zS) (gc : Nat) (hgc : gc ≤ 8) (e0 : σ 0 11 = nI gc) (g : Nat) (hg : g < gc) (k : Nat) (hk : k < 8) (x : Int32) (hk2 : nI k < σ (16 + g) 1) (h1 : ¬ x < -1) (h2 : x ≤ 19) (sz : Nat) : Met l yL_cast (.codeWith yL_cast cL_cast 5 (some .int) [(0, 7, 8, 25), (0, 7, 13, 15)] :: zB) (zRm 3) (zPc [.ref (ad 0), .int (nI g), .int (nI k), .int x] D cy wa N n ad σ sz) (zQi (σ (24 + g) k) D cy N n ad (zu σ (24 + g) k x) sz) 0 0 (zA n ad sz) := by
  refine z_metH (by decide) hls (List.forall_mem_cons.mpr ⟨rfl, (List.forall_mem_cons.mpr ⟨rfl, (List.forall_mem_cons.mpr ⟨rfl, (List.forall_mem_cons.mpr ⟨rfl, (fun _ h => nomatch h)⟩)⟩)⟩)⟩) (Nat.le_of_ble_eq_true rfl) (fun p_ e_ s_ m_ below_ meth_ c_ hsz hr ht X => ?_)
  have X : zX p_ l s_ m_ [.ref (ad 0), .int (nI g), .int (nI k), .int x].toArray meth_ c_ cL_cast 5 RL D cy wa (zA n ad sz) := X
  have hAd : ∀ i, i < n → zA n ad sz (ad i) := fun i hi => Or.inl ⟨i, hi, rfl⟩
  refine zw_run X (is := [(0, .aload_n 0, 1), (1, .iload_n 1, 1), (2, .iload_n 2, 1), (3, .iload_n 3, 1)]) (t' := (4, [some (.ref (ad 0)), some (.int (nI g)), some (.int (nI k)), some (.int x), none], [.int x, .int (nI k), .int (nI g), .ref (ad 0)])) ⟨dL_cast_0, dL_cast_1, dL_cast_2, dL_cast_3, trivial⟩ rfl ?_
  refine zw_Vi X hAd (As := [.int (nI g), .int (nI k), .int x]) (rest := []) (d := 2) (i := 0) (by omega) zc_0 (q := (RX7, TX7, 16)) rfl ⟨zm_247, zm_248, zm_249, zm_2, zm_250, rfl, by decide, by decide, (show (parseMethodDescriptor yX7_cast.desc).map (fun d => d.parameters.length) = some 3 by decide +kernel)⟩ (fun sz => c_cast hls hD hn σ gc hgc e0 g hg k hk x hk2 h1 h2 sz) rfl rfl (Nat.le_of_ble_eq_true rfl) ⟨Nat.le_of_ble_eq_true rfl, Nat.le_of_ble_eq_true rfl⟩ ⟨Nat.zero_le _, Nat.zero_le _⟩ dL_cast_4 ?_
  exact zw_iret X hr dL_cast_7 rfl rfl rfl

set_option maxHeartbeats 4000000 in
set_option maxRecDepth 100000 in
theorem w_cast_part {l : Launch} (hls : l.stackTraces = false) {D : va_G} {cy : Nat → ClassId} {wa : Nat → Nat} {N n : Nat} {ad : Nat → Nat} (hD : zD n ad) (hn : 40 ≤ n) (σ : zS) (gc : Nat) (hgc : gc ≤ 8) (e0 : σ 0 11 = nI gc) (g : Nat) (hg : g < gc) (k x : Int32) (h1 : ¬ k < 0) (h2 : ¬ k < σ (16 + g) 1) (sz : Nat) : Met l yL_cast (.codeWith yL_cast cL_cast 5 (some .int) [(0, 7, 8, 25), (0, 7, 13, 15)] :: zB) (zRx 3) (zPc [.ref (ad 0), .int (nI g), .int k, .int x] D cy wa N n ad σ sz) (zQi ((-900001)) D cy N n ad (σ) sz) 1 6 (zA n ad sz) := by
  refine z_metH (by decide) hls (List.forall_mem_cons.mpr ⟨rfl, (List.forall_mem_cons.mpr ⟨rfl, (List.forall_mem_cons.mpr ⟨rfl, (List.forall_mem_cons.mpr ⟨rfl, (fun _ h => nomatch h)⟩)⟩)⟩)⟩) (Nat.le_of_ble_eq_true rfl) (fun p_ e_ s_ m_ below_ meth_ c_ hsz hr ht X => ?_)
  have X : zX p_ l s_ m_ [.ref (ad 0), .int (nI g), .int k, .int x].toArray meth_ c_ cL_cast 5 RL D cy wa (zA n ad sz) := X
  have hAd : ∀ i, i < n → zA n ad sz (ad i) := fun i hi => Or.inl ⟨i, hi, rfl⟩
  refine zw_run X (is := [(0, .aload_n 0, 1), (1, .iload_n 1, 1), (2, .iload_n 2, 1), (3, .iload_n 3, 1)]) (t' := (4, [some (.ref (ad 0)), some (.int (nI g)), some (.int k), some (.int x), none], [.int x, .int k, .int (nI g), .ref (ad 0)])) ⟨dL_cast_0, dL_cast_1, dL_cast_2, dL_cast_3, trivial⟩ rfl ?_
  refine zw_catch X hAd ht (E := "java/lang/IndexOutOfBoundsException") (by decide +kernel) [] [(0, 7, 13, 15)] (0, 7, 8, 25) rfl (fun _ h => nomatch h) ⟨by decide, by decide⟩ (by decide) zm_129 (As := [.int (nI g), .int k, .int x]) (rest := []) (d := 2) (i := 0) (by omega) zc_0 (q := (RX7, TX7, 16)) rfl ⟨zm_247, zm_248, zm_249, zm_2, zm_250, rfl, by decide, by decide, (show (parseMethodDescriptor yX7_cast.desc).map (fun d => d.parameters.length) = some 3 by decide +kernel)⟩ (fun sz => c_cast_part hls hD hn σ gc hgc e0 g hg k x h1 h2 sz) rfl rfl (Nat.le_of_ble_eq_true rfl) ⟨Nat.le_of_ble_eq_true rfl, Nat.le_of_ble_eq_true rfl⟩ ⟨Nat.le_of_ble_eq_true rfl, Nat.le_of_ble_eq_true rfl⟩ dL_cast_4 (fun q9 => ?_)
  refine zw_run X (is := [(8, .astore 4, 2)]) (t' := (10, [some (.ref (ad 0)), some (.int (nI g)), some (.int k), some (.int x), some (.ref (q9))], [])) ⟨dL_cast_8, trivial⟩ rfl ?_
  refine zw_ldc X (v := (-900001)) zm_8 dL_cast_10 ?_
  exact zw_iret X hr dL_cast_12 rfl rfl rfl

set_option maxHeartbeats 4000000 in
set_option maxRecDepth 100000 in
theorem w_cast_bad {l : Launch} (hls : l.stackTraces = false) {D : va_G} {cy : Nat → ClassId} {wa : Nat → Nat} {N n : Nat} {ad : Nat → Nat} (hD : zD n ad) (hn : 40 ≤ n) (σ : zS) (gc : Nat) (hgc : gc ≤ 8) (e0 : σ 0 11 = nI gc) (g : Nat) (hg : g < gc) (k : Int32) (h1 : ¬ k < 0) (hk2 : k < σ (16 + g) 1) (sz : Nat) : Met l yL_cast (.codeWith yL_cast cL_cast 5 (some .int) [(0, 7, 8, 25), (0, 7, 13, 15)] :: zB) (zRx 3) (zPc [.ref (ad 0), .int (nI g), .int k, .int 20] D cy wa N n ad σ sz) (zQi ((-900002)) D cy N n ad (σ) sz) 1 6 (zA n ad sz) := by
  refine z_metH (by decide) hls (List.forall_mem_cons.mpr ⟨rfl, (List.forall_mem_cons.mpr ⟨rfl, (List.forall_mem_cons.mpr ⟨rfl, (List.forall_mem_cons.mpr ⟨rfl, (fun _ h => nomatch h)⟩)⟩)⟩)⟩) (Nat.le_of_ble_eq_true rfl) (fun p_ e_ s_ m_ below_ meth_ c_ hsz hr ht X => ?_)
  have X : zX p_ l s_ m_ [.ref (ad 0), .int (nI g), .int k, .int 20].toArray meth_ c_ cL_cast 5 RL D cy wa (zA n ad sz) := X
  have hAd : ∀ i, i < n → zA n ad sz (ad i) := fun i hi => Or.inl ⟨i, hi, rfl⟩
  refine zw_run X (is := [(0, .aload_n 0, 1), (1, .iload_n 1, 1), (2, .iload_n 2, 1), (3, .iload_n 3, 1)]) (t' := (4, [some (.ref (ad 0)), some (.int (nI g)), some (.int k), some (.int 20), none], [.int 20, .int k, .int (nI g), .ref (ad 0)])) ⟨dL_cast_0, dL_cast_1, dL_cast_2, dL_cast_3, trivial⟩ rfl ?_
  refine zw_catch X hAd ht (E := "java/lang/IllegalArgumentException") (by decide +kernel) [(0, 7, 8, 25)] [] (0, 7, 13, 15) rfl (List.forall_mem_cons.mpr ⟨⟨by decide, _, zm_129, by decide +kernel⟩, (fun _ h => nomatch h)⟩) ⟨by decide, by decide⟩ (by decide) zm_102 (As := [.int (nI g), .int k, .int 20]) (rest := []) (d := 2) (i := 0) (by omega) zc_0 (q := (RX7, TX7, 16)) rfl ⟨zm_247, zm_248, zm_249, zm_2, zm_250, rfl, by decide, by decide, (show (parseMethodDescriptor yX7_cast.desc).map (fun d => d.parameters.length) = some 3 by decide +kernel)⟩ (fun sz => c_cast_bad hls hD hn σ gc hgc e0 g hg k h1 hk2 sz) rfl rfl (Nat.le_of_ble_eq_true rfl) ⟨Nat.le_of_ble_eq_true rfl, Nat.le_of_ble_eq_true rfl⟩ ⟨Nat.le_of_ble_eq_true rfl, Nat.le_of_ble_eq_true rfl⟩ dL_cast_4 (fun q9 => ?_)
  refine zw_run X (is := [(13, .astore 4, 2)]) (t' := (15, [some (.ref (ad 0)), some (.int (nI g)), some (.int k), some (.int 20), some (.ref (q9))], [])) ⟨dL_cast_13, trivial⟩ rfl ?_
  refine zw_ldc X (v := (-900002)) zm_10 dL_cast_15 ?_
  exact zw_iret X hr dL_cast_17 rfl rfl rfl

set_option maxHeartbeats 4000000 in
set_option maxRecDepth 100000 in
theorem w_wagon {l : Launch} (hls : l.stackTraces = false) {D : va_G} {cy : Nat → ClassId} {wa : Nat → Nat} {N n : Nat} {ad : Nat → Nat} (hD : zD n ad) (hn : 40 ≤ n) (σ : zS) (gc : Nat) (hgc : gc ≤ 8) (e0 : σ 0 11 = nI gc) (g : Nat) (hg : g < gc) (x y : Int32) (h1 : ¬ x < 1) (h2 : x ≤ 9) (h3 : ¬ y < 0) (h4 : y ≤ 9) (sz : Nat) : Met l yL_wagon (.codeWith yL_wagon cL_wagon 5 (some .int) [(0, 7, 8, 25), (0, 7, 13, 15)] :: zB) (zRm 3) (zPc [.ref (ad 0), .int (nI g), .int x, .int y] D cy wa N n ad σ sz) (zQi (σ (8 + g) 3) D cy N n ad (zu (zu σ (8 + g) 3 x) (8 + g) 4 y) sz) 0 0 (zA n ad sz) := by
  refine z_metH (by decide) hls (List.forall_mem_cons.mpr ⟨rfl, (List.forall_mem_cons.mpr ⟨rfl, (List.forall_mem_cons.mpr ⟨rfl, (List.forall_mem_cons.mpr ⟨rfl, (fun _ h => nomatch h)⟩)⟩)⟩)⟩) (Nat.le_of_ble_eq_true rfl) (fun p_ e_ s_ m_ below_ meth_ c_ hsz hr ht X => ?_)
  have X : zX p_ l s_ m_ [.ref (ad 0), .int (nI g), .int x, .int y].toArray meth_ c_ cL_wagon 5 RL D cy wa (zA n ad sz) := X
  have hAd : ∀ i, i < n → zA n ad sz (ad i) := fun i hi => Or.inl ⟨i, hi, rfl⟩
  refine zw_run X (is := [(0, .aload_n 0, 1), (1, .iload_n 1, 1), (2, .iload_n 2, 1), (3, .iload_n 3, 1)]) (t' := (4, [some (.ref (ad 0)), some (.int (nI g)), some (.int x), some (.int y), none], [.int y, .int x, .int (nI g), .ref (ad 0)])) ⟨dL_wagon_0, dL_wagon_1, dL_wagon_2, dL_wagon_3, trivial⟩ rfl ?_
  refine zw_Vi X hAd (As := [.int (nI g), .int x, .int y]) (rest := []) (d := 2) (i := 0) (by omega) zc_0 (q := (RX7, TX7, 16)) rfl ⟨zm_377, zm_378, zm_379, zm_2, zm_380, rfl, by decide, by decide, (show (parseMethodDescriptor yX7_wagon.desc).map (fun d => d.parameters.length) = some 3 by decide +kernel)⟩ (fun sz => c_wagon hls hD hn σ gc hgc e0 g hg x y h1 h2 h3 h4 sz) rfl rfl (Nat.le_of_ble_eq_true rfl) ⟨Nat.le_of_ble_eq_true rfl, Nat.le_of_ble_eq_true rfl⟩ ⟨Nat.zero_le _, Nat.zero_le _⟩ dL_wagon_4 ?_
  exact zw_iret X hr dL_wagon_7 rfl rfl rfl

set_option maxHeartbeats 4000000 in
set_option maxRecDepth 100000 in
theorem w_wagon_bad {l : Launch} (hls : l.stackTraces = false) {D : va_G} {cy : Nat → ClassId} {wa : Nat → Nat} {N n : Nat} {ad : Nat → Nat} (hD : zD n ad) (hn : 40 ≤ n) (σ : zS) (gc : Nat) (hgc : gc ≤ 8) (e0 : σ 0 11 = nI gc) (g : Nat) (hg : g < gc) (y : Int32) (sz : Nat) : Met l yL_wagon (.codeWith yL_wagon cL_wagon 5 (some .int) [(0, 7, 8, 25), (0, 7, 13, 15)] :: zB) (zRx 3) (zPc [.ref (ad 0), .int (nI g), .int 10, .int y] D cy wa N n ad σ sz) (zQi ((-900002)) D cy N n ad (σ) sz) 1 6 (zA n ad sz) := by
  refine z_metH (by decide) hls (List.forall_mem_cons.mpr ⟨rfl, (List.forall_mem_cons.mpr ⟨rfl, (List.forall_mem_cons.mpr ⟨rfl, (List.forall_mem_cons.mpr ⟨rfl, (fun _ h => nomatch h)⟩)⟩)⟩)⟩) (Nat.le_of_ble_eq_true rfl) (fun p_ e_ s_ m_ below_ meth_ c_ hsz hr ht X => ?_)
  have X : zX p_ l s_ m_ [.ref (ad 0), .int (nI g), .int 10, .int y].toArray meth_ c_ cL_wagon 5 RL D cy wa (zA n ad sz) := X
  have hAd : ∀ i, i < n → zA n ad sz (ad i) := fun i hi => Or.inl ⟨i, hi, rfl⟩
  refine zw_run X (is := [(0, .aload_n 0, 1), (1, .iload_n 1, 1), (2, .iload_n 2, 1), (3, .iload_n 3, 1)]) (t' := (4, [some (.ref (ad 0)), some (.int (nI g)), some (.int 10), some (.int y), none], [.int y, .int 10, .int (nI g), .ref (ad 0)])) ⟨dL_wagon_0, dL_wagon_1, dL_wagon_2, dL_wagon_3, trivial⟩ rfl ?_
  refine zw_catch X hAd ht (E := "java/lang/IllegalArgumentException") (by decide +kernel) [(0, 7, 8, 25)] [] (0, 7, 13, 15) rfl (List.forall_mem_cons.mpr ⟨⟨by decide, _, zm_129, by decide +kernel⟩, (fun _ h => nomatch h)⟩) ⟨by decide, by decide⟩ (by decide) zm_102 (As := [.int (nI g), .int 10, .int y]) (rest := []) (d := 2) (i := 0) (by omega) zc_0 (q := (RX7, TX7, 16)) rfl ⟨zm_377, zm_378, zm_379, zm_2, zm_380, rfl, by decide, by decide, (show (parseMethodDescriptor yX7_wagon.desc).map (fun d => d.parameters.length) = some 3 by decide +kernel)⟩ (fun sz => c_wagon_bad hls hD hn σ gc hgc e0 g hg y sz) rfl rfl (Nat.le_of_ble_eq_true rfl) ⟨Nat.le_of_ble_eq_true rfl, Nat.le_of_ble_eq_true rfl⟩ ⟨Nat.le_of_ble_eq_true rfl, Nat.le_of_ble_eq_true rfl⟩ dL_wagon_4 (fun q9 => ?_)
  refine zw_run X (is := [(13, .astore 4, 2)]) (t' := (15, [some (.ref (ad 0)), some (.int (nI g)), some (.int 10), some (.int y), some (.ref (q9))], [])) ⟨dL_wagon_13, trivial⟩ rfl ?_
  refine zw_ldc X (v := (-900002)) zm_10 dL_wagon_15 ?_
  exact zw_iret X hr dL_wagon_17 rfl rfl rfl

set_option maxHeartbeats 4000000 in
set_option maxRecDepth 100000 in
theorem w_mend {l : Launch} (hls : l.stackTraces = false) {D : va_G} {cy : Nat → ClassId} {wa : Nat → Nat} {N n : Nat} {ad : Nat → Nat} (hD : zD n ad) (hn : 40 ≤ n) (σ : zS) (gc : Nat) (hgc : gc ≤ 8) (e0 : σ 0 11 = nI gc) (g : Nat) (hg : g < gc) (x : Int32) (h1 : ¬ x < 1) (h2 : x ≤ 9) (ho : σ (8 + g) 2 = 0) (h3 : σ (8 + g) 5 + x ≤ 9) (sz : Nat) : Met l yL_mend (.codeWith yL_mend cL_mend 4 (some .int) [(0, 6, 7, 25), (0, 6, 11, 15), (0, 6, 15, 27)] :: zB) (zRm 3) (zPc [.ref (ad 0), .int (nI g), .int x] D cy wa N n ad σ sz) (zQi ((zu (zu (zu σ (8 + g) 5 (σ (8 + g) 5 + x)) (8 + g) 0 (zu σ (8 + g) 5 (σ (8 + g) 5 + x) (8 + g) 0 - 2 * x)) 0 13 (zu (zu σ (8 + g) 5 (σ (8 + g) 5 + x)) (8 + g) 0 (zu σ (8 + g) 5 (σ (8 + g) 5 + x) (8 + g) 0 - 2 * x) 0 13 + 2 * x)) (8 + g) 5) D cy N n ad (zu (zu (zu σ (8 + g) 5 (σ (8 + g) 5 + x)) (8 + g) 0 (zu σ (8 + g) 5 (σ (8 + g) 5 + x) (8 + g) 0 - 2 * x)) 0 13 (zu (zu σ (8 + g) 5 (σ (8 + g) 5 + x)) (8 + g) 0 (zu σ (8 + g) 5 (σ (8 + g) 5 + x) (8 + g) 0 - 2 * x) 0 13 + 2 * x)) sz) 0 0 (zA n ad sz) := by
  refine z_metH (by decide) hls (List.forall_mem_cons.mpr ⟨rfl, (List.forall_mem_cons.mpr ⟨rfl, (List.forall_mem_cons.mpr ⟨rfl, (fun _ h => nomatch h)⟩)⟩)⟩) (Nat.le_of_ble_eq_true rfl) (fun p_ e_ s_ m_ below_ meth_ c_ hsz hr ht X => ?_)
  have X : zX p_ l s_ m_ [.ref (ad 0), .int (nI g), .int x].toArray meth_ c_ cL_mend 4 RL D cy wa (zA n ad sz) := X
  have hAd : ∀ i, i < n → zA n ad sz (ad i) := fun i hi => Or.inl ⟨i, hi, rfl⟩
  refine zw_run X (is := [(0, .aload_n 0, 1), (1, .iload_n 1, 1), (2, .iload_n 2, 1)]) (t' := (3, [some (.ref (ad 0)), some (.int (nI g)), some (.int x), none], [.int x, .int (nI g), .ref (ad 0)])) ⟨dL_mend_0, dL_mend_1, dL_mend_2, trivial⟩ rfl ?_
  refine zw_Vi X hAd (As := [.int (nI g), .int x]) (rest := []) (d := 2) (i := 0) (by omega) zc_0 (q := (RX7, TX7, 16)) rfl ⟨zm_256, zm_257, zm_258, zm_2, zm_259, rfl, by decide, by decide, (show (parseMethodDescriptor yX7_mend.desc).map (fun d => d.parameters.length) = some 2 by decide +kernel)⟩ (fun sz => c_mend hls hD hn σ gc hgc e0 g hg x h1 h2 ho h3 sz) rfl rfl (Nat.le_of_ble_eq_true rfl) ⟨Nat.le_of_ble_eq_true rfl, Nat.le_of_ble_eq_true rfl⟩ ⟨Nat.zero_le _, Nat.zero_le _⟩ dL_mend_3 ?_
  exact zw_iret X hr dL_mend_6 rfl rfl rfl

set_option maxHeartbeats 4000000 in
set_option maxRecDepth 100000 in
theorem w_mend_over {l : Launch} (hls : l.stackTraces = false) {D : va_G} {cy : Nat → ClassId} {wa : Nat → Nat} {N n : Nat} {ad : Nat → Nat} (hD : zD n ad) (hn : 40 ≤ n) (σ : zS) (gc : Nat) (hgc : gc ≤ 8) (e0 : σ 0 11 = nI gc) (g : Nat) (hg : g < gc) (x : Int32) (h1 : ¬ x < 1) (h2 : x ≤ 9) (ho : ¬ σ (8 + g) 2 = 0) (sz : Nat) : Met l yL_mend (.codeWith yL_mend cL_mend 4 (some .int) [(0, 6, 7, 25), (0, 6, 11, 15), (0, 6, 15, 27)] :: zB) (zRx 3) (zPc [.ref (ad 0), .int (nI g), .int x] D cy wa N n ad σ sz) (zQi ((-900003)) D cy N n ad (σ) sz) 1 6 (zA n ad sz) := by
  refine z_metH (by decide) hls (List.forall_mem_cons.mpr ⟨rfl, (List.forall_mem_cons.mpr ⟨rfl, (List.forall_mem_cons.mpr ⟨rfl, (fun _ h => nomatch h)⟩)⟩)⟩) (Nat.le_of_ble_eq_true rfl) (fun p_ e_ s_ m_ below_ meth_ c_ hsz hr ht X => ?_)
  have X : zX p_ l s_ m_ [.ref (ad 0), .int (nI g), .int x].toArray meth_ c_ cL_mend 4 RL D cy wa (zA n ad sz) := X
  have hAd : ∀ i, i < n → zA n ad sz (ad i) := fun i hi => Or.inl ⟨i, hi, rfl⟩
  refine zw_run X (is := [(0, .aload_n 0, 1), (1, .iload_n 1, 1), (2, .iload_n 2, 1)]) (t' := (3, [some (.ref (ad 0)), some (.int (nI g)), some (.int x), none], [.int x, .int (nI g), .ref (ad 0)])) ⟨dL_mend_0, dL_mend_1, dL_mend_2, trivial⟩ rfl ?_
  refine zw_catch X hAd ht (E := "java/lang/UnsupportedOperationException") (by decide +kernel) [(0, 6, 7, 25), (0, 6, 11, 15)] [] (0, 6, 15, 27) rfl (List.forall_mem_cons.mpr ⟨⟨by decide, _, zm_129, by decide +kernel⟩, (List.forall_mem_cons.mpr ⟨⟨by decide, _, zm_102, by decide +kernel⟩, (fun _ h => nomatch h)⟩)⟩) ⟨by decide, by decide⟩ (by decide) zm_144 (As := [.int (nI g), .int x]) (rest := []) (d := 2) (i := 0) (by omega) zc_0 (q := (RX7, TX7, 16)) rfl ⟨zm_256, zm_257, zm_258, zm_2, zm_259, rfl, by decide, by decide, (show (parseMethodDescriptor yX7_mend.desc).map (fun d => d.parameters.length) = some 2 by decide +kernel)⟩ (fun sz => c_mend_over hls hD hn σ gc hgc e0 g hg x h1 h2 ho sz) rfl rfl (Nat.le_of_ble_eq_true rfl) ⟨Nat.le_of_ble_eq_true rfl, Nat.le_of_ble_eq_true rfl⟩ ⟨Nat.le_of_ble_eq_true rfl, Nat.le_of_ble_eq_true rfl⟩ dL_mend_3 (fun q9 => ?_)
  refine zw_run X (is := [(15, .astore_n 3, 1)]) (t' := (16, [some (.ref (ad 0)), some (.int (nI g)), some (.int x), some (.ref (q9))], [])) ⟨dL_mend_15, trivial⟩ rfl ?_
  refine zw_ldc X (v := (-900003)) zm_9 dL_mend_16 ?_
  exact zw_iret X hr dL_mend_18 rfl rfl rfl

set_option maxHeartbeats 4000000 in
set_option maxRecDepth 100000 in
theorem w_mend_many {l : Launch} (hls : l.stackTraces = false) {D : va_G} {cy : Nat → ClassId} {wa : Nat → Nat} {N n : Nat} {ad : Nat → Nat} (hD : zD n ad) (hn : 40 ≤ n) (σ : zS) (gc : Nat) (hgc : gc ≤ 8) (e0 : σ 0 11 = nI gc) (g : Nat) (hg : g < gc) (x : Int32) (h1 : ¬ x < 1) (h2 : x ≤ 9) (ho : σ (8 + g) 2 = 0) (h3 : ¬ σ (8 + g) 5 + x ≤ 9) (sz : Nat) : Met l yL_mend (.codeWith yL_mend cL_mend 4 (some .int) [(0, 6, 7, 25), (0, 6, 11, 15), (0, 6, 15, 27)] :: zB) (zRx 3) (zPc [.ref (ad 0), .int (nI g), .int x] D cy wa N n ad σ sz) (zQi ((-900003)) D cy N n ad (σ) sz) 1 6 (zA n ad sz) := by
  refine z_metH (by decide) hls (List.forall_mem_cons.mpr ⟨rfl, (List.forall_mem_cons.mpr ⟨rfl, (List.forall_mem_cons.mpr ⟨rfl, (fun _ h => nomatch h)⟩)⟩)⟩) (Nat.le_of_ble_eq_true rfl) (fun p_ e_ s_ m_ below_ meth_ c_ hsz hr ht X => ?_)
  have X : zX p_ l s_ m_ [.ref (ad 0), .int (nI g), .int x].toArray meth_ c_ cL_mend 4 RL D cy wa (zA n ad sz) := X
  have hAd : ∀ i, i < n → zA n ad sz (ad i) := fun i hi => Or.inl ⟨i, hi, rfl⟩
  refine zw_run X (is := [(0, .aload_n 0, 1), (1, .iload_n 1, 1), (2, .iload_n 2, 1)]) (t' := (3, [some (.ref (ad 0)), some (.int (nI g)), some (.int x), none], [.int x, .int (nI g), .ref (ad 0)])) ⟨dL_mend_0, dL_mend_1, dL_mend_2, trivial⟩ rfl ?_
  refine zw_catch X hAd ht (E := "java/lang/UnsupportedOperationException") (by decide +kernel) [(0, 6, 7, 25), (0, 6, 11, 15)] [] (0, 6, 15, 27) rfl (List.forall_mem_cons.mpr ⟨⟨by decide, _, zm_129, by decide +kernel⟩, (List.forall_mem_cons.mpr ⟨⟨by decide, _, zm_102, by decide +kernel⟩, (fun _ h => nomatch h)⟩)⟩) ⟨by decide, by decide⟩ (by decide) zm_144 (As := [.int (nI g), .int x]) (rest := []) (d := 2) (i := 0) (by omega) zc_0 (q := (RX7, TX7, 16)) rfl ⟨zm_256, zm_257, zm_258, zm_2, zm_259, rfl, by decide, by decide, (show (parseMethodDescriptor yX7_mend.desc).map (fun d => d.parameters.length) = some 2 by decide +kernel)⟩ (fun sz => c_mend_many hls hD hn σ gc hgc e0 g hg x h1 h2 ho h3 sz) rfl rfl (Nat.le_of_ble_eq_true rfl) ⟨Nat.le_of_ble_eq_true rfl, Nat.le_of_ble_eq_true rfl⟩ ⟨Nat.le_of_ble_eq_true rfl, Nat.le_of_ble_eq_true rfl⟩ dL_mend_3 (fun q9 => ?_)
  refine zw_run X (is := [(15, .astore_n 3, 1)]) (t' := (16, [some (.ref (ad 0)), some (.int (nI g)), some (.int x), some (.ref (q9))], [])) ⟨dL_mend_15, trivial⟩ rfl ?_
  refine zw_ldc X (v := (-900003)) zm_9 dL_mend_16 ?_
  exact zw_iret X hr dL_mend_18 rfl rfl rfl

set_option maxHeartbeats 4000000 in
set_option maxRecDepth 100000 in
theorem w_put {l : Launch} (hls : l.stackTraces = false) {D : va_G} {cy : Nat → ClassId} {wa : Nat → Nat} {N n : Nat} {ad : Nat → Nat} (hD : zD n ad) (hn : 40 ≤ n) (σ : zS) (gc : Nat) (hgc : gc ≤ 8) (e0 : σ 0 11 = nI gc) (g : Nat) (hg : g < gc) (j : Nat) (hj : j < gc) (hjg : σ 2 j = nI g) (hf : ∀ i, i < j → ¬ σ 2 i = nI g) (q : Nat) (hq : q < gc) (sz : Nat) : Met l yL_put (.codeWith yL_put cL_put 4 (some .int) [(0, 6, 7, 25), (0, 6, 11, 15)] :: zB) (zRm 3) (zPc [.ref (ad 0), .int (nI g), .int (nI q)] D cy wa N n ad σ sz) (zQi (nI j) D cy N n ad (zu (zdn (zup σ j (q - j)) j (j - q)) (2) q (nI g)) sz) 0 0 (zA n ad sz) := by
  refine z_metH (by decide) hls (List.forall_mem_cons.mpr ⟨rfl, (List.forall_mem_cons.mpr ⟨rfl, (List.forall_mem_cons.mpr ⟨rfl, (fun _ h => nomatch h)⟩)⟩)⟩) (Nat.le_of_ble_eq_true rfl) (fun p_ e_ s_ m_ below_ meth_ c_ hsz hr ht X => ?_)
  have X : zX p_ l s_ m_ [.ref (ad 0), .int (nI g), .int (nI q)].toArray meth_ c_ cL_put 4 RL D cy wa (zA n ad sz) := X
  have hAd : ∀ i, i < n → zA n ad sz (ad i) := fun i hi => Or.inl ⟨i, hi, rfl⟩
  refine zw_run X (is := [(0, .aload_n 0, 1), (1, .iload_n 1, 1), (2, .iload_n 2, 1)]) (t' := (3, [some (.ref (ad 0)), some (.int (nI g)), some (.int (nI q)), none], [.int (nI q), .int (nI g), .ref (ad 0)])) ⟨dL_put_0, dL_put_1, dL_put_2, trivial⟩ rfl ?_
  refine zw_Vi X hAd (As := [.int (nI g), .int (nI q)]) (rest := []) (d := 2) (i := 0) (by omega) zc_0 (q := (RX7, TX7, 16)) rfl ⟨zm_307, zm_308, zm_309, zm_2, zm_310, rfl, by decide, by decide, (show (parseMethodDescriptor yX7_put.desc).map (fun d => d.parameters.length) = some 2 by decide +kernel)⟩ (fun sz => c_put hls hD hn σ gc hgc e0 g hg j hj hjg hf q hq sz) rfl rfl (Nat.le_of_ble_eq_true rfl) ⟨Nat.le_of_ble_eq_true rfl, Nat.le_of_ble_eq_true rfl⟩ ⟨Nat.zero_le _, Nat.zero_le _⟩ dL_put_3 ?_
  exact zw_iret X hr dL_put_6 rfl rfl rfl

set_option maxHeartbeats 4000000 in
set_option maxRecDepth 100000 in
theorem w_put_bad {l : Launch} (hls : l.stackTraces = false) {D : va_G} {cy : Nat → ClassId} {wa : Nat → Nat} {N n : Nat} {ad : Nat → Nat} (hD : zD n ad) (hn : 40 ≤ n) (σ : zS) (gc : Nat) (hgc : gc ≤ 8) (e0 : σ 0 11 = nI gc) (g : Nat) (hg : g < gc)  (sz : Nat) : Met l yL_put (.codeWith yL_put cL_put 4 (some .int) [(0, 6, 7, 25), (0, 6, 11, 15)] :: zB) (zRx 3) (zPc [.ref (ad 0), .int (nI g), .int (nI gc)] D cy wa N n ad σ sz) (zQi ((-900002)) D cy N n ad (σ) sz) 1 6 (zA n ad sz) := by
  refine z_metH (by decide) hls (List.forall_mem_cons.mpr ⟨rfl, (List.forall_mem_cons.mpr ⟨rfl, (List.forall_mem_cons.mpr ⟨rfl, (fun _ h => nomatch h)⟩)⟩)⟩) (Nat.le_of_ble_eq_true rfl) (fun p_ e_ s_ m_ below_ meth_ c_ hsz hr ht X => ?_)
  have X : zX p_ l s_ m_ [.ref (ad 0), .int (nI g), .int (nI gc)].toArray meth_ c_ cL_put 4 RL D cy wa (zA n ad sz) := X
  have hAd : ∀ i, i < n → zA n ad sz (ad i) := fun i hi => Or.inl ⟨i, hi, rfl⟩
  refine zw_run X (is := [(0, .aload_n 0, 1), (1, .iload_n 1, 1), (2, .iload_n 2, 1)]) (t' := (3, [some (.ref (ad 0)), some (.int (nI g)), some (.int (nI gc)), none], [.int (nI gc), .int (nI g), .ref (ad 0)])) ⟨dL_put_0, dL_put_1, dL_put_2, trivial⟩ rfl ?_
  refine zw_catch X hAd ht (E := "java/lang/IllegalArgumentException") (by decide +kernel) [(0, 6, 7, 25)] [] (0, 6, 11, 15) rfl (List.forall_mem_cons.mpr ⟨⟨by decide, _, zm_129, by decide +kernel⟩, (fun _ h => nomatch h)⟩) ⟨by decide, by decide⟩ (by decide) zm_102 (As := [.int (nI g), .int (nI gc)]) (rest := []) (d := 2) (i := 0) (by omega) zc_0 (q := (RX7, TX7, 16)) rfl ⟨zm_307, zm_308, zm_309, zm_2, zm_310, rfl, by decide, by decide, (show (parseMethodDescriptor yX7_put.desc).map (fun d => d.parameters.length) = some 2 by decide +kernel)⟩ (fun sz => c_put_bad hls hD hn σ gc hgc e0 g hg  sz) rfl rfl (Nat.le_of_ble_eq_true rfl) ⟨Nat.le_of_ble_eq_true rfl, Nat.le_of_ble_eq_true rfl⟩ ⟨Nat.le_of_ble_eq_true rfl, Nat.le_of_ble_eq_true rfl⟩ dL_put_3 (fun q9 => ?_)
  refine zw_run X (is := [(11, .astore_n 3, 1)]) (t' := (12, [some (.ref (ad 0)), some (.int (nI g)), some (.int (nI gc)), some (.ref (q9))], [])) ⟨dL_put_11, trivial⟩ rfl ?_
  refine zw_ldc X (v := (-900002)) zm_10 dL_put_12 ?_
  exact zw_iret X hr dL_put_14 rfl rfl rfl

set_option maxHeartbeats 4000000 in
set_option maxRecDepth 100000 in
theorem w_place {l : Launch} (hls : l.stackTraces = false) {D : va_G} {cy : Nat → ClassId} {wa : Nat → Nat} {N n : Nat} {ad : Nat → Nat} (hD : zD n ad) (hn : 40 ≤ n) (σ : zS) (gc : Nat) (hgc : gc ≤ 8) (e0 : σ 0 11 = nI gc) (g : Nat) (hg : g < gc) (j : Nat) (hj : j < gc) (hjg : σ 2 j = nI g) (hf : ∀ i, i < j → ¬ σ 2 i = nI g)  (sz : Nat) : Met l yL_place (.codeWith yL_place cL_place 3 (some .int) [(0, 5, 6, 25)] :: zB) (zRm 3) (zPc [.ref (ad 0), .int (nI g)] D cy wa N n ad σ sz) (zQi (nI j) D cy N n ad (σ) sz) 0 0 (zA n ad sz) := by
  refine z_metH (by decide) hls (List.forall_mem_cons.mpr ⟨rfl, (List.forall_mem_cons.mpr ⟨rfl, (fun _ h => nomatch h)⟩)⟩) (Nat.le_of_ble_eq_true rfl) (fun p_ e_ s_ m_ below_ meth_ c_ hsz hr ht X => ?_)
  have X : zX p_ l s_ m_ [.ref (ad 0), .int (nI g)].toArray meth_ c_ cL_place 3 RL D cy wa (zA n ad sz) := X
  have hAd : ∀ i, i < n → zA n ad sz (ad i) := fun i hi => Or.inl ⟨i, hi, rfl⟩
  refine zw_run X (is := [(0, .aload_n 0, 1), (1, .iload_n 1, 1)]) (t' := (2, [some (.ref (ad 0)), some (.int (nI g)), none], [.int (nI g), .ref (ad 0)])) ⟨dL_place_0, dL_place_1, trivial⟩ rfl ?_
  refine zw_Vi X hAd (As := [.int (nI g)]) (rest := []) (d := 2) (i := 0) (by omega) zc_0 (q := (RX7, TX7, 16)) rfl ⟨zm_405, zm_406, zm_407, zm_2, zm_408, rfl, by decide, by decide, (show (parseMethodDescriptor yX7_place.desc).map (fun d => d.parameters.length) = some 1 by decide +kernel)⟩ (fun sz => c_place hls hD hn σ gc hgc e0 g hg j hj hjg hf sz) rfl rfl (Nat.le_of_ble_eq_true rfl) ⟨Nat.le_of_ble_eq_true rfl, Nat.le_of_ble_eq_true rfl⟩ ⟨Nat.zero_le _, Nat.zero_le _⟩ dL_place_2 ?_
  exact zw_iret X hr dL_place_5 rfl rfl rfl

set_option maxHeartbeats 4000000 in
set_option maxRecDepth 100000 in
theorem w_add {l : Launch} (hls : l.stackTraces = false) {D : va_G} {cy : Nat → ClassId} {wa : Nat → Nat} {N n : Nat} {ad : Nat → Nat} (hD : zD n ad) (hn : 40 ≤ n) (σ : zS) (gc : Nat) (hgc : gc ≤ 8) (e0 : σ 0 11 = nI gc) (g : Nat) (hg : g < gc) (x : Int32) (h1 : ¬ x < 1) (h2 : x ≤ 99) (ho : σ (8 + g) 2 = 0) (h3 : σ (16 + g) 0 + x ≤ 600) (sz : Nat) : Met l yL_add (.codeWith yL_add cL_add 4 (some .int) [(0, 6, 7, 25), (0, 6, 11, 15), (0, 6, 15, 27)] :: zB) (zRm 3) (zPc [.ref (ad 0), .int (nI g), .int x] D cy wa N n ad σ sz) (zQi (zu σ (16 + g) 0 (σ (16 + g) 0 + x) (16 + g) 0 - zu σ (16 + g) 0 (σ (16 + g) 0 + x) (16 + g) 4) D cy N n ad (zu σ (16 + g) 0 ((σ (16 + g) 0) + x)) sz) 0 0 (zA n ad sz) := by
  refine z_metH (by decide) hls (List.forall_mem_cons.mpr ⟨rfl, (List.forall_mem_cons.mpr ⟨rfl, (List.forall_mem_cons.mpr ⟨rfl, (fun _ h => nomatch h)⟩)⟩)⟩) (Nat.le_of_ble_eq_true rfl) (fun p_ e_ s_ m_ below_ meth_ c_ hsz hr ht X => ?_)
  have X : zX p_ l s_ m_ [.ref (ad 0), .int (nI g), .int x].toArray meth_ c_ cL_add 4 RL D cy wa (zA n ad sz) := X
  have hAd : ∀ i, i < n → zA n ad sz (ad i) := fun i hi => Or.inl ⟨i, hi, rfl⟩
  refine zw_run X (is := [(0, .aload_n 0, 1), (1, .iload_n 1, 1), (2, .iload_n 2, 1)]) (t' := (3, [some (.ref (ad 0)), some (.int (nI g)), some (.int x), none], [.int x, .int (nI g), .ref (ad 0)])) ⟨dL_add_0, dL_add_1, dL_add_2, trivial⟩ rfl ?_
  refine zw_Vi X hAd (As := [.int (nI g), .int x]) (rest := []) (d := 2) (i := 0) (by omega) zc_0 (q := (RX7, TX7, 16)) rfl ⟨zm_276, zm_277, zm_278, zm_2, zm_279, rfl, by decide, by decide, (show (parseMethodDescriptor yX7_add.desc).map (fun d => d.parameters.length) = some 2 by decide +kernel)⟩ (fun sz => c_add hls hD hn σ gc hgc e0 g hg x h1 h2 ho h3 sz) rfl rfl (Nat.le_of_ble_eq_true rfl) ⟨Nat.le_of_ble_eq_true rfl, Nat.le_of_ble_eq_true rfl⟩ ⟨Nat.zero_le _, Nat.zero_le _⟩ dL_add_3 ?_
  exact zw_iret X hr dL_add_6 rfl rfl rfl

set_option maxHeartbeats 4000000 in
set_option maxRecDepth 100000 in
theorem w_add_over {l : Launch} (hls : l.stackTraces = false) {D : va_G} {cy : Nat → ClassId} {wa : Nat → Nat} {N n : Nat} {ad : Nat → Nat} (hD : zD n ad) (hn : 40 ≤ n) (σ : zS) (gc : Nat) (hgc : gc ≤ 8) (e0 : σ 0 11 = nI gc) (g : Nat) (hg : g < gc) (x : Int32) (h1 : ¬ x < 1) (h2 : x ≤ 99) (ho : ¬ σ (8 + g) 2 = 0) (sz : Nat) : Met l yL_add (.codeWith yL_add cL_add 4 (some .int) [(0, 6, 7, 25), (0, 6, 11, 15), (0, 6, 15, 27)] :: zB) (zRx 3) (zPc [.ref (ad 0), .int (nI g), .int x] D cy wa N n ad σ sz) (zQi ((-900003)) D cy N n ad (σ) sz) 1 6 (zA n ad sz) := by
  refine z_metH (by decide) hls (List.forall_mem_cons.mpr ⟨rfl, (List.forall_mem_cons.mpr ⟨rfl, (List.forall_mem_cons.mpr ⟨rfl, (fun _ h => nomatch h)⟩)⟩)⟩) (Nat.le_of_ble_eq_true rfl) (fun p_ e_ s_ m_ below_ meth_ c_ hsz hr ht X => ?_)
  have X : zX p_ l s_ m_ [.ref (ad 0), .int (nI g), .int x].toArray meth_ c_ cL_add 4 RL D cy wa (zA n ad sz) := X
  have hAd : ∀ i, i < n → zA n ad sz (ad i) := fun i hi => Or.inl ⟨i, hi, rfl⟩
  refine zw_run X (is := [(0, .aload_n 0, 1), (1, .iload_n 1, 1), (2, .iload_n 2, 1)]) (t' := (3, [some (.ref (ad 0)), some (.int (nI g)), some (.int x), none], [.int x, .int (nI g), .ref (ad 0)])) ⟨dL_add_0, dL_add_1, dL_add_2, trivial⟩ rfl ?_
  refine zw_catch X hAd ht (E := "java/lang/UnsupportedOperationException") (by decide +kernel) [(0, 6, 7, 25), (0, 6, 11, 15)] [] (0, 6, 15, 27) rfl (List.forall_mem_cons.mpr ⟨⟨by decide, _, zm_129, by decide +kernel⟩, (List.forall_mem_cons.mpr ⟨⟨by decide, _, zm_102, by decide +kernel⟩, (fun _ h => nomatch h)⟩)⟩) ⟨by decide, by decide⟩ (by decide) zm_144 (As := [.int (nI g), .int x]) (rest := []) (d := 2) (i := 0) (by omega) zc_0 (q := (RX7, TX7, 16)) rfl ⟨zm_276, zm_277, zm_278, zm_2, zm_279, rfl, by decide, by decide, (show (parseMethodDescriptor yX7_add.desc).map (fun d => d.parameters.length) = some 2 by decide +kernel)⟩ (fun sz => c_add_over hls hD hn σ gc hgc e0 g hg x h1 h2 ho sz) rfl rfl (Nat.le_of_ble_eq_true rfl) ⟨Nat.le_of_ble_eq_true rfl, Nat.le_of_ble_eq_true rfl⟩ ⟨Nat.le_of_ble_eq_true rfl, Nat.le_of_ble_eq_true rfl⟩ dL_add_3 (fun q9 => ?_)
  refine zw_run X (is := [(15, .astore_n 3, 1)]) (t' := (16, [some (.ref (ad 0)), some (.int (nI g)), some (.int x), some (.ref (q9))], [])) ⟨dL_add_15, trivial⟩ rfl ?_
  refine zw_ldc X (v := (-900003)) zm_9 dL_add_16 ?_
  exact zw_iret X hr dL_add_18 rfl rfl rfl

set_option maxHeartbeats 4000000 in
set_option maxRecDepth 100000 in
theorem w_add_many {l : Launch} (hls : l.stackTraces = false) {D : va_G} {cy : Nat → ClassId} {wa : Nat → Nat} {N n : Nat} {ad : Nat → Nat} (hD : zD n ad) (hn : 40 ≤ n) (σ : zS) (gc : Nat) (hgc : gc ≤ 8) (e0 : σ 0 11 = nI gc) (g : Nat) (hg : g < gc) (x : Int32) (h1 : ¬ x < 1) (h2 : x ≤ 99) (ho : σ (8 + g) 2 = 0) (h3 : ¬ σ (16 + g) 0 + x ≤ 600) (sz : Nat) : Met l yL_add (.codeWith yL_add cL_add 4 (some .int) [(0, 6, 7, 25), (0, 6, 11, 15), (0, 6, 15, 27)] :: zB) (zRx 3) (zPc [.ref (ad 0), .int (nI g), .int x] D cy wa N n ad σ sz) (zQi ((-900003)) D cy N n ad (σ) sz) 1 6 (zA n ad sz) := by
  refine z_metH (by decide) hls (List.forall_mem_cons.mpr ⟨rfl, (List.forall_mem_cons.mpr ⟨rfl, (List.forall_mem_cons.mpr ⟨rfl, (fun _ h => nomatch h)⟩)⟩)⟩) (Nat.le_of_ble_eq_true rfl) (fun p_ e_ s_ m_ below_ meth_ c_ hsz hr ht X => ?_)
  have X : zX p_ l s_ m_ [.ref (ad 0), .int (nI g), .int x].toArray meth_ c_ cL_add 4 RL D cy wa (zA n ad sz) := X
  have hAd : ∀ i, i < n → zA n ad sz (ad i) := fun i hi => Or.inl ⟨i, hi, rfl⟩
  refine zw_run X (is := [(0, .aload_n 0, 1), (1, .iload_n 1, 1), (2, .iload_n 2, 1)]) (t' := (3, [some (.ref (ad 0)), some (.int (nI g)), some (.int x), none], [.int x, .int (nI g), .ref (ad 0)])) ⟨dL_add_0, dL_add_1, dL_add_2, trivial⟩ rfl ?_
  refine zw_catch X hAd ht (E := "java/lang/UnsupportedOperationException") (by decide +kernel) [(0, 6, 7, 25), (0, 6, 11, 15)] [] (0, 6, 15, 27) rfl (List.forall_mem_cons.mpr ⟨⟨by decide, _, zm_129, by decide +kernel⟩, (List.forall_mem_cons.mpr ⟨⟨by decide, _, zm_102, by decide +kernel⟩, (fun _ h => nomatch h)⟩)⟩) ⟨by decide, by decide⟩ (by decide) zm_144 (As := [.int (nI g), .int x]) (rest := []) (d := 2) (i := 0) (by omega) zc_0 (q := (RX7, TX7, 16)) rfl ⟨zm_276, zm_277, zm_278, zm_2, zm_279, rfl, by decide, by decide, (show (parseMethodDescriptor yX7_add.desc).map (fun d => d.parameters.length) = some 2 by decide +kernel)⟩ (fun sz => c_add_many hls hD hn σ gc hgc e0 g hg x h1 h2 ho h3 sz) rfl rfl (Nat.le_of_ble_eq_true rfl) ⟨Nat.le_of_ble_eq_true rfl, Nat.le_of_ble_eq_true rfl⟩ ⟨Nat.le_of_ble_eq_true rfl, Nat.le_of_ble_eq_true rfl⟩ dL_add_3 (fun q9 => ?_)
  refine zw_run X (is := [(15, .astore_n 3, 1)]) (t' := (16, [some (.ref (ad 0)), some (.int (nI g)), some (.int x), some (.ref (q9))], [])) ⟨dL_add_15, trivial⟩ rfl ?_
  refine zw_ldc X (v := (-900003)) zm_9 dL_add_16 ?_
  exact zw_iret X hr dL_add_18 rfl rfl rfl

set_option maxHeartbeats 4000000 in
set_option maxRecDepth 100000 in
theorem w_add_bad {l : Launch} (hls : l.stackTraces = false) {D : va_G} {cy : Nat → ClassId} {wa : Nat → Nat} {N n : Nat} {ad : Nat → Nat} (hD : zD n ad) (hn : 40 ≤ n) (σ : zS) (gc : Nat) (hgc : gc ≤ 8) (e0 : σ 0 11 = nI gc) (g : Nat) (hg : g < gc)  (sz : Nat) : Met l yL_add (.codeWith yL_add cL_add 4 (some .int) [(0, 6, 7, 25), (0, 6, 11, 15), (0, 6, 15, 27)] :: zB) (zRx 3) (zPc [.ref (ad 0), .int (nI g), .int 100] D cy wa N n ad σ sz) (zQi ((-900002)) D cy N n ad (σ) sz) 1 6 (zA n ad sz) := by
  refine z_metH (by decide) hls (List.forall_mem_cons.mpr ⟨rfl, (List.forall_mem_cons.mpr ⟨rfl, (List.forall_mem_cons.mpr ⟨rfl, (fun _ h => nomatch h)⟩)⟩)⟩) (Nat.le_of_ble_eq_true rfl) (fun p_ e_ s_ m_ below_ meth_ c_ hsz hr ht X => ?_)
  have X : zX p_ l s_ m_ [.ref (ad 0), .int (nI g), .int 100].toArray meth_ c_ cL_add 4 RL D cy wa (zA n ad sz) := X
  have hAd : ∀ i, i < n → zA n ad sz (ad i) := fun i hi => Or.inl ⟨i, hi, rfl⟩
  refine zw_run X (is := [(0, .aload_n 0, 1), (1, .iload_n 1, 1), (2, .iload_n 2, 1)]) (t' := (3, [some (.ref (ad 0)), some (.int (nI g)), some (.int 100), none], [.int 100, .int (nI g), .ref (ad 0)])) ⟨dL_add_0, dL_add_1, dL_add_2, trivial⟩ rfl ?_
  refine zw_catch X hAd ht (E := "java/lang/IllegalArgumentException") (by decide +kernel) [(0, 6, 7, 25)] [(0, 6, 15, 27)] (0, 6, 11, 15) rfl (List.forall_mem_cons.mpr ⟨⟨by decide, _, zm_129, by decide +kernel⟩, (fun _ h => nomatch h)⟩) ⟨by decide, by decide⟩ (by decide) zm_102 (As := [.int (nI g), .int 100]) (rest := []) (d := 2) (i := 0) (by omega) zc_0 (q := (RX7, TX7, 16)) rfl ⟨zm_276, zm_277, zm_278, zm_2, zm_279, rfl, by decide, by decide, (show (parseMethodDescriptor yX7_add.desc).map (fun d => d.parameters.length) = some 2 by decide +kernel)⟩ (fun sz => c_add_bad hls hD hn σ gc hgc e0 g hg  sz) rfl rfl (Nat.le_of_ble_eq_true rfl) ⟨Nat.le_of_ble_eq_true rfl, Nat.le_of_ble_eq_true rfl⟩ ⟨Nat.le_of_ble_eq_true rfl, Nat.le_of_ble_eq_true rfl⟩ dL_add_3 (fun q9 => ?_)
  refine zw_run X (is := [(11, .astore_n 3, 1)]) (t' := (12, [some (.ref (ad 0)), some (.int (nI g)), some (.int 100), some (.ref (q9))], [])) ⟨dL_add_11, trivial⟩ rfl ?_
  refine zw_ldc X (v := (-900002)) zm_10 dL_add_12 ?_
  exact zw_iret X hr dL_add_14 rfl rfl rfl

set_option maxHeartbeats 4000000 in
set_option maxRecDepth 100000 in
theorem w_day_x {l : Launch} (hls : l.stackTraces = false) {D : va_G} {cy : Nat → ClassId} {wa : Nat → Nat} {N n : Nat} {ad : Nat → Nat} (hD : zD n ad) (hn : 40 ≤ n) (σ : zS) (e3 : σ 3 2 = 0) (sz : Nat) : Met l yL_day (.codeWith yL_day cL_day 2 (some .int) [(0, 4, 5, 18)] :: zB) (zRx 3) (zPc [.ref (ad 0)] D cy wa N n ad σ sz) (zQi ((-900001)) D cy N n ad (σ) sz) 1 6 (zA n ad sz) := by
  refine z_metH (by decide) hls (List.forall_mem_cons.mpr ⟨rfl, (fun _ h => nomatch h)⟩) (Nat.le_of_ble_eq_true rfl) (fun p_ e_ s_ m_ below_ meth_ c_ hsz hr ht X => ?_)
  have X : zX p_ l s_ m_ [.ref (ad 0)].toArray meth_ c_ cL_day 2 RL D cy wa (zA n ad sz) := X
  have hAd : ∀ i, i < n → zA n ad sz (ad i) := fun i hi => Or.inl ⟨i, hi, rfl⟩
  refine zw_run X (is := [(0, .aload_n 0, 1)]) (t' := (1, [some (.ref (ad 0)), none], [.ref (ad 0)])) ⟨dL_day_0, trivial⟩ rfl ?_
  refine zw_catch X hAd ht (E := "java/lang/IllegalStateException") (by decide +kernel) [] [] (0, 4, 5, 18) rfl (fun _ h => nomatch h) ⟨by decide, by decide⟩ (by decide) zm_103 (As := []) (rest := []) (d := 2) (i := 0) (by omega) zc_0 (q := (RX7, TX7, 16)) rfl ⟨zm_436, zm_437, zm_438, zm_2, zm_439, rfl, by decide, by decide, (show (parseMethodDescriptor yX7_day.desc).map (fun d => d.parameters.length) = some 0 by decide +kernel)⟩ (fun sz => c_day_x hls hD hn σ e3 sz) rfl rfl (Nat.le_of_ble_eq_true rfl) ⟨Nat.le_of_ble_eq_true rfl, Nat.le_of_ble_eq_true rfl⟩ ⟨Nat.le_of_ble_eq_true rfl, Nat.le_of_ble_eq_true rfl⟩ dL_day_1 (fun q9 => ?_)
  refine zw_run X (is := [(5, .astore_n 1, 1)]) (t' := (6, [some (.ref (ad 0)), some (.ref (q9))], [])) ⟨dL_day_5, trivial⟩ rfl ?_
  refine zw_ldc X (v := (-900001)) zm_8 dL_day_6 ?_
  exact zw_iret X hr dL_day_8 rfl rfl rfl

set_option maxHeartbeats 4000000 in
set_option maxRecDepth 100000 in
theorem w_foresee_x {l : Launch} (hls : l.stackTraces = false) {D : va_G} {cy : Nat → ClassId} {wa : Nat → Nat} {N n : Nat} {ad : Nat → Nat} (hD : zD n ad) (hn : 40 ≤ n) (σ : zS) (e3 : σ 3 2 = 0) (sz : Nat) : Met l yL_foresee (.codeWith yL_foresee cL_foresee 2 (some .int) [(0, 4, 5, 18)] :: zB) (zRx 3) (zPc [.ref (ad 0)] D cy wa N n ad σ sz) (zQi ((-900001)) D cy N n ad (σ) sz) 1 6 (zA n ad sz) := by
  refine z_metH (by decide) hls (List.forall_mem_cons.mpr ⟨rfl, (fun _ h => nomatch h)⟩) (Nat.le_of_ble_eq_true rfl) (fun p_ e_ s_ m_ below_ meth_ c_ hsz hr ht X => ?_)
  have X : zX p_ l s_ m_ [.ref (ad 0)].toArray meth_ c_ cL_foresee 2 RL D cy wa (zA n ad sz) := X
  have hAd : ∀ i, i < n → zA n ad sz (ad i) := fun i hi => Or.inl ⟨i, hi, rfl⟩
  refine zw_run X (is := [(0, .aload_n 0, 1)]) (t' := (1, [some (.ref (ad 0)), none], [.ref (ad 0)])) ⟨dL_foresee_0, trivial⟩ rfl ?_
  refine zw_catch X hAd ht (E := "java/lang/IllegalStateException") (by decide +kernel) [] [] (0, 4, 5, 18) rfl (fun _ h => nomatch h) ⟨by decide, by decide⟩ (by decide) zm_103 (As := []) (rest := []) (d := 2) (i := 0) (by omega) zc_0 (q := (RX7, TX7, 16)) rfl ⟨zm_416, zm_417, zm_418, zm_2, zm_419, rfl, by decide, by decide, (show (parseMethodDescriptor yX7_foresee.desc).map (fun d => d.parameters.length) = some 0 by decide +kernel)⟩ (fun sz => c_foresee_x hls hD hn σ e3 sz) rfl rfl (Nat.le_of_ble_eq_true rfl) ⟨Nat.le_of_ble_eq_true rfl, Nat.le_of_ble_eq_true rfl⟩ ⟨Nat.le_of_ble_eq_true rfl, Nat.le_of_ble_eq_true rfl⟩ dL_foresee_1 (fun q9 => ?_)
  refine zw_run X (is := [(5, .astore_n 1, 1)]) (t' := (6, [some (.ref (ad 0)), some (.ref (q9))], [])) ⟨dL_foresee_5, trivial⟩ rfl ?_
  refine zw_ldc X (v := (-900001)) zm_8 dL_foresee_6 ?_
  exact zw_iret X hr dL_foresee_8 rfl rfl rfl

set_option maxHeartbeats 4000000 in
set_option maxRecDepth 100000 in
theorem w_end_x {l : Launch} (hls : l.stackTraces = false) {D : va_G} {cy : Nat → ClassId} {wa : Nat → Nat} {N n : Nat} {ad : Nat → Nat} (hD : zD n ad) (hn : 40 ≤ n) (σ : zS) (e4 : σ 0 15 = 0) (sz : Nat) : Met l yL_end (.codeWith yL_end cL_end 2 (some .int) [(0, 4, 5, 18)] :: zB) (zRx 3) (zPc [.ref (ad 0)] D cy wa N n ad σ sz) (zQi ((-900001)) D cy N n ad (σ) sz) 1 6 (zA n ad sz) := by
  refine z_metH (by decide) hls (List.forall_mem_cons.mpr ⟨rfl, (fun _ h => nomatch h)⟩) (Nat.le_of_ble_eq_true rfl) (fun p_ e_ s_ m_ below_ meth_ c_ hsz hr ht X => ?_)
  have X : zX p_ l s_ m_ [.ref (ad 0)].toArray meth_ c_ cL_end 2 RL D cy wa (zA n ad sz) := X
  have hAd : ∀ i, i < n → zA n ad sz (ad i) := fun i hi => Or.inl ⟨i, hi, rfl⟩
  refine zw_run X (is := [(0, .aload_n 0, 1)]) (t' := (1, [some (.ref (ad 0)), none], [.ref (ad 0)])) ⟨dL_end_0, trivial⟩ rfl ?_
  refine zw_catch X hAd ht (E := "java/lang/IllegalStateException") (by decide +kernel) [] [] (0, 4, 5, 18) rfl (fun _ h => nomatch h) ⟨by decide, by decide⟩ (by decide) zm_103 (As := []) (rest := []) (d := 2) (i := 0) (by omega) zc_0 (q := (RX7, TX7, 16)) rfl ⟨zm_448, zm_449, zm_450, zm_2, zm_451, rfl, by decide, by decide, (show (parseMethodDescriptor yX7_end.desc).map (fun d => d.parameters.length) = some 0 by decide +kernel)⟩ (fun sz => c_end_x hls hD hn σ e4 sz) rfl rfl (Nat.le_of_ble_eq_true rfl) ⟨Nat.le_of_ble_eq_true rfl, Nat.le_of_ble_eq_true rfl⟩ ⟨Nat.le_of_ble_eq_true rfl, Nat.le_of_ble_eq_true rfl⟩ dL_end_1 (fun q9 => ?_)
  refine zw_run X (is := [(5, .astore_n 1, 1)]) (t' := (6, [some (.ref (ad 0)), some (.ref (q9))], [])) ⟨dL_end_5, trivial⟩ rfl ?_
  refine zw_ldc X (v := (-900001)) zm_8 dL_end_6 ?_
  exact zw_iret X hr dL_end_8 rfl rfl rfl

set_option maxHeartbeats 4000000 in
set_option maxRecDepth 100000 in
theorem w_leaves {l : Launch} (hls : l.stackTraces = false) {D : va_G} {cy : Nat → ClassId} {wa : Nat → Nat} {N n : Nat} {ad : Nat → Nat} (hD : zD n ad) (hn : 40 ≤ n) (σ : zS) (gc : Nat) (hgc : gc ≤ 8) (e0 : σ 0 11 = nI gc) (g : Nat) (hg : g < gc) (b : Nat) (hb : b ≤ 600) (eb : σ (16 + g) 4 = nI b)  (sz : Nat) : Met l yL_leaves (.codeWith yL_leaves cL_leaves 3 (some .int) [(0, 5, 6, 25)] :: zB) (zRm 4) (zPc [.ref (ad 0), .int (nI g)] D cy wa N n ad σ sz) (zQi (nI ((b + 39) / 40)) D cy N n ad (σ) sz) 0 0 (zA n ad sz) := by
  refine z_metH (by decide) hls (List.forall_mem_cons.mpr ⟨rfl, (List.forall_mem_cons.mpr ⟨rfl, (fun _ h => nomatch h)⟩)⟩) (Nat.le_of_ble_eq_true rfl) (fun p_ e_ s_ m_ below_ meth_ c_ hsz hr ht X => ?_)
  have X : zX p_ l s_ m_ [.ref (ad 0), .int (nI g)].toArray meth_ c_ cL_leaves 3 RL D cy wa (zA n ad sz) := X
  have hAd : ∀ i, i < n → zA n ad sz (ad i) := fun i hi => Or.inl ⟨i, hi, rfl⟩
  refine zw_run X (is := [(0, .aload_n 0, 1), (1, .iload_n 1, 1)]) (t' := (2, [some (.ref (ad 0)), some (.int (nI g)), none], [.int (nI g), .ref (ad 0)])) ⟨dL_leaves_0, dL_leaves_1, trivial⟩ rfl ?_
  refine zw_Vi X hAd (As := [.int (nI g)]) (rest := []) (d := 3) (i := 0) (by omega) zc_0 (q := (RX7, TX7, 16)) rfl ⟨zm_288, zm_289, zm_290, zm_2, zm_291, rfl, by decide, by decide, (show (parseMethodDescriptor yX7_leaves.desc).map (fun d => d.parameters.length) = some 1 by decide +kernel)⟩ (fun sz => c_leavesN hls hD hn σ gc hgc e0 g hg b hb eb sz) rfl rfl (Nat.le_of_ble_eq_true rfl) ⟨Nat.le_of_ble_eq_true rfl, Nat.le_of_ble_eq_true rfl⟩ ⟨Nat.zero_le _, Nat.zero_le _⟩ dL_leaves_2 ?_
  exact zw_iret X hr dL_leaves_5 rfl rfl rfl

set_option maxHeartbeats 4000000 in
set_option maxRecDepth 100000 in
theorem w_known {l : Launch} (hls : l.stackTraces = false) {D : va_G} {cy : Nat → ClassId} {wa : Nat → Nat} {N n : Nat} {ad : Nat → Nat} (hD : zD n ad) (hn : 40 ≤ n) (σ : zS) (gc : Nat) (hgc : gc ≤ 8) (e0 : σ 0 11 = nI gc) (g : Nat) (hg : g < gc) (b : Nat) (hb : b ≤ 600) (eb : σ (16 + g) 4 = nI b)  (sz : Nat) : Met l yL_known (.codeWith yL_known cL_known 3 (some .int) [(0, 5, 6, 25)] :: zB) (zRm 4) (zPc [.ref (ad 0), .int (nI g)] D cy wa N n ad σ sz) (zQi (nI (zkn (σ (32 + g)) b ((b + 39) / 40))) D cy N n ad (σ) sz) 0 0 (zA n ad sz) := by
  refine z_metH (by decide) hls (List.forall_mem_cons.mpr ⟨rfl, (List.forall_mem_cons.mpr ⟨rfl, (fun _ h => nomatch h)⟩)⟩) (Nat.le_of_ble_eq_true rfl) (fun p_ e_ s_ m_ below_ meth_ c_ hsz hr ht X => ?_)
  have X : zX p_ l s_ m_ [.ref (ad 0), .int (nI g)].toArray meth_ c_ cL_known 3 RL D cy wa (zA n ad sz) := X
  have hAd : ∀ i, i < n → zA n ad sz (ad i) := fun i hi => Or.inl ⟨i, hi, rfl⟩
  refine zw_run X (is := [(0, .aload_n 0, 1), (1, .iload_n 1, 1)]) (t' := (2, [some (.ref (ad 0)), some (.int (nI g)), none], [.int (nI g), .ref (ad 0)])) ⟨dL_known_0, dL_known_1, trivial⟩ rfl ?_
  refine zw_Vi X hAd (As := [.int (nI g)]) (rest := []) (d := 3) (i := 0) (by omega) zc_0 (q := (RX7, TX7, 16)) rfl ⟨zm_394, zm_395, zm_396, zm_2, zm_397, rfl, by decide, by decide, (show (parseMethodDescriptor yX7_known.desc).map (fun d => d.parameters.length) = some 1 by decide +kernel)⟩ (fun sz => c_known hls hD hn σ gc hgc e0 g hg b hb eb sz) rfl rfl (Nat.le_of_ble_eq_true rfl) ⟨Nat.le_of_ble_eq_true rfl, Nat.le_of_ble_eq_true rfl⟩ ⟨Nat.zero_le _, Nat.zero_le _⟩ dL_known_2 ?_
  exact zw_iret X hr dL_known_5 rfl rfl rfl

set_option maxHeartbeats 4000000 in
set_option maxRecDepth 100000 in
theorem w_year {l : Launch} (hls : l.stackTraces = false) {D : va_G} {cy : Nat → ClassId} {wa : Nat → Nat} {N n : Nat} {ad : Nat → Nat} (hD : zD n ad) (hn : 40 ≤ n) (σ : zS) (gc : Nat) (hgc : gc ≤ 8) (e0 : σ 0 11 = nI gc) (E : Nat → Nat) (hE : ∀ k, k < gc → σ (16 + k) 3 = nI (E k) ∧ E k ≤ 100) (e3 : σ 3 2 = 0) (y : Nat) (hy : y < 99) (e12 : σ 0 12 = nI y)  (sz : Nat) : Met l yL_year (.codeWith yL_year cL_year 2 (some .int) [(0, 4, 5, 18)] :: zB) (zRm 6) (zPc [.ref (ad 0)] D cy wa N n ad σ sz) (zQi (nI (y + 1)) D cy N n ad (zyr (zu (zu σ 0 12 (nI (y + 1))) 0 15 0) E gc) sz) 0 0 (zA n ad sz) := by
  refine z_metH (by decide) hls (List.forall_mem_cons.mpr ⟨rfl, (fun _ h => nomatch h)⟩) (Nat.le_of_ble_eq_true rfl) (fun p_ e_ s_ m_ below_ meth_ c_ hsz hr ht X => ?_)
  have X : zX p_ l s_ m_ [.ref (ad 0)].toArray meth_ c_ cL_year 2 RL D cy wa (zA n ad sz) := X
  have hAd : ∀ i, i < n → zA n ad sz (ad i) := fun i hi => Or.inl ⟨i, hi, rfl⟩
  refine zw_run X (is := [(0, .aload_n 0, 1)]) (t' := (1, [some (.ref (ad 0)), none], [.ref (ad 0)])) ⟨dL_year_0, trivial⟩ rfl ?_
  refine zw_Vi X hAd (As := []) (rest := []) (d := 5) (i := 0) (by omega) zc_0 (q := (RX7, TX7, 16)) rfl ⟨zm_358, zm_359, zm_360, zm_2, zm_361, rfl, by decide, by decide, (show (parseMethodDescriptor yX7_year.desc).map (fun d => d.parameters.length) = some 0 by decide +kernel)⟩ (fun sz => c_year hls hD hn σ gc hgc e0 E hE e3 y hy e12 sz) rfl rfl (Nat.le_of_ble_eq_true rfl) ⟨Nat.le_of_ble_eq_true rfl, Nat.le_of_ble_eq_true rfl⟩ ⟨Nat.zero_le _, Nat.zero_le _⟩ dL_year_1 ?_
  exact zw_iret X hr dL_year_4 rfl rfl rfl

set_option maxHeartbeats 4000000 in
set_option maxRecDepth 100000 in
theorem w_isOver {l : Launch} (hls : l.stackTraces = false) {D : va_G} {cy : Nat → ClassId} {wa : Nat → Nat} {N n : Nat} {ad : Nat → Nat} (hD : zD n ad) (hn : 40 ≤ n) (σ : zS) (gc : Nat) (hgc : gc ≤ 8) (e0 : σ 0 11 = nI gc) (g : Nat) (hg : g < gc) (ho : σ (8 + g) 2 = 0 ∨ σ (8 + g) 2 = 1) (sz : Nat) : Met l yL_isOver (.codeWith yL_isOver cL_isOver 3 (some .int) [(0, 13, 14, 25)] :: zB) (zRm 3) (zPc [.ref (ad 0), .int (nI g)] D cy wa N n ad σ sz) (zQi (σ (8 + g) 2) D cy N n ad (σ) sz) 0 0 (zA n ad sz) := by
  refine z_metH (by decide) hls (List.forall_mem_cons.mpr ⟨rfl, (List.forall_mem_cons.mpr ⟨rfl, (fun _ h => nomatch h)⟩)⟩) (Nat.le_of_ble_eq_true rfl) (fun p_ e_ s_ m_ below_ meth_ c_ hsz hr ht X => ?_)
  have X : zX p_ l s_ m_ [.ref (ad 0), .int (nI g)].toArray meth_ c_ cL_isOver 3 RL D cy wa (zA n ad sz) := X
  have hAd : ∀ i, i < n → zA n ad sz (ad i) := fun i hi => Or.inl ⟨i, hi, rfl⟩
  refine zw_run X (is := [(0, .aload_n 0, 1), (1, .iload_n 1, 1)]) (t' := (2, [some (.ref (ad 0)), some (.int (nI g)), none], [.int (nI g), .ref (ad 0)])) ⟨dL_isOver_0, dL_isOver_1, trivial⟩ rfl ?_
  refine zw_Vi X hAd (As := [.int (nI g)]) (rest := []) (d := 2) (i := 0) (by omega) zc_0 (q := (RX7, TX7, 16)) rfl ⟨zm_130, zm_131, zm_132, zm_2, zm_133, rfl, by decide, by decide, (show (parseMethodDescriptor yX7_isOver.desc).map (fun d => d.parameters.length) = some 1 by decide +kernel)⟩ (fun sz => c_isOver hls hD hn σ gc hgc e0 g hg ho sz) rfl rfl (Nat.le_of_ble_eq_true rfl) ⟨Nat.le_of_ble_eq_true rfl, Nat.le_of_ble_eq_true rfl⟩ ⟨Nat.zero_le _, Nat.zero_le _⟩ dL_isOver_2 ?_
  refine zw_if_eq X (tgt := 12) dL_isOver_5 (by decide) (fun hb => ?_) (fun hb => ?_)
  · refine zw_run X (is := [(12, .iconst 0, 1)]) (t' := (13, [some (.ref (ad 0)), some (.int (nI g)), none], [.int 0])) ⟨dL_isOver_12, trivial⟩ rfl ?_
    exact zw_iret X hr dL_isOver_13 rfl (by rcases ho with h | h <;> simp_all) rfl
  · refine zw_run X (is := [(8, .iconst 1, 1)]) (t' := (9, [some (.ref (ad 0)), some (.int (nI g)), none], [.int 1])) ⟨dL_isOver_8, trivial⟩ rfl ?_
    refine zw_go X (tgt := 13) dL_isOver_9 (by decide) ?_
    exact zw_iret X hr dL_isOver_13 rfl (by rcases ho with h | h <;> simp_all) rfl

set_option maxHeartbeats 4000000 in
set_option maxRecDepth 100000 in
theorem w_isOver_x {l : Launch} (hls : l.stackTraces = false) {D : va_G} {cy : Nat → ClassId} {wa : Nat → Nat} {N n : Nat} {ad : Nat → Nat} (hD : zD n ad) (hn : 40 ≤ n) (σ : zS) (gc : Nat) (hgc : gc ≤ 8) (e0 : σ 0 11 = nI gc) (g : Nat) (hg : gc ≤ g) (hg2 : g < 100)  (sz : Nat) : Met l yL_isOver (.codeWith yL_isOver cL_isOver 3 (some .int) [(0, 13, 14, 25)] :: zB) (zRx 3) (zPc [.ref (ad 0), .int (nI g)] D cy wa N n ad σ sz) (zQi ((-900001)) D cy N n ad (σ) sz) 1 6 (zA n ad sz) := by
  refine z_metH (by decide) hls (List.forall_mem_cons.mpr ⟨rfl, (List.forall_mem_cons.mpr ⟨rfl, (fun _ h => nomatch h)⟩)⟩) (Nat.le_of_ble_eq_true rfl) (fun p_ e_ s_ m_ below_ meth_ c_ hsz hr ht X => ?_)
  have X : zX p_ l s_ m_ [.ref (ad 0), .int (nI g)].toArray meth_ c_ cL_isOver 3 RL D cy wa (zA n ad sz) := X
  have hAd : ∀ i, i < n → zA n ad sz (ad i) := fun i hi => Or.inl ⟨i, hi, rfl⟩
  refine zw_run X (is := [(0, .aload_n 0, 1), (1, .iload_n 1, 1)]) (t' := (2, [some (.ref (ad 0)), some (.int (nI g)), none], [.int (nI g), .ref (ad 0)])) ⟨dL_isOver_0, dL_isOver_1, trivial⟩ rfl ?_
  refine zw_catch X hAd ht (E := "java/lang/IndexOutOfBoundsException") (by decide +kernel) [] [] (0, 13, 14, 25) rfl (fun _ h => nomatch h) ⟨by decide, by decide⟩ (by decide) zm_129 (As := [.int (nI g)]) (rest := []) (d := 2) (i := 0) (by omega) zc_0 (q := (RX7, TX7, 16)) rfl ⟨zm_130, zm_131, zm_132, zm_2, zm_133, rfl, by decide, by decide, (show (parseMethodDescriptor yX7_isOver.desc).map (fun d => d.parameters.length) = some 1 by decide +kernel)⟩ (fun sz => c_isOver_x hls hD hn σ gc hgc e0 g hg hg2  sz) rfl rfl (Nat.le_of_ble_eq_true rfl) ⟨Nat.le_of_ble_eq_true rfl, Nat.le_of_ble_eq_true rfl⟩ ⟨Nat.le_of_ble_eq_true rfl, Nat.le_of_ble_eq_true rfl⟩ dL_isOver_2 (fun q9 => ?_)
  refine zw_run X (is := [(14, .astore_n 2, 1)]) (t' := (15, [some (.ref (ad 0)), some (.int (nI g)), some (.ref (q9))], [])) ⟨dL_isOver_14, trivial⟩ rfl ?_
  refine zw_ldc X (v := (-900001)) zm_8 dL_isOver_15 ?_
  exact zw_iret X hr dL_isOver_17 rfl rfl rfl

set_option maxHeartbeats 4000000 in
set_option maxRecDepth 100000 in
theorem w_strike_x {l : Launch} (hls : l.stackTraces = false) {D : va_G} {cy : Nat → ClassId} {wa : Nat → Nat} {N n : Nat} {ad : Nat → Nat} (hD : zD n ad) (hn : 40 ≤ n) (σ : zS) (cnt : Nat) (hc : cnt = 0 ∨ cnt = 6) (e1 : σ 4 1 = nI cnt) (w : Int32) (sz : Nat) : Met l yL_strike (.codeWith yL_strike cL_strike 3 (some .int) [(0, 13, 14, 27)] :: zB) (zRx 11) (zPc [.ref (ad 0), .int w] D cy wa N n ad σ sz) (zQi ((-900001)) D cy N n ad (σ) sz) 1 6 (zA n ad sz) := by
  refine z_metH (by decide) hls (List.forall_mem_cons.mpr ⟨rfl, (List.forall_mem_cons.mpr ⟨rfl, (fun _ h => nomatch h)⟩)⟩) (Nat.le_of_ble_eq_true rfl) (fun p_ e_ s_ m_ below_ meth_ c_ hsz hr ht X => ?_)
  have X : zX p_ l s_ m_ [.ref (ad 0), .int w].toArray meth_ c_ cL_strike 3 RL D cy wa (zA n ad sz) := X
  have hAd : ∀ i, i < n → zA n ad sz (ad i) := fun i hi => Or.inl ⟨i, hi, rfl⟩
  refine zw_run X (is := [(0, .aload_n 0, 1), (1, .iload_n 1, 1)]) (t' := (2, [some (.ref (ad 0)), some (.int w), none], [.int w, .ref (ad 0)])) ⟨dL_strike_0, dL_strike_1, trivial⟩ rfl ?_
  refine zw_catch X hAd ht (E := "java/lang/UnsupportedOperationException") (by decide +kernel) [] [] (0, 13, 14, 27) rfl (fun _ h => nomatch h) ⟨by decide, by decide⟩ (by decide) zm_144 (As := [.int w]) (rest := []) (d := 10) (i := 0) (by omega) zc_0 (q := (RX7, TX7, 16)) rfl ⟨zm_145, zm_146, zm_147, zm_2, zm_148, rfl, by decide, by decide, (show (parseMethodDescriptor yX7_strike.desc).map (fun d => d.parameters.length) = some 1 by decide +kernel)⟩ (fun sz => c_strike_x hls hD hn σ cnt hc e1 w sz) rfl rfl (Nat.le_of_ble_eq_true rfl) ⟨Nat.le_of_ble_eq_true rfl, Nat.le_of_ble_eq_true rfl⟩ ⟨Nat.le_of_ble_eq_true rfl, Nat.le_of_ble_eq_true rfl⟩ dL_strike_2 (fun q9 => ?_)
  refine zw_run X (is := [(14, .astore_n 2, 1)]) (t' := (15, [some (.ref (ad 0)), some (.int w), some (.ref (q9))], [])) ⟨dL_strike_14, trivial⟩ rfl ?_
  refine zw_ldc X (v := (-900001)) zm_8 dL_strike_15 ?_
  exact zw_iret X hr dL_strike_17 rfl rfl rfl

set_option maxHeartbeats 4000000 in
set_option maxRecDepth 100000 in
theorem w_lose {l : Launch} (hls : l.stackTraces = false) {D : va_G} {cy : Nat → ClassId} {wa : Nat → Nat} {N n : Nat} {ad : Nat → Nat} (hD : zD n ad) (hn : 40 ≤ n) (σ : zS) (gc : Nat) (hgc : gc ≤ 8) (e0 : σ 0 11 = nI gc) (g : Nat) (hg : g < gc) (b : Nat) (hb : b ≤ 600) (eb : σ (16 + g) 4 = nI b) (k : Nat) (hk : k < (b + 39) / 40) (sz : Nat) : Met l yL_lose (.codeWith yL_lose cL_lose 4 (some .int) [(0, 14, 15, 25), (0, 14, 19, 15)] :: zB) (zRm 3) (zPc [.ref (ad 0), .int (nI g), .int (nI k)] D cy wa N n ad σ sz) (zQi (if σ (32 + g) k = 0 then 1 else 0) D cy N n ad (zu σ (32 + g) k 1) sz) 0 0 (zA n ad sz) := by
  refine z_metH (by decide) hls (List.forall_mem_cons.mpr ⟨rfl, (List.forall_mem_cons.mpr ⟨rfl, (List.forall_mem_cons.mpr ⟨rfl, (fun _ h => nomatch h)⟩)⟩)⟩) (Nat.le_of_ble_eq_true rfl) (fun p_ e_ s_ m_ below_ meth_ c_ hsz hr ht X => ?_)
  have X : zX p_ l s_ m_ [.ref (ad 0), .int (nI g), .int (nI k)].toArray meth_ c_ cL_lose 4 RL D cy wa (zA n ad sz) := X
  have hAd : ∀ i, i < n → zA n ad sz (ad i) := fun i hi => Or.inl ⟨i, hi, rfl⟩
  refine zw_run X (is := [(0, .aload_n 0, 1), (1, .iload_n 1, 1), (2, .iload_n 2, 1)]) (t' := (3, [some (.ref (ad 0)), some (.int (nI g)), some (.int (nI k)), none], [.int (nI k), .int (nI g), .ref (ad 0)])) ⟨dL_lose_0, dL_lose_1, dL_lose_2, trivial⟩ rfl ?_
  refine zw_Vi X hAd (As := [.int (nI g), .int (nI k)]) (rest := []) (d := 2) (i := 0) (by omega) zc_0 (q := (RX7, TX7, 16)) rfl ⟨zm_299, zm_300, zm_301, zm_2, zm_302, rfl, by decide, by decide, (show (parseMethodDescriptor yX7_lose.desc).map (fun d => d.parameters.length) = some 2 by decide +kernel)⟩ (fun sz => c_lose hls hD hn σ gc hgc e0 g hg b hb eb k hk sz) rfl rfl (Nat.le_of_ble_eq_true rfl) ⟨Nat.le_of_ble_eq_true rfl, Nat.le_of_ble_eq_true rfl⟩ ⟨Nat.zero_le _, Nat.zero_le _⟩ dL_lose_3 ?_
  refine zw_if_eq X (tgt := 13) dL_lose_6 (by decide) (fun hb => ?_) (fun hb => ?_)
  · refine zw_run X (is := [(13, .iconst 0, 1)]) (t' := (14, [some (.ref (ad 0)), some (.int (nI g)), some (.int (nI k)), none], [.int 0])) ⟨dL_lose_13, trivial⟩ rfl ?_
    exact zw_iret X hr dL_lose_14 rfl (by by_cases h : σ (32 + g) k = 0 <;> simp_all) rfl
  · refine zw_run X (is := [(9, .iconst 1, 1)]) (t' := (10, [some (.ref (ad 0)), some (.int (nI g)), some (.int (nI k)), none], [.int 1])) ⟨dL_lose_9, trivial⟩ rfl ?_
    refine zw_go X (tgt := 14) dL_lose_10 (by decide) ?_
    exact zw_iret X hr dL_lose_14 rfl (by by_cases h : σ (32 + g) k = 0 <;> simp_all) rfl

set_option maxHeartbeats 4000000 in
set_option maxRecDepth 100000 in
theorem w_lose_bad {l : Launch} (hls : l.stackTraces = false) {D : va_G} {cy : Nat → ClassId} {wa : Nat → Nat} {N n : Nat} {ad : Nat → Nat} (hD : zD n ad) (hn : 40 ≤ n) (σ : zS) (gc : Nat) (hgc : gc ≤ 8) (e0 : σ 0 11 = nI gc) (g : Nat) (hg : g < gc) (b : Nat) (hb : b ≤ 600) (eb : σ (16 + g) 4 = nI b) (hb0 : 1 ≤ b) (sz : Nat) : Met l yL_lose (.codeWith yL_lose cL_lose 4 (some .int) [(0, 14, 15, 25), (0, 14, 19, 15)] :: zB) (zRx 3) (zPc [.ref (ad 0), .int (nI g), .int (nI ((b + 39) / 40))] D cy wa N n ad σ sz) (zQi ((-900002)) D cy N n ad (σ) sz) 1 6 (zA n ad sz) := by
  refine z_metH (by decide) hls (List.forall_mem_cons.mpr ⟨rfl, (List.forall_mem_cons.mpr ⟨rfl, (List.forall_mem_cons.mpr ⟨rfl, (fun _ h => nomatch h)⟩)⟩)⟩) (Nat.le_of_ble_eq_true rfl) (fun p_ e_ s_ m_ below_ meth_ c_ hsz hr ht X => ?_)
  have X : zX p_ l s_ m_ [.ref (ad 0), .int (nI g), .int (nI ((b + 39) / 40))].toArray meth_ c_ cL_lose 4 RL D cy wa (zA n ad sz) := X
  have hAd : ∀ i, i < n → zA n ad sz (ad i) := fun i hi => Or.inl ⟨i, hi, rfl⟩
  refine zw_run X (is := [(0, .aload_n 0, 1), (1, .iload_n 1, 1), (2, .iload_n 2, 1)]) (t' := (3, [some (.ref (ad 0)), some (.int (nI g)), some (.int (nI ((b + 39) / 40))), none], [.int (nI ((b + 39) / 40)), .int (nI g), .ref (ad 0)])) ⟨dL_lose_0, dL_lose_1, dL_lose_2, trivial⟩ rfl ?_
  refine zw_catch X hAd ht (E := "java/lang/IllegalArgumentException") (by decide +kernel) [(0, 14, 15, 25)] [] (0, 14, 19, 15) rfl (List.forall_mem_cons.mpr ⟨⟨by decide, _, zm_129, by decide +kernel⟩, (fun _ h => nomatch h)⟩) ⟨by decide, by decide⟩ (by decide) zm_102 (As := [.int (nI g), .int (nI ((b + 39) / 40))]) (rest := []) (d := 2) (i := 0) (by omega) zc_0 (q := (RX7, TX7, 16)) rfl ⟨zm_299, zm_300, zm_301, zm_2, zm_302, rfl, by decide, by decide, (show (parseMethodDescriptor yX7_lose.desc).map (fun d => d.parameters.length) = some 2 by decide +kernel)⟩ (fun sz => c_lose_bad hls hD hn σ gc hgc e0 g hg b hb eb hb0 sz) rfl rfl (Nat.le_of_ble_eq_true rfl) ⟨Nat.le_of_ble_eq_true rfl, Nat.le_of_ble_eq_true rfl⟩ ⟨Nat.le_of_ble_eq_true rfl, Nat.le_of_ble_eq_true rfl⟩ dL_lose_3 (fun q9 => ?_)
  refine zw_run X (is := [(19, .astore_n 3, 1)]) (t' := (20, [some (.ref (ad 0)), some (.int (nI g)), some (.int (nI ((b + 39) / 40))), some (.ref (q9))], [])) ⟨dL_lose_19, trivial⟩ rfl ?_
  refine zw_ldc X (v := (-900002)) zm_10 dL_lose_20 ?_
  exact zw_iret X hr dL_lose_22 rfl rfl rfl
