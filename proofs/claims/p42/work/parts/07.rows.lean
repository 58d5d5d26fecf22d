/-! Rows over the world by place. -/
def zMs : List (String × Nat × String) := [("Wagonplay", 354, "out of range"), ("Wagonplay", 356, "no such guild"), ("Wagonplay", 94, "a guild is not merged into itself"), ("Wagonplay", 358, "the guild is over"), ("Wagonplay", 123, "no such thing of a guild"), ("Wagonplay", 125, "no small letter"), ("Wagonplay", 374, "no subject is typed"), ("Wagonplay", 160, "no such part"), ("Wagonplay", 174, "a wagon has at most 9 wheels"), ("Wagonplay", 220, "a play has at most 600 lines"), ("Wagonplay", 362, "there are no stations"), ("Wagonplay", 364, "no day was played in this year")]
def zWs : List (String × Nat × String × Nat) := [("Wagonplay$Letters", 37, "creation", 0), ("Wagonplay$Letters", 39, "flood", 1), ("Wagonplay$Letters", 41, "birth", 2), ("Wagonplay$Letters", 43, "passion", 3), ("Wagonplay$Letters", 45, "doom", 4), ("WagonplayLaw", 116, "creation", 0), ("WagonplayLaw", 118, "flood", 1), ("WagonplayLaw", 120, "birth", 2), ("WagonplayLaw", 122, "passion", 3), ("WagonplayLaw", 124, "doom", 4), ("WagonplayLaw", 177, "floods", 5)]
def zNs : List (String × String) := [("java/lang/IllegalArgumentException", "java/lang/IndexOutOfBoundsException"), ("java/lang/UnsupportedOperationException", "java/lang/IndexOutOfBoundsException"), ("java/lang/UnsupportedOperationException", "java/lang/IllegalArgumentException"), ("java/lang/IllegalStateException", "java/lang/IllegalArgumentException")]
def zCs : List String := ["java/lang/IllegalArgumentException", "java/lang/IllegalStateException", "java/lang/IndexOutOfBoundsException", "java/lang/UnsupportedOperationException"]
def zDs : List String := ["java/lang/RuntimeException", "java/lang/Exception", "java/lang/Throwable"]
def zM (wa : Nat → Nat) (U : State) : Prop := (∀ q ∈ zMs, ∃ a : Nat, vk_R q.1 q.2.1 q.2.2 a U) ∧ (∀ q ∈ zWs, vk_R q.1 q.2.1 q.2.2.1 (wa q.2.2.2) U) ∧ (∀ q ∈ zNs, va_Nc q.1 q.2 U) ∧ (∀ E ∈ zCs, va_Nw (.castable E E) U) ∧ ∀ Y ∈ zDs, va_Nw (.declares ⟨Y, "<init>", "(Ljava/lang/String;)V"⟩) U
theorem zM.warm {wa : Nat → Nat} {s U : State} (hW : s.WarmedH U.vm) (h : zM wa s) : zM wa U :=
  ⟨fun q hq => (h.1 q hq).elim fun a ha => ⟨a, vk_R.warm hW ha⟩, fun q hq => vk_R.warm hW (h.2.1 q hq), fun q hq => va_Nc.moved hW.alike (h.2.2.1 q hq), fun E hE => va_Nw.warmC hW (h.2.2.2.1 E hE), fun Y hY => va_Nw.warmD hW (h.2.2.2.2 Y hY)⟩
theorem zM.same {wa : Nat → Nat} {u U : State} (hv : U.vm = u.vm) (h : zM wa u) : zM wa U :=
  ⟨fun q hq => (h.1 q hq).elim fun a ha => ⟨a, vk_R.same hv ha⟩, fun q hq => vk_R.same hv (h.2.1 q hq), fun q hq => va_Nc.moved (by rw [hv]; exact Vm.Alike.refl _) (h.2.2.1 q hq), fun E hE => va_Nw.same rfl hv.symm (h.2.2.2.1 E hE), fun Y hY => va_Nw.same rfl hv.symm (h.2.2.2.2 Y hY)⟩
def zX (p : Program) (l : Launch) (s : State) (m : MethodId) (args : Array Value) (meth : Method) (c : Code) (cc : ByteArray) (nL : Nat) (own : String) (D : va_G) (cy : Nat → ClassId) (wa : Nat → Nat) (A : Nat → Prop) : Prop :=
  p.tables.exec = Jvm.exec ∧ c.code = cc ∧ c.maxLocals = nL ∧ s.vm.findClass own = some m.cls ∧ (∀ w ∈ zB, w.before args s = true) ∧ meth.locks = false ∧ va_K D vwCl (zt cy) s ∧ (∀ q, s.heap.size ≤ q → A q) ∧ zE wa A s s.heap ∧ zM wa s ∧ l.stackTraces = false
def zW (p : Program) (l : Launch) (e : Env) (R : Room) (s : State) (m : MethodId) (args : Array Value) (below : List Frame) (meth : Method) (c : Code) (D : va_G) (cy : Nat → ClassId) (N : Nat) (A : Nat → Prop) (n : Nat) (ad : Nat → Nat) (cells slots : Nat) (Q : State → Prop) (t : zT) (σ : zS) : Prop :=
  ∀ (H : Heap) (locs : List Loc), va_P D vwCl (zw n ad (zf cy N ad σ)) H → va_S A s.heap H locs → zV p l e R s m args below meth c H locs cells slots Q t
/-- a method's start, and its ends -/
def zPc (av : List Value) (D : va_G) (cy : Nat → ClassId) (wa : Nat → Nat) (N n : Nat) (ad : Nat → Nat) (σ : zS) (sz : Nat) : Array Value → State → Prop :=
  va_Pc av (fun U => U.heap.size = sz ∧ va_P D vwCl (zw n ad (zf cy N ad σ)) U.heap ∧ va_K D vwCl (zt cy) U ∧ zE wa (zA n ad sz) U U.heap ∧ zM wa U)
def zQi (ans : Int32) (D : va_G) (cy : Nat → ClassId) (N n : Nat) (ad : Nat → Nat) (σ : zS) (sz : Nat) : Array Value → State → Outcome → State → Prop :=
  va_Qi (S := Unit) (fun r _ => r = ans) (fun _ t => va_P D vwCl (zw n ad (zf cy N ad σ)) t.heap) (zA n ad sz)
def zQv (D : va_G) (cy : Nat → ClassId) (N n : Nat) (ad : Nat → Nat) (σ : zS) (sz : Nat) : Array Value → State → Outcome → State → Prop :=
  va_Qv (S := Unit) (fun _ => True) (fun _ t => va_P D vwCl (zw n ad (zf cy N ad σ)) t.heap) (zA n ad sz)
def zNi (n : Nat) (ad : Nat → Nat) (sz : Nat) : Array Value → State → Outcome → State → Prop := va_Qi (S := Unit) (fun _ _ => False) (fun _ _ => True) (zA n ad sz)
def zNv (n : Nat) (ad : Nat → Nat) (sz : Nat) : Array Value → State → Outcome → State → Prop := va_Qv (S := Unit) (fun _ => False) (fun _ _ => True) (zA n ad sz)
def zXC (E : String) (D : va_G) (cy : Nat → ClassId) (N n : Nat) (ad : Nat → Nat) (σ : zS) (sz : Nat) : String → State → State → Prop :=
  vx_X (S := Unit) (fun _ => True) (fun E' _ t => E' = E ∧ va_P D vwCl (zw n ad (zf cy N ad σ)) t.heap) (zA n ad sz)
abbrev zRm (d : Nat) : Room := { frames := d, cells := 0, slots := 0, locals := 40 * d }
abbrev zRx (d : Nat) : Room := { frames := 6 + d, cells := 1, slots := 6, locals := 120 + 40 * d }
section ZM
variable {av : List Value} {D : va_G} {cy : Nat → ClassId} {wa : Nat → Nat} {N n : Nat} {ad : Nat → Nat} {σ : zS} {sz : Nat}
theorem zPc_blind : FrameBlind (zPc av D cy wa N n ad σ sz) := by
  intro a U g mk h
  obtain ⟨h1, h2, h3, h4, h5, h6⟩ := h
  exact ⟨h1, h2, h3, va_K.moved (u := U) (U := U.calling g mk a) (Vm.Alike.refl U.vm) h4, zE.moved (u := U) (U := U.calling g mk a) (Vm.Alike.refl U.vm) h5, zM.same (u := U) rfl h6⟩
end ZM
/-- a body, walked from its entry, gives the contract -/
theorem z_met {l : Launch} {y : MethodName} {bytes : ByteArray} {maxL : Nat} {ret : Option FieldType} {rm : Room} {av : List Value} {D : va_G} {cy : Nat → ClassId} {wa : Nat → Nat} {N n : Nat} {ad : Nat → Nat} {σ : zS} {sz mc ms : Nat} {Qc : Array Value → State → Outcome → State → Prop}
    (hy : plainName y.cls = true) (hls : l.stackTraces = false) (hc : ∀ v ∈ av, v.category = 1) (hn : av.length ≤ maxL)
    (body : ∀ (p : Program) (e : Env) (s : State) (m : MethodId) (below : List Frame) (meth : Method) (c : Code), s.heap.size = sz → meth.sig.returnType = ret → zX p l s m av.toArray meth c bytes maxL y.cls D cy wa (zA n ad sz) →
      zW p l e rm s m av.toArray below meth c D cy N (zA n ad sz) n ad 0 0 (MQ below Qc av.toArray s mc ms (zA n ad sz)) (0, av.map some ++ List.replicate (maxL - av.length) none, []) σ) :
    Met l y (.code y bytes maxL ret :: zB) rm (zPc av D cy wa N n ad σ sz) Qc mc ms (zA n ad sz) := by
  refine Met.ofW (cc := bytes) (maxL := maxL) (ret := ret) hy rfl ?_
  intro p e s m args below meth c s₁ B hml hv
  obtain ⟨rfl, hsz, hP, hK, hE, hM⟩ := hv
  have hts := atoms_spec (ws := .code y bytes maxL ret :: zB) B.pre
  have hX : zX p l s m av.toArray meth c bytes maxL y.cls D cy wa (zA n ad sz) := ⟨B.exec, B.bytes, hml, findClass_of_methodNamed B.named, fun w hw => hts w (List.mem_cons_of_mem _ hw), B.notSynchronized, hK, fun q h => Or.inr (by rw [← hsz]; exact h), hE, hM, hls⟩
  rw [lg_entry_eq]
  exact body p e s m below meth c hsz B.returns hX s.heap [] hP va_S.rf _ (zl_entry av hc hn)
/-- the same of a body that throws -/
theorem z_metx {l : Launch} {y : MethodName} {bytes : ByteArray} {maxL : Nat} {ret : Option FieldType} {rm : Room} {av : List Value} {D : va_G} {cy : Nat → ClassId} {wa : Nat → Nat} {N n : Nat} {ad : Nat → Nat} {σ : zS} {sz mc ms : Nat} {Qc : Array Value → State → Outcome → State → Prop} {XC : String → State → State → Prop}
    (hy : plainName y.cls = true) (hls : l.stackTraces = false) (hc : ∀ v ∈ av, v.category = 1) (hn : av.length ≤ maxL)
    (body : ∀ (p : Program) (e : Env) (s : State) (m : MethodId) (below : List Frame) (meth : Method) (c : Code), s.heap.size = sz → meth.sig.returnType = ret → (∀ x ∈ c.exceptionTable.toList, False) → zX p l s m av.toArray meth c bytes maxL y.cls D cy wa (zA n ad sz) →
      zW p l e rm s m av.toArray below meth c D cy N (zA n ad sz) n ad 0 0 (vx_MQ below Qc XC av.toArray s mc ms (zA n ad sz)) (0, av.map some ++ List.replicate (maxL - av.length) none, []) σ) :
    vx_Met l y (.code y bytes maxL ret :: zB) rm (zPc av D cy wa N n ad σ sz) Qc XC mc ms (zA n ad sz) := by
  refine vx_ofW (cc := bytes) (maxL := maxL) (ret := ret) hy rfl ?_
  intro p e s m args below meth c s₁ B hml hno hv
  obtain ⟨rfl, hsz, hP, hK, hE, hM⟩ := hv
  have hts := atoms_spec (ws := .code y bytes maxL ret :: zB) B.pre
  have hX : zX p l s m av.toArray meth c bytes maxL y.cls D cy wa (zA n ad sz) := ⟨B.exec, B.bytes, hml, findClass_of_methodNamed B.named, fun w hw => hts w (List.mem_cons_of_mem _ hw), B.notSynchronized, hK, fun q h => Or.inr (by rw [← hsz]; exact h), hE, hM, hls⟩
  rw [lg_entry_eq]
  exact body p e s m below meth c hsz B.returns hno hX s.heap [] hP va_S.rf _ (zl_entry av hc hn)
theorem z_goodIn {w0 : Cond} (h : w0 ∈ zB) : GoodIn zB (w0 :: zB) := by
  intro w hw
  rcases List.mem_cons.mp hw with rfl | hw
  · exact ⟨h, good_of_word (List.all_eq_true.mp zB_good _ h)⟩
  · exact ⟨hw, good_of_word (List.all_eq_true.mp zB_good _ hw)⟩
theorem z_gV {own C : String} {index : Nat} {y : MethodName} {w0 : Cond} (h1 : Cond.methodLink own index y ∈ zB) (h2 : Cond.instanceMethod y ∈ zB) (h3 : Cond.selects C y y ∈ zB) (h4 : Cond.initialized C ∈ zB) (h5 : w0 ∈ zB) : GoodIn zB (wsV own index C y (w0 :: zB)) := by
  intro w hw
  unfold wsV at hw
  rcases List.mem_append.mp hw with hw | hw
  · have : w ∈ zB := by
      simp only [List.mem_cons, List.not_mem_nil, or_false] at hw
      rcases hw with rfl | rfl | rfl | rfl
      · exact h1
      · exact h2
      · exact h3
      · exact h4
    exact ⟨this, good_of_word (List.all_eq_true.mp zB_good _ this)⟩
  · exact z_goodIn h5 w hw
theorem z_gS {own : String} {index : Nat} {y : MethodName} {w0 : Cond} (h1 : Cond.methodLink own index y ∈ zB) (h2 : Cond.static y ∈ zB) (h4 : Cond.initialized y.cls ∈ zB) (h5 : w0 ∈ zB) : GoodIn zB (va_wsS own index y (w0 :: zB)) := by
  intro w hw
  unfold va_wsS at hw
  rcases List.mem_append.mp hw with hw | hw
  · have : w ∈ zB := by
      simp only [List.mem_cons, List.not_mem_nil, or_false] at hw
      rcases hw with rfl | rfl | rfl
      · exact h1
      · exact h2
      · exact h4
    exact ⟨this, good_of_word (List.all_eq_true.mp zB_good _ this)⟩
  · exact z_goodIn h5 w hw
section ZW
variable {p : Program} {l : Launch} {e : Env} {R : Room} {s : State} {m : MethodId} {args : Array Value} {below : List Frame} {meth : Method} {c : Code} {D : va_G} {cy : Nat → ClassId} {wa : Nat → Nat} {N : Nat} {A : Nat → Prop} {n : Nat} {ad : Nat → Nat} {cells slots : Nat} {Q : State → Prop} {σ : zS}
variable {cc : ByteArray} {nL : Nat} {own : String} {pc : Nat} {L : List (Option Value)} {st : List Value}
theorem zw_run (X : zX p l s m args meth c cc nL own D cy wa A) {is : List (Nat × Instr × Nat)} {t t' : zT} (hd : zds cc is) (h : zgo cc is t = some t') (k : zW p l e R s m args below meth c D cy N A n ad cells slots Q t' σ) : zW p l e R s m args below meth c D cy N A n ad cells slots Q t σ :=
  fun H locs hP hS => zV_go X.1 X.2.1 is t t' hd h (k H locs hP hS)
theorem zw_widen {t : zT} {k w : Nat} (h1 : cells ≤ k) (h2 : slots ≤ w) (kk : zW p l e R s m args below meth c D cy N A n ad k w Q t σ) : zW p l e R s m args below meth c D cy N A n ad cells slots Q t σ :=
  fun H locs hP hS ls hl => W.widen h1 h2 (kk H locs hP hS ls hl)
theorem zw_getf (X : zX p l s m args meth c cc nL own D cy wa A) {i : Nat} (hi : i < n) {ci : Nat} {fs : List Value} (he : zc cy N ad i (σ i) = .inr (ci, fs)) {C : String} {T : u_T} {Nf : Nat} (hc : vwCl[ci]? = some (C, T, Nf)) (hin : ∀ w ∈ u_ws C T Nf, w ∈ zB) (k : Nat) (hk : k < Nf) (hT : (T k).1 = C) {index : Nat} (hl : Cond.fieldLink own index C (T k).2.1 (T k).2.2.1 ∈ zB) {v : Value} (hv : fs[k]? = some v) (hdg : decode cc pc = .ok (.getfield index, 3))
    (kk : zW p l e R s m args below meth c D cy N A n ad cells slots Q (pc + 3, L, v :: st) σ) : zW p l e R s m args below meth c D cy N A n ad cells slots Q (pc, L, .ref (ad i) :: st) σ := by
  obtain ⟨hx, hb, hml, hown, hts, hlk, hK, hA, hE, hM, hls⟩ := X
  intro H locs hP hS ls hl'
  exact va_get hx hb hts hin hown hK hP i (by rw [zw_get hi]; show some (ad i, zc cy N ad i (σ i)) = _; rw [he]) hc k hk (hts _ hl) (fun x h => by rw [hT] at h; exact h) hv hdg (kk H locs hP hS ls hl')
theorem zw_put (X : zX p l s m args meth c cc nL own D cy wa A) (hD : zD n ad) (hAd : ∀ i, i < n → A (ad i)) {i : Nat} (hi : i < n) {ci : Nat} {fs : List Value} (he : zc cy N ad i (σ i) = .inr (ci, fs)) {C : String} {T : u_T} {Nf : Nat} (hc : vwCl[ci]? = some (C, T, Nf)) (hin : ∀ w ∈ u_ws C T Nf, w ∈ zB) (ty0 : Nat → FieldType) (hty : ∀ k, k < Nf → parseFieldDescriptor (T k).2.2.1 = some (ty0 k)) (hnm : ∀ a, a < Nf → ∀ b, b < Nf → a ≠ b → (T a).2.1 ≠ (T b).2.1) (k : Nat) (hk : k < Nf) (hT : (T k).1 = C) (hfin : (T k).2.2.2 = false) {index : Nat} (hl : Cond.fieldLink own index C (T k).2.1 (T k).2.2.1 ∈ zB) {x : Int32} {ty : FieldType} (hd : parseFieldDescriptor (T k).2.2.1 = some ty) (hn : narrow ty (.int x) = .int x) (hfit : fits ty (.int x) = true) (hlen : k < fs.length) (he2 : zc cy N ad i (upd (σ i) k x) = .inr (ci, fs.set k (.int x))) (hdg : decode cc pc = .ok (.putfield index, 3))
    (kk : zW p l e R s m args below meth c D cy N A n ad cells slots Q (pc + 3, L, st) (zu σ i k x)) : zW p l e R s m args below meth c D cy N A n ad cells slots Q (pc, L, .int x :: .ref (ad i) :: st) σ := by
  obtain ⟨hx, hb, hml, hown, hts, hlk, hK, hA, hE, hM, hls⟩ := X
  intro H locs hP hS ls hl'
  refine va_put hx hb hts hin ty0 hty hnm hown hK hP (zw_D hD hAd) hS i (by rw [zw_get hi]; show some (ad i, zc cy N ad i (σ i)) = _; rw [he]) hc k hk (hts _ hl) (fun x h => by rw [hT] at h; exact h) hfin hd hn hfit hlen hdg (fun H1 locs1 hP1 _ hS1 => ?_)
  rw [zw_set hi, zf_put he2] at hP1
  exact kk H1 locs1 hP1 hS1 ls hl'
theorem zt_at {cy : Nat → ClassId} : (zt cy)[0]? = some (cy 0, .int) ∧ (zt cy)[1]? = some (cy 1, .boolean) ∧ (zt cy)[2]? = some (cy 2, .char) ∧ (zt cy)[3]? = some (cy 3, .object "Wagonplay$Guild") := ⟨rfl, rfl, rfl, rfl⟩
theorem zw_iald (X : zX p l s m args meth c cc nL own D cy wa A) {i : Nat} (hi : i < n) {len : Nat} (he : zc cy N ad i (σ i) = .inl (cy 0, len, .inl (σ i))) {x : Int32} {j : Nat} (hx0 : x = nI j) (hj : j < len) (hlen : len < 2 ^ 31) (hdg : decode cc pc = .ok (.iaload, 1))
    (kk : zW p l e R s m args below meth c D cy N A n ad cells slots Q (pc + 1, L, .int (σ i j) :: st) σ) : zW p l e R s m args below meth c D cy N A n ad cells slots Q (pc, L, .int x :: .ref (ad i) :: st) σ := by
  obtain ⟨hx, hb, hml, hown, hts, hlk, hK, hA, hE, hM, hls⟩ := X
  intro H locs hP hS ls hl'
  subst hx0
  refine va_iald hx hb hK hP i 0 (by rw [zw_get hi]; show some (ad i, zc cy N ad i (σ i)) = _; rw [he]) rfl (vp_in_nI hj hlen) hdg ?_
  rw [nI_clamp (Nat.lt_trans hj hlen)]
  exact kk H locs hP hS ls hl'
theorem zw_zald (X : zX p l s m args meth c cc nL own D cy wa A) {i : Nat} (hi : i < n) {len : Nat} (he : zc cy N ad i (σ i) = .inl (cy 1, len, .inl (σ i))) {x : Int32} {j : Nat} (hx0 : x = nI j) (hj : j < len) (hlen : len < 2 ^ 31) (hdg : decode cc pc = .ok (.baload, 1))
    (kk : zW p l e R s m args below meth c D cy N A n ad cells slots Q (pc + 1, L, .int (σ i j) :: st) σ) : zW p l e R s m args below meth c D cy N A n ad cells slots Q (pc, L, .int x :: .ref (ad i) :: st) σ := by
  obtain ⟨hx, hb, hml, hown, hts, hlk, hK, hA, hE, hM, hls⟩ := X
  intro H locs hP hS ls hl'
  subst hx0
  refine va_zald hx hb hK hP i 1 (by rw [zw_get hi]; show some (ad i, zc cy N ad i (σ i)) = _; rw [he]) rfl (vp_in_nI hj hlen) hdg ?_
  rw [nI_clamp (Nat.lt_trans hj hlen)]
  exact kk H locs hP hS ls hl'
theorem zw_cald (X : zX p l s m args meth c cc nL own D cy wa A) {i : Nat} (hi : i < n) {len : Nat} (he : zc cy N ad i (σ i) = .inl (cy 2, len, .inl (σ i))) {x : Int32} {j : Nat} (hx0 : x = nI j) (hj : j < len) (hlen : len < 2 ^ 31) (hdg : decode cc pc = .ok (.caload, 1))
    (kk : zW p l e R s m args below meth c D cy N A n ad cells slots Q (pc + 1, L, .int (σ i j) :: st) σ) : zW p l e R s m args below meth c D cy N A n ad cells slots Q (pc, L, .int x :: .ref (ad i) :: st) σ := by
  obtain ⟨hx, hb, hml, hown, hts, hlk, hK, hA, hE, hM, hls⟩ := X
  intro H locs hP hS ls hl'
  subst hx0
  refine va_cald hx hb hK hP i 2 (by rw [zw_get hi]; show some (ad i, zc cy N ad i (σ i)) = _; rw [he]) rfl (vp_in_nI hj hlen) hdg ?_
  rw [nI_clamp (Nat.lt_trans hj hlen)]
  exact kk H locs hP hS ls hl'
theorem zw_iast (X : zX p l s m args meth c cc nL own D cy wa A) (hD : zD n ad) (hAd : ∀ i, i < n → A (ad i)) {i : Nat} (hi : i < n) {len : Nat} (he : ∀ r, zc cy N ad i r = .inl (cy 0, len, .inl r)) {x v : Int32} {j : Nat} (hx0 : x = nI j) (hj : j < len) (hlen : len < 2 ^ 31) (hdg : decode cc pc = .ok (.iastore, 1))
    (kk : zW p l e R s m args below meth c D cy N A n ad cells slots Q (pc + 1, L, st) (zu σ i j v)) : zW p l e R s m args below meth c D cy N A n ad cells slots Q (pc, L, .int v :: .int x :: .ref (ad i) :: st) σ := by
  obtain ⟨hx, hb, hml, hown, hts, hlk, hK, hA, hE, hM, hls⟩ := X
  intro H locs hP hS ls hl'
  subst hx0
  refine va_iast hx hb hK hP (zw_D hD hAd) hS i 0 (f := σ i) (by rw [zw_get hi]; show some (ad i, zc cy N ad i (σ i)) = _; rw [he]) rfl (vp_in_nI hj hlen) hdg (fun H1 locs1 hP1 _ hS1 => ?_)
  rw [nI_clamp (Nat.lt_trans hj hlen), zw_set hi, zf_put (he _)] at hP1
  exact kk H1 locs1 hP1 hS1 ls hl'
theorem zw_zast (X : zX p l s m args meth c cc nL own D cy wa A) (hD : zD n ad) (hAd : ∀ i, i < n → A (ad i)) {i : Nat} (hi : i < n) {len : Nat} (he : ∀ r, zc cy N ad i r = .inl (cy 1, len, .inl r)) {x v : Int32} {j : Nat} (hx0 : x = nI j) (hj : j < len) (hlen : len < 2 ^ 31) (hv : vp_nar .boolean v = v) (hdg : decode cc pc = .ok (.bastore, 1))
    (kk : zW p l e R s m args below meth c D cy N A n ad cells slots Q (pc + 1, L, st) (zu σ i j v)) : zW p l e R s m args below meth c D cy N A n ad cells slots Q (pc, L, .int v :: .int x :: .ref (ad i) :: st) σ := by
  obtain ⟨hx, hb, hml, hown, hts, hlk, hK, hA, hE, hM, hls⟩ := X
  intro H locs hP hS ls hl'
  subst hx0
  refine va_zast hx hb hK hP (zw_D hD hAd) hS i 1 (f := σ i) (by rw [zw_get hi]; show some (ad i, zc cy N ad i (σ i)) = _; rw [he]) rfl (vp_in_nI hj hlen) hdg (fun H1 locs1 hP1 _ hS1 => ?_)
  rw [nI_clamp (Nat.lt_trans hj hlen), hv, zw_set hi, zf_put (he _)] at hP1
  exact kk H1 locs1 hP1 hS1 ls hl'
theorem zw_cast (X : zX p l s m args meth c cc nL own D cy wa A) (hD : zD n ad) (hAd : ∀ i, i < n → A (ad i)) {i : Nat} (hi : i < n) {len : Nat} (he : ∀ r, zc cy N ad i r = .inl (cy 2, len, .inl r)) {x v : Int32} {j : Nat} (hx0 : x = nI j) (hj : j < len) (hlen : len < 2 ^ 31) (hv : vp_nar .char v = v) (hdg : decode cc pc = .ok (.castore, 1))
    (kk : zW p l e R s m args below meth c D cy N A n ad cells slots Q (pc + 1, L, st) (zu σ i j v)) : zW p l e R s m args below meth c D cy N A n ad cells slots Q (pc, L, .int v :: .int x :: .ref (ad i) :: st) σ := by
  obtain ⟨hx, hb, hml, hown, hts, hlk, hK, hA, hE, hM, hls⟩ := X
  intro H locs hP hS ls hl'
  subst hx0
  refine va_cast hx hb hK hP (zw_D hD hAd) hS i 2 (f := σ i) (by rw [zw_get hi]; show some (ad i, zc cy N ad i (σ i)) = _; rw [he]) rfl (vp_in_nI hj hlen) hdg (fun H1 locs1 hP1 _ hS1 => ?_)
  rw [nI_clamp (Nat.lt_trans hj hlen), hv, zw_set hi, zf_put (he _)] at hP1
  exact kk H1 locs1 hP1 hS1 ls hl'
/-- guilds[x] -/
theorem zw_guild (X : zX p l s m args meth c cc nL own D cy wa A) (h1 : 1 < n) {x : Int32} {g : Nat} (hx0 : x = nI g) (hg : g < 8) (hdg : decode cc pc = .ok (.aaload, 1))
    (kk : zW p l e R s m args below meth c D cy N A n ad cells slots Q (pc + 1, L, .ref (ad (8 + g)) :: st) σ) : zW p l e R s m args below meth c D cy N A n ad cells slots Q (pc, L, .int x :: .ref (ad 1) :: st) σ := by
  obtain ⟨hx, hb, hml, hown, hts, hlk, hK, hA, hE, hM, hls⟩ := X
  intro H locs hP hS ls hl'
  subst hx0
  refine va_aldq hx hb hK hP 1 3 (n := 8) (f := fun j => some (ad (8 + j))) (by rw [zw_get h1]; rfl) rfl (vp_in_nI hg (by decide)) hdg ?_
  rw [nI_clamp (Nat.lt_trans hg (by decide))]
  exact kk H locs hP hS ls hl'
/-- if_icmp, if: to the side that holds -/
theorem zw_go (X : zX p l s m args meth c cc nL own D cy wa A) {off : Int} {tgt : Nat} (hdg : decode cc pc = .ok (.goto off, 3)) (ht : (pc : Int) + off = (tgt : Int)) (k : zW p l e R s m args below meth c D cy N A n ad cells slots Q (tgt, L, st) σ) : zW p l e R s m args below meth c D cy N A n ad cells slots Q (pc, L, st) σ :=
  fun H locs hP hS ls hl => lv_goto X.1 X.2.1 hdg ht (k H locs hP hS ls hl)
theorem zw_ldc (X : zX p l s m args meth c cc nL own D cy wa A) {index : Nat} {v : Int32} (hw : Cond.constant own index v ∈ zB) (hdg : decode cc pc = .ok (.ldc index, 2)) (k : zW p l e R s m args below meth c D cy N A n ad cells slots Q (pc + 2, L, .int v :: st) σ) : zW p l e R s m args below meth c D cy N A n ad cells slots Q (pc, L, st) σ :=
  fun H locs hP hS ls hl => lv_ldc X.1 X.2.1 X.2.2.2.1 (X.2.2.2.2.1 _ hw) hdg (k H locs hP hS ls hl)
theorem zw_icmp_eq (X : zX p l s m args meth c cc nL own D cy wa A) {x y : Int32} {off : Int} {tgt : Nat} (hdg : decode cc pc = .ok (.if_icmp .eq off, 3)) (ht : (pc : Int) + off = (tgt : Int)) (kt : x = y → zW p l e R s m args below meth c D cy N A n ad cells slots Q (tgt, L, st) σ) (kf : ¬ x = y → zW p l e R s m args below meth c D cy N A n ad cells slots Q (pc + 3, L, st) σ) : zW p l e R s m args below meth c D cy N A n ad cells slots Q (pc, L, .int y :: .int x :: st) σ :=
  fun H locs hP hS ls hl => lv_icmp_eq X.1 X.2.1 hdg ht (fun h => kt h H locs hP hS ls hl) (fun h => kf h H locs hP hS ls hl)
theorem zw_if_eq (X : zX p l s m args meth c cc nL own D cy wa A) {x : Int32} {off : Int} {tgt : Nat} (hdg : decode cc pc = .ok (.ifCond .eq off, 3)) (ht : (pc : Int) + off = (tgt : Int)) (kt : x = 0 → zW p l e R s m args below meth c D cy N A n ad cells slots Q (tgt, L, st) σ) (kf : ¬ x = 0 → zW p l e R s m args below meth c D cy N A n ad cells slots Q (pc + 3, L, st) σ) : zW p l e R s m args below meth c D cy N A n ad cells slots Q (pc, L, .int x :: st) σ :=
  fun H locs hP hS ls hl => lv_if_eq X.1 X.2.1 hdg ht (fun h => kt h H locs hP hS ls hl) (fun h => kf h H locs hP hS ls hl)
theorem zw_icmp_ne (X : zX p l s m args meth c cc nL own D cy wa A) {x y : Int32} {off : Int} {tgt : Nat} (hdg : decode cc pc = .ok (.if_icmp .ne off, 3)) (ht : (pc : Int) + off = (tgt : Int)) (kt : ¬ x = y → zW p l e R s m args below meth c D cy N A n ad cells slots Q (tgt, L, st) σ) (kf : x = y → zW p l e R s m args below meth c D cy N A n ad cells slots Q (pc + 3, L, st) σ) : zW p l e R s m args below meth c D cy N A n ad cells slots Q (pc, L, .int y :: .int x :: st) σ :=
  fun H locs hP hS ls hl => lv_icmp_ne X.1 X.2.1 hdg ht (fun h => kt h H locs hP hS ls hl) (fun h => kf h H locs hP hS ls hl)
theorem zw_if_ne (X : zX p l s m args meth c cc nL own D cy wa A) {x : Int32} {off : Int} {tgt : Nat} (hdg : decode cc pc = .ok (.ifCond .ne off, 3)) (ht : (pc : Int) + off = (tgt : Int)) (kt : ¬ x = 0 → zW p l e R s m args below meth c D cy N A n ad cells slots Q (tgt, L, st) σ) (kf : x = 0 → zW p l e R s m args below meth c D cy N A n ad cells slots Q (pc + 3, L, st) σ) : zW p l e R s m args below meth c D cy N A n ad cells slots Q (pc, L, .int x :: st) σ :=
  fun H locs hP hS ls hl => lv_if_ne X.1 X.2.1 hdg ht (fun h => kt h H locs hP hS ls hl) (fun h => kf h H locs hP hS ls hl)
theorem zw_icmp_lt (X : zX p l s m args meth c cc nL own D cy wa A) {x y : Int32} {off : Int} {tgt : Nat} (hdg : decode cc pc = .ok (.if_icmp .lt off, 3)) (ht : (pc : Int) + off = (tgt : Int)) (kt : x < y → zW p l e R s m args below meth c D cy N A n ad cells slots Q (tgt, L, st) σ) (kf : ¬ x < y → zW p l e R s m args below meth c D cy N A n ad cells slots Q (pc + 3, L, st) σ) : zW p l e R s m args below meth c D cy N A n ad cells slots Q (pc, L, .int y :: .int x :: st) σ :=
  fun H locs hP hS ls hl => lv_icmp_lt X.1 X.2.1 hdg ht (fun h => kt h H locs hP hS ls hl) (fun h => kf h H locs hP hS ls hl)
theorem zw_if_lt (X : zX p l s m args meth c cc nL own D cy wa A) {x : Int32} {off : Int} {tgt : Nat} (hdg : decode cc pc = .ok (.ifCond .lt off, 3)) (ht : (pc : Int) + off = (tgt : Int)) (kt : x < 0 → zW p l e R s m args below meth c D cy N A n ad cells slots Q (tgt, L, st) σ) (kf : ¬ x < 0 → zW p l e R s m args below meth c D cy N A n ad cells slots Q (pc + 3, L, st) σ) : zW p l e R s m args below meth c D cy N A n ad cells slots Q (pc, L, .int x :: st) σ :=
  fun H locs hP hS ls hl => lv_if_lt X.1 X.2.1 hdg ht (fun h => kt h H locs hP hS ls hl) (fun h => kf h H locs hP hS ls hl)
theorem zw_icmp_ge (X : zX p l s m args meth c cc nL own D cy wa A) {x y : Int32} {off : Int} {tgt : Nat} (hdg : decode cc pc = .ok (.if_icmp .ge off, 3)) (ht : (pc : Int) + off = (tgt : Int)) (kt : y ≤ x → zW p l e R s m args below meth c D cy N A n ad cells slots Q (tgt, L, st) σ) (kf : ¬ y ≤ x → zW p l e R s m args below meth c D cy N A n ad cells slots Q (pc + 3, L, st) σ) : zW p l e R s m args below meth c D cy N A n ad cells slots Q (pc, L, .int y :: .int x :: st) σ :=
  fun H locs hP hS ls hl => lv_icmp_ge X.1 X.2.1 hdg ht (fun h => kt h H locs hP hS ls hl) (fun h => kf h H locs hP hS ls hl)
theorem zw_if_ge (X : zX p l s m args meth c cc nL own D cy wa A) {x : Int32} {off : Int} {tgt : Nat} (hdg : decode cc pc = .ok (.ifCond .ge off, 3)) (ht : (pc : Int) + off = (tgt : Int)) (kt : 0 ≤ x → zW p l e R s m args below meth c D cy N A n ad cells slots Q (tgt, L, st) σ) (kf : ¬ 0 ≤ x → zW p l e R s m args below meth c D cy N A n ad cells slots Q (pc + 3, L, st) σ) : zW p l e R s m args below meth c D cy N A n ad cells slots Q (pc, L, .int x :: st) σ :=
  fun H locs hP hS ls hl => lv_if_ge X.1 X.2.1 hdg ht (fun h => kt h H locs hP hS ls hl) (fun h => kf h H locs hP hS ls hl)
theorem zw_icmp_gt (X : zX p l s m args meth c cc nL own D cy wa A) {x y : Int32} {off : Int} {tgt : Nat} (hdg : decode cc pc = .ok (.if_icmp .gt off, 3)) (ht : (pc : Int) + off = (tgt : Int)) (kt : y < x → zW p l e R s m args below meth c D cy N A n ad cells slots Q (tgt, L, st) σ) (kf : ¬ y < x → zW p l e R s m args below meth c D cy N A n ad cells slots Q (pc + 3, L, st) σ) : zW p l e R s m args below meth c D cy N A n ad cells slots Q (pc, L, .int y :: .int x :: st) σ :=
  fun H locs hP hS ls hl => lv_icmp_gt X.1 X.2.1 hdg ht (fun h => kt h H locs hP hS ls hl) (fun h => kf h H locs hP hS ls hl)
theorem zw_if_gt (X : zX p l s m args meth c cc nL own D cy wa A) {x : Int32} {off : Int} {tgt : Nat} (hdg : decode cc pc = .ok (.ifCond .gt off, 3)) (ht : (pc : Int) + off = (tgt : Int)) (kt : 0 < x → zW p l e R s m args below meth c D cy N A n ad cells slots Q (tgt, L, st) σ) (kf : ¬ 0 < x → zW p l e R s m args below meth c D cy N A n ad cells slots Q (pc + 3, L, st) σ) : zW p l e R s m args below meth c D cy N A n ad cells slots Q (pc, L, .int x :: st) σ :=
  fun H locs hP hS ls hl => lv_if_gt X.1 X.2.1 hdg ht (fun h => kt h H locs hP hS ls hl) (fun h => kf h H locs hP hS ls hl)
theorem zw_icmp_le (X : zX p l s m args meth c cc nL own D cy wa A) {x y : Int32} {off : Int} {tgt : Nat} (hdg : decode cc pc = .ok (.if_icmp .le off, 3)) (ht : (pc : Int) + off = (tgt : Int)) (kt : x ≤ y → zW p l e R s m args below meth c D cy N A n ad cells slots Q (tgt, L, st) σ) (kf : ¬ x ≤ y → zW p l e R s m args below meth c D cy N A n ad cells slots Q (pc + 3, L, st) σ) : zW p l e R s m args below meth c D cy N A n ad cells slots Q (pc, L, .int y :: .int x :: st) σ :=
  fun H locs hP hS ls hl => lv_icmp_le X.1 X.2.1 hdg ht (fun h => kt h H locs hP hS ls hl) (fun h => kf h H locs hP hS ls hl)
theorem zw_if_le (X : zX p l s m args meth c cc nL own D cy wa A) {x : Int32} {off : Int} {tgt : Nat} (hdg : decode cc pc = .ok (.ifCond .le off, 3)) (ht : (pc : Int) + off = (tgt : Int)) (kt : x ≤ 0 → zW p l e R s m args below meth c D cy N A n ad cells slots Q (tgt, L, st) σ) (kf : ¬ x ≤ 0 → zW p l e R s m args below meth c D cy N A n ad cells slots Q (pc + 3, L, st) σ) : zW p l e R s m args below meth c D cy N A n ad cells slots Q (pc, L, .int x :: st) σ :=
  fun H locs hP hS ls hl => lv_if_le X.1 X.2.1 hdg ht (fun h => kt h H locs hP hS ls hl) (fun h => kf h H locs hP hS ls hl)
/-- a method's ends -/
theorem zw_iret (X : zX p l s m args meth c cc nL own D cy wa A) (hr : meth.sig.returnType = some .int) (hdg : decode cc pc = .ok (.ireturn, 1)) {ans v : Int32} {σ' : zS} {sz : Nat} (hA0 : A = zA n ad sz) (hv : v = ans) (hσ : σ = σ') :
    zW p l e R s m args below meth c D cy N A n ad cells slots (MQ below (zQi ans D cy N n ad σ' sz) args s cells slots A) (pc, L, [.int v]) σ := by
  subst hv; subst hσ; subst hA0
  obtain ⟨hx, hb, hml, hown, hts, hlk, hK, hA, hE, hM, hls⟩ := X
  intro H locs hP hS ls hl'
  exact W.iret hx hb hr (fun t ht hW => ⟨⟨v, (), rfl, rfl, by show va_P _ _ _ t.heap; rw [ht]; exact hP⟩, hS.F ht⟩) hS.2.2 hdg hlk
theorem zw_zret (X : zX p l s m args meth c cc nL own D cy wa A) {ty : FieldType} (hr : meth.sig.returnType = some ty) (hdg : decode cc pc = .ok (.ireturn, 1)) {ans v : Int32} {σ' : zS} {sz : Nat} (hn : narrow ty (.int v) = .int v) (hA0 : A = zA n ad sz) (hv : v = ans) (hσ : σ = σ') :
    zW p l e R s m args below meth c D cy N A n ad cells slots (MQ below (zQi ans D cy N n ad σ' sz) args s cells slots A) (pc, L, [.int v]) σ := by
  subst hv; subst hσ; subst hA0
  obtain ⟨hx, hb, hml, hown, hts, hlk, hK, hA, hE, hM, hls⟩ := X
  intro H locs hP hS ls hl'
  exact W.zret hx hb hr hn (fun t ht hW => ⟨⟨v, (), rfl, rfl, by show va_P _ _ _ t.heap; rw [ht]; exact hP⟩, hS.F ht⟩) hS.2.2 hdg hlk
theorem zw_vret (X : zX p l s m args meth c cc nL own D cy wa A) (hr : meth.sig.returnType = none) (hdg : decode cc pc = .ok (.return_, 1)) {σ' : zS} {sz : Nat} (hA0 : A = zA n ad sz) (hσ : σ = σ') :
    zW p l e R s m args below meth c D cy N A n ad cells slots (MQ below (zQv D cy N n ad σ' sz) args s cells slots A) (pc, L, []) σ := by
  subst hσ; subst hA0
  obtain ⟨hx, hb, hml, hown, hts, hlk, hK, hA, hE, hM, hls⟩ := X
  intro H locs hP hS ls hl'
  exact W.vret hx hb hr (fun t ht hW => ⟨⟨(), rfl, trivial, by show va_P _ _ _ t.heap; rw [ht]; exact hP⟩, hS.F ht⟩) hS.2.2 hdg hlk
/-- what a callee may change is the caller's to change -/
theorem zA_in (X : zX p l s m args meth c cc nL own D cy wa A) (hAd : ∀ i, i < n → A (ad i)) {H : Heap} {locs : List Loc} (hS : va_S A s.heap H locs) : ∀ q, zA n ad H.size q → A q := by
  intro q h
  rcases h with ⟨i, hi, rfl⟩ | h
  · exact hAd i hi
  · exact X.2.2.2.2.2.2.2.1 q (Nat.le_trans hS.1 h)
theorem zPc_of (X : zX p l s m args meth c cc nL own D cy wa A) (hAd : ∀ i, i < n → A (ad i)) {H : Heap} {locs : List Loc} (hS : va_S A s.heap H locs) (hP : va_P D vwCl (zw n ad (zf cy N ad σ)) H) (av : List Value) : ∀ U : State, U.heap = H → s.WarmedH U.vm → zPc av D cy wa N n ad σ H.size av.toArray U := by
  have hz := zA_in X hAd hS
  obtain ⟨hx, hb, hml, hown, hts, hlk, hK, hA, hE, hM, hls⟩ := X
  intro U hU hW
  refine ⟨rfl, by rw [hU], by rw [hU]; exact hP, va_K.moved hW.alike hK, ?_, zM.warm hW hM⟩
  rw [hU]
  exact ((zE.moved hW.alike hE).kept hS.2.1).narrow hz
theorem zw_recv (X : zX p l s m args meth c cc nL own D cy wa A) {H : Heap} (hP : va_P D vwCl (zw n ad (zf cy N ad σ)) H) {i : Nat} (hi : i < n) {ci : Nat} {fs : List Value} (he : zc cy N ad i (σ i) = .inr (ci, fs)) {q : vw_C} (hc : vwCl[ci]? = some q) : ∃ cell : Cell, H[ad i]? = some cell ∧ cell.vm.isStatics = false ∧ s.vm.findClass q.1 = some cell.cls :=
  va_recv X.2.2.2.2.2.2.1 hP hc (q0 := i) (by rw [zw_get hi]; show some (ad i, zc cy N ad i (σ i)) = _; rw [he])
theorem zw_calli (X : zX p l s m args meth c cc nL own D cy wa A) (hAd : ∀ i, i < n → A (ad i)) {y : MethodName} {ws : List Cond} {rm : Room} {mc ms : Nat} {av rest : List Value} {st0 : List Value} {ans : Int32} {σ' : zS} (hr : ∀ (H : Heap) (locs : List Loc) (ls : Array Slot), va_P D vwCl (zw n ad (zf cy N ad σ)) H → va_S A s.heap H locs → zl ls L → va_Run p l e R s m args below meth c H locs cells slots mc ms (F0 m pc ls st0) rest (zQi ans D cy N n ad σ' H.size av.toArray) (zA n ad H.size))
    (kk : zW p l e R s m args below meth c D cy N A n ad (cells + mc) (slots + ms) Q (pc + 3, L, .int ans :: rest) σ') : zW p l e R s m args below meth c D cy N A n ad cells slots Q (pc, L, st0) σ := by
  intro H locs hP hS ls hl'
  have hz := zA_in X hAd hS
  refine va_calli (hr H locs ls hP hS hl') hS (fun q _ h => hz q h) hz (fun r u t H1 locs1 ht hvm hp hB hz1 hk1 hS1 => ?_)
  subst hp
  rw [ht] at hB
  exact kk H1 locs1 hB hS1 ls hl'
theorem zw_callv (X : zX p l s m args meth c cc nL own D cy wa A) (hAd : ∀ i, i < n → A (ad i)) {mc ms : Nat} {av rest : List Value} {st0 : List Value} {σ' : zS} (hr : ∀ (H : Heap) (locs : List Loc) (ls : Array Slot), va_P D vwCl (zw n ad (zf cy N ad σ)) H → va_S A s.heap H locs → zl ls L → va_Run p l e R s m args below meth c H locs cells slots mc ms (F0 m pc ls st0) rest (zQv D cy N n ad σ' H.size av.toArray) (zA n ad H.size))
    (kk : zW p l e R s m args below meth c D cy N A n ad (cells + mc) (slots + ms) Q (pc + 3, L, rest) σ') : zW p l e R s m args below meth c D cy N A n ad cells slots Q (pc, L, st0) σ := by
  intro H locs hP hS ls hl'
  have hz := zA_in X hAd hS
  refine va_callv (hr H locs ls hP hS hl') hS (fun q _ h => hz q h) hz (fun u t H1 locs1 ht hvm hp hB hz1 hk1 hS1 => ?_)
  rw [ht] at hB
  exact kk H1 locs1 hB hS1 ls hl'
end ZW
