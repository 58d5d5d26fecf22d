/-! New objects: worlds as lists, new cells in front. -/
/-- what the constructors' calls and arrays of references ask of the tables -/
def zN (U : State) : Prop := va_Nw (.methodLinkNest RX0 21 yX6_init RX7) U ∧ va_Nw (.methodLinkNest RX7 28 yX2_init RX7) U ∧ va_Nw (.methodLinkNest RX3 17 yX5_init RX7) U ∧ va_Nw (.methodLinkNest RX7 56 yX1_init RX7) U ∧ va_AO RX1 U ∧ va_AO RX5 U ∧ va_AO RX6 U
theorem zN.warm {s U : State} (hW : s.WarmedH U.vm) (h : zN s) : zN U :=
  ⟨va_Nw.warmM hW h.1, va_Nw.warmM hW h.2.1, va_Nw.warmM hW h.2.2.1, va_Nw.warmM hW h.2.2.2.1, va_AO.moved hW.alike h.2.2.2.2.1, va_AO.moved hW.alike h.2.2.2.2.2.1, va_AO.moved hW.alike h.2.2.2.2.2.2⟩
theorem zN.same {u U : State} (hv : U.vm = u.vm) (h : zN u) : zN U :=
  ⟨va_Nw.same rfl hv.symm h.1, va_Nw.same rfl hv.symm h.2.1, va_Nw.same rfl hv.symm h.2.2.1, va_Nw.same rfl hv.symm h.2.2.2.1, va_AO.moved (by rw [hv]; exact Vm.Alike.refl _) h.2.2.2.2.1, va_AO.moved (by rw [hv]; exact Vm.Alike.refl _) h.2.2.2.2.2.1, va_AO.moved (by rw [hv]; exact Vm.Alike.refl _) h.2.2.2.2.2.2⟩
theorem zd_iff {A : Nat → Prop} {ws : va_W} : va_D A ws ↔ (ws.map Prod.fst).Nodup ∧ ∀ q ∈ ws, A q.1 := by
  constructor
  · intro h
    refine ⟨?_, fun q hq => ?_⟩
    · rw [List.Nodup, List.pairwise_map, List.pairwise_iff_getElem]
      intro i j hi hj hij he
      have := h.1 i j ws[i] ws[j] (List.getElem?_eq_getElem hi) (List.getElem?_eq_getElem hj) he
      omega
    · obtain ⟨k, hk⟩ := List.getElem?_of_mem hq
      exact h.2 k q hk
  · intro h
    refine ⟨fun i j p q hi hj he => ?_, fun k q hk => h.2 q (List.mem_of_getElem? hk)⟩
    have hn := h.1
    rw [List.Nodup, List.pairwise_map, List.pairwise_iff_getElem] at hn
    obtain ⟨hi1, hi2⟩ := List.getElem?_eq_some_iff.mp hi
    obtain ⟨hj1, hj2⟩ := List.getElem?_eq_some_iff.mp hj
    subst hi2; subst hj2
    rcases Nat.lt_trichotomy i j with h1 | h1 | h1
    · exact absurd he (hn i j hi1 hj1 h1)
    · exact h1
    · exact absurd he.symm (hn j i hj1 hi1 h1)
theorem zd_mem {D : va_G} {ws ws' : va_W} {H : Heap} (h : va_P D vwCl ws H) (hm : ∀ q ∈ ws', q ∈ ws) : va_P D vwCl ws' H := by
  intro k q hk
  obtain ⟨k', hk'⟩ := List.getElem?_of_mem (hm q (List.mem_of_getElem? hk))
  exact h k' q hk'
theorem zd_perm {A : Nat → Prop} {ws ws' : va_W} (h : va_D A ws) (hp : ws'.Perm ws) : va_D A ws' := by
  rw [zd_iff] at h ⊢
  exact ⟨(hp.map Prod.fst).nodup_iff.mpr h.1, fun q hq => h.2 q (hp.mem_iff.mp hq)⟩
theorem zd_sub {A : Nat → Prop} {ws ws' : va_W} (h : va_D A ws) (hp : ws'.Sublist ws) : va_D A ws' := by
  rw [zd_iff] at h ⊢
  exact ⟨(hp.map Prod.fst).nodup h.1, fun q hq => h.2 q (hp.subset hq)⟩
theorem zd_arr {c : ClassId} {n : Nat} {f g : Nat → Value} (h : ∀ j, j < n → f j = g j) : arrV c n f = arrV c n g := by
  unfold arrV
  congr 1
  apply Array.ext_getElem?
  intro i
  simp only [Array.getElem?_ofFn]
  split
  · rename_i hi
    exact congrArg some (h i hi)
  · rfl
section ZU
variable {p : Program} {l : Launch} {e : Env} {R : Room} {s : State} {m : MethodId} {args : Array Value} {below : List Frame} {meth : Method} {c : Code} {D : va_G} {cy : Nat → ClassId} {wa : Nat → Nat} {A : Nat → Prop} {cells slots : Nat} {Q : State → Prop} {ws : va_W}
variable {cc : ByteArray} {nL : Nat} {own : String} {pc index : Nat} {L : List (Option Value)} {rest st : List Value}
def zUW (p : Program) (l : Launch) (e : Env) (R : Room) (s : State) (m : MethodId) (args : Array Value) (below : List Frame) (meth : Method) (c : Code) (D : va_G) (A : Nat → Prop) (cells slots : Nat) (Q : State → Prop) (ws : va_W) (t : zT) : Prop :=
  ∀ (H : Heap) (locs : List Loc), va_P D vwCl ws H → va_D A ws → va_S A s.heap H locs → zV p l e R s m args below meth c H locs cells slots Q t
theorem zu_run (X : zX p l s m args meth c cc nL own D cy wa A) {is : List (Nat × Instr × Nat)} {t t' : zT} (hd : zds cc is) (h : zgo cc is t = some t') (k : zUW p l e R s m args below meth c D A cells slots Q ws t') : zUW p l e R s m args below meth c D A cells slots Q ws t :=
  fun H locs hP hD hS => zV_go X.1 X.2.1 is t t' hd h (k H locs hP hD hS)
theorem zu_widen {t : zT} {k w : Nat} (h1 : cells ≤ k) (h2 : slots ≤ w) (kk : zUW p l e R s m args below meth c D A k w Q ws t) : zUW p l e R s m args below meth c D A cells slots Q ws t :=
  fun H locs hP hD hS ls hl => W.widen h1 h2 (kk H locs hP hD hS ls hl)
theorem zu_sub {t : zT} {ws' : va_W} (hp : ws'.Sublist ws) (kk : zUW p l e R s m args below meth c D A cells slots Q ws' t) : zUW p l e R s m args below meth c D A cells slots Q ws t :=
  fun H locs hP hD hS => kk H locs (zd_mem hP (fun q hq => hp.subset hq)) (zd_sub hD hp) hS
theorem zu_perm {t : zT} {ws' : va_W} (hp : ws'.Perm ws) (kk : zUW p l e R s m args below meth c D A cells slots Q ws' t) : zUW p l e R s m args below meth c D A cells slots Q ws t :=
  fun H locs hP hD hS => kk H locs (zd_mem hP (fun q hq => hp.mem_iff.mp hq)) (zd_perm hD hp) hS
/-- an array's cells by another function that agrees within it -/
theorem zu_arr {t : zT} {a n : Nat} {cA : ClassId} {x y : vp_A} {tl : va_W} (h : vp_cell cA x = vp_cell cA y) (kk : zUW p l e R s m args below meth c D A cells slots Q ((a, .inl (cA, y)) :: tl) t) : zUW p l e R s m args below meth c D A cells slots Q ((a, .inl (cA, x)) :: tl) t := by
  intro H locs hP hD hS
  refine kk H locs (fun k q hk => ?_) ?_ hS
  · cases k with
    | zero =>
      cases hk
      have := hP 0 _ rfl
      show H[a]? = some (vp_cell cA y)
      rw [← h]
      exact this
    | succ k => exact hP (k + 1) q hk
  · rw [zd_iff] at hD ⊢
    refine ⟨hD.1, fun q hq => ?_⟩
    rcases List.mem_cons.mp hq with rfl | hq
    · exact hD.2 (a, .inl (cA, x)) List.mem_cons_self
    · exact hD.2 q (List.mem_cons_of_mem _ hq)
theorem zu_go (X : zX p l s m args meth c cc nL own D cy wa A) {off : Int} {tgt : Nat} (hdg : decode cc pc = .ok (.goto off, 3)) (ht : (pc : Int) + off = (tgt : Int)) (k : zUW p l e R s m args below meth c D A cells slots Q ws (tgt, L, st)) : zUW p l e R s m args below meth c D A cells slots Q ws (pc, L, st) :=
  fun H locs hP hD hS ls hl => lv_goto X.1 X.2.1 hdg ht (k H locs hP hD hS ls hl)
theorem zu_obj (X : zX p l s m args meth c cc nL own D cy wa A) {a : Nat} (h1 : Cond.methodLink own index objectInit ∈ zB) (h2 : Cond.instanceMethod objectInit ∈ zB) (h3 : Cond.code objectInit ⟨#[0xb1]⟩ 1 none ∈ zB) (hnL : L.length = nL) (hf : 1 ≤ R.frames) (hl0 : 12 + (rest.map fun v => v.category).sum + 8 ≤ R.locals) (hdg : decode cc pc = .ok (.invokespecial index, 3))
    (kk : zUW p l e R s m args below meth c D A cells slots Q ws (pc + 3, L, rest)) : zUW p l e R s m args below meth c D A cells slots Q ws (pc, L, .ref a :: rest) := by
  obtain ⟨hx, hb, hml, hown, hts, hlk, hK, hA, hE, hM, hls⟩ := X
  intro H locs hP hD hS ls hl
  exact W.objInit hx hb hown (hts _ h1) (hts _ h2) (hts _ h3) rfl (by rw [hml]; exact hl.1.trans hnL) rfl hdg hf (by show 2 * 0 + _ + 12 ≤ _; omega) (kk H locs hP hD hS ls hl)
theorem zu_newa (X : zX p l s m args meth c cc nL own D cy wa A) {atype : ArrayType} {ty : FieldType} (hty : newarray.typeOf atype = ty) {t0 : Nat} {cA0 : ClassId} (ht : (zt cy)[t0]? = some (cA0, ty)) (hs : ∀ (U : State) (c : ClassId), va_RA U c ty → U.vm.findClass ("[" ++ ty.toString) = some c) (harr : Cond.arrayClass (newarray.typeOf atype) ∈ zB)
    {n : Int32} {N' : Nat} {a0 : vp_A} (ha : ∀ cA : ClassId, vp_cell cA a0 = arrV cA N' (fun _ => defaultValue ty)) (hn : ¬ n < 0) (hN : n.toNatClampNeg = N') (hbytes : N' * componentBytes ty ≤ 536870912) (hcells : cells + 1 ≤ R.cells) (hslots : slots + N' ≤ R.slots) (hdg : decode cc pc = .ok (.newarray atype, 2))
    (kk : ∀ q : Nat, zUW p l e R s m args below meth c D A (cells + 1) (slots + N') Q ((q, .inl (cA0, a0)) :: ws) (pc + 2, L, .ref q :: rest)) : zUW p l e R s m args below meth c D A cells slots Q ws (pc, L, .int n :: rest) := by
  obtain ⟨hx, hb, hml, hown, hts, hlk, hK, hA, hE, hM, hls⟩ := X
  intro H locs hP hD hS ls hl
  refine va_newa hx hb (hts _ harr) hty hK hP hD hS hA ha hn hN hbytes hcells hslots hdg (fun q cA H1 hK1 hP1 hD1 hS1 => ?_)
  have e1 := hs s cA (hK1.2 (zt cy).length (cA, ty) (by simp)).2
  have e2 := hs s cA0 (hK.2 t0 _ ht).2
  obtain rfl : cA = cA0 := Option.some.inj (e1.symm.trans e2)
  exact kk q H1 locs (zd_mem hP1 (fun x hx => by rcases List.mem_cons.mp hx with rfl | hx; exact List.mem_append_right _ List.mem_cons_self; exact List.mem_append_left _ hx)) (zd_perm hD1 (List.perm_append_singleton _ _).symm) hS1 ls hl
theorem zu_newq (X : zX p l s m args meth c cc nL own D cy wa A) {C : String} (hcl : Cond.classLink own index C ∈ zB) (hover : va_AO C s)
    {n : Int32} {N' : Nat} (hn : ¬ n < 0) (hN : n.toNatClampNeg = N') (hbytes : N' * 4 ≤ 536870912) (hcells : cells + 1 ≤ R.cells) (hslots : slots + N' ≤ R.slots) (hdg : decode cc pc = .ok (.anewarray index, 3))
    (kk : ∀ (q : Nat) (cA : ClassId), va_K D vwCl (zt cy ++ [(cA, .object C)]) s → zUW p l e R s m args below meth c D A (cells + 1) (slots + N') Q ((q, .inl (cA, N', .inr (.inr (.inr (.inr (fun _ => none)))))) :: ws) (pc + 3, L, .ref q :: rest)) : zUW p l e R s m args below meth c D A cells slots Q ws (pc, L, .int n :: rest) := by
  obtain ⟨hx, hb, hml, hown, hts, hlk, hK, hA, hE, hM, hls⟩ := X
  intro H locs hP hD hS ls hl
  refine va_newq hx hb hown (hts _ hcl) hover hK hP hD hS hA hn hN hbytes hcells hslots hdg (fun q cA H1 hK1 hP1 hD1 hS1 => ?_)
  exact kk q cA hK1 H1 locs (zd_mem hP1 (fun x hx => by rcases List.mem_cons.mp hx with rfl | hx; exact List.mem_append_right _ List.mem_cons_self; exact List.mem_append_left _ hx)) (zd_perm hD1 (List.perm_append_singleton _ _).symm) hS1 ls hl
theorem zu_new (X : zX p l s m args meth c cc nL own D cy wa A) {C : String} {T : u_T} {Nf ci : Nat} (hc : vwCl[ci]? = some (C, T, Nf)) (hin : ∀ w ∈ u_ws C T Nf, w ∈ zB) (ty : Nat → FieldType) (hty : ∀ k, k < Nf → parseFieldDescriptor (T k).2.2.1 = some (ty k)) (hcl : Cond.classLink own index C ∈ zB) (hinst : Cond.instantiable C Nf ∈ zB) (hini : Cond.initialized C ∈ zB)
    {fs : List Value} (hfs : ∀ j, j < Nf → defaultValue (ty j) = vp_V fs j) (hcells : cells + 1 ≤ R.cells) (hslots : slots + Nf ≤ R.slots) (hdg : decode cc pc = .ok (.new index, 3))
    (kk : ∀ q : Nat, zUW p l e R s m args below meth c D A (cells + 1) (slots + Nf) Q ((q, .inr (ci, fs)) :: ws) (pc + 3, L, .ref q :: rest)) : zUW p l e R s m args below meth c D A cells slots Q ws (pc, L, rest) := by
  obtain ⟨hx, hb, hml, hown, hts, hlk, hK, hA, hE, hM, hls⟩ := X
  intro H locs hP hD hS ls hl
  refine va_new hx hb hts hin ty hty hown (hts _ hcl) (hts _ hinst) (hts _ hini) hK hP hD hS hA hc hfs hcells hslots hdg (fun q H1 hP1 hD1 hS1 => ?_)
  exact kk q H1 locs (zd_mem hP1 (fun x hx => by rcases List.mem_cons.mp hx with rfl | hx; exact List.mem_append_right _ List.mem_cons_self; exact List.mem_append_left _ hx)) (zd_perm hD1 (List.perm_append_singleton _ _).symm) hS1 ls hl
theorem zu_getf (X : zX p l s m args meth c cc nL own D cy wa A) (q0 : Nat) {a ci : Nat} {fs : List Value} (he : ws[q0]? = some (a, .inr (ci, fs))) {C : String} {T : u_T} {Nf : Nat} (hc : vwCl[ci]? = some (C, T, Nf)) (hin : ∀ w ∈ u_ws C T Nf, w ∈ zB) (k : Nat) (hk : k < Nf) (hT : (T k).1 = C) (hl0 : Cond.fieldLink own index C (T k).2.1 (T k).2.2.1 ∈ zB) {v : Value} (hv : fs[k]? = some v) (hdg : decode cc pc = .ok (.getfield index, 3))
    (kk : zUW p l e R s m args below meth c D A cells slots Q ws (pc + 3, L, v :: rest)) : zUW p l e R s m args below meth c D A cells slots Q ws (pc, L, .ref a :: rest) := by
  obtain ⟨hx, hb, hml, hown, hts, hlk, hK, hA, hE, hM, hls⟩ := X
  intro H locs hP hD hS ls hl
  exact va_get hx hb hts hin hown hK hP q0 he hc k hk (hts _ hl0) (fun x h => by rw [hT] at h; exact h) hv hdg (kk H locs hP hD hS ls hl)
theorem zu_put (X : zX p l s m args meth c cc nL own D cy wa A) (q0 : Nat) {a ci : Nat} {fs : List Value} (he : ws[q0]? = some (a, .inr (ci, fs))) {C : String} {T : u_T} {Nf : Nat} (hc : vwCl[ci]? = some (C, T, Nf)) (hin : ∀ w ∈ u_ws C T Nf, w ∈ zB) (ty0 : Nat → FieldType) (hty : ∀ k, k < Nf → parseFieldDescriptor (T k).2.2.1 = some (ty0 k)) (hnm : ∀ a, a < Nf → ∀ b, b < Nf → a ≠ b → (T a).2.1 ≠ (T b).2.1) (k : Nat) (hk : k < Nf) (hT : (T k).1 = C) (hl0 : Cond.fieldLink own index C (T k).2.1 (T k).2.2.1 ∈ zB)
    (hfin : (T k).2.2.2 = false) {ty : FieldType} {v : Value} (hd : parseFieldDescriptor (T k).2.2.1 = some ty) (hn : narrow ty v = v) (hfit : fits ty v = true) (hlk2 : k < fs.length) (hdg : decode cc pc = .ok (.putfield index, 3))
    (kk : zUW p l e R s m args below meth c D A cells slots Q (ws.set q0 (a, .inr (ci, fs.set k v))) (pc + 3, L, rest)) : zUW p l e R s m args below meth c D A cells slots Q ws (pc, L, v :: .ref a :: rest) := by
  obtain ⟨hx, hb, hml, hown, hts, hlk, hK, hA, hE, hM, hls⟩ := X
  intro H locs hP hD hS ls hl
  exact va_put hx hb hts hin ty0 hty hnm hown hK hP hD hS q0 he hc k hk (hts _ hl0) (fun x h => by rw [hT] at h; exact h) hfin hd hn hfit hlk2 hdg (fun H1 locs1 hP1 hD1 hS1 => kk H1 locs1 hP1 hD1 hS1 ls hl)
theorem zu_putF (X : zX p l s m args meth c cc nL own D cy wa A) (hnm0 : meth.name = "<init>") (q0 : Nat) {a ci : Nat} {fs : List Value} (he : ws[q0]? = some (a, .inr (ci, fs))) {C : String} {T : u_T} {Nf : Nat} (hc : vwCl[ci]? = some (C, T, Nf)) (hin : ∀ w ∈ u_ws C T Nf, w ∈ zB) (ty0 : Nat → FieldType) (hty : ∀ k, k < Nf → parseFieldDescriptor (T k).2.2.1 = some (ty0 k)) (hnm : ∀ a, a < Nf → ∀ b, b < Nf → a ≠ b → (T a).2.1 ≠ (T b).2.1) (k : Nat) (hk : k < Nf) (hT : (T k).1 = C) (hO : (T k).1 = own) (hl0 : Cond.fieldLink own index C (T k).2.1 (T k).2.2.1 ∈ zB)
    (hfin : (T k).2.2.2 = true) {ty : FieldType} {v : Value} (hd : parseFieldDescriptor (T k).2.2.1 = some ty) (hn : narrow ty v = v) (hfit : fits ty v = true) (hlk2 : k < fs.length) (hdg : decode cc pc = .ok (.putfield index, 3))
    (kk : zUW p l e R s m args below meth c D A cells slots Q (ws.set q0 (a, .inr (ci, fs.set k v))) (pc + 3, L, rest)) : zUW p l e R s m args below meth c D A cells slots Q ws (pc, L, v :: .ref a :: rest) := by
  obtain ⟨hx, hb, hml, hown, hts, hlk, hK, hA, hE, hM, hls⟩ := X
  intro H locs hP hD hS ls hl
  exact va_putF hx hb hts hin ty0 hty hnm hown hK hP hD hS q0 he hc k hk (hts _ hl0) (fun x h => by rw [hT] at h; exact h) hfin hnm0 hO hd hn hfit hlk2 hdg (fun H1 locs1 hP1 hD1 hS1 => kk H1 locs1 hP1 hD1 hS1 ls hl)
theorem zu_iast (X : zX p l s m args meth c cc nL own D cy wa A) (q0 : Nat) {a len : Nat} {f : Nat → Int32} (he : ws[q0]? = some (a, .inl (cy 0, len, .inl f))) {i : Int32} {x : Int32} (hin : vp_in i len) (hdg : decode cc pc = .ok (.iastore, 1))
    (kk : zUW p l e R s m args below meth c D A cells slots Q (ws.set q0 (a, .inl (cy 0, len, .inl (upd f i.toNatClampNeg x)))) (pc + 1, L, rest)) : zUW p l e R s m args below meth c D A cells slots Q ws (pc, L, .int x :: .int i :: .ref a :: rest) := by
  obtain ⟨hx, hb, hml, hown, hts, hlk, hK, hA, hE, hM, hls⟩ := X
  intro H locs hP hD hS ls hl
  exact va_iast hx hb hK hP hD hS q0 0 he rfl hin hdg (fun H1 locs1 hP1 hD1 hS1 => kk H1 locs1 hP1 hD1 hS1 ls hl)
theorem zu_ast (X : zX p l s m args meth c cc nL own D cy wa A) {tys : List (ClassId × FieldType)} (hK : va_K D vwCl tys s) (q0 t0 qk ci : Nat) {a v len : Nat} {cA : ClassId} {r : vw_C} {vs : List Value} {f : Nat → Option Nat} (he : ws[q0]? = some (a, .inl (cA, len, .inr (.inr (.inr (.inr f)))))) (ht : tys[t0]? = some (cA, .object r.1)) (hv : ws[qk]? = some (v, .inr (ci, vs))) (hc : vwCl[ci]? = some r) {i : Int32} (hin : vp_in i len) (hdg : decode cc pc = .ok (.aastore, 1))
    (kk : zUW p l e R s m args below meth c D A cells slots Q (ws.set q0 (a, .inl (cA, len, .inr (.inr (.inr (.inr (va_up f i.toNatClampNeg (some v)))))))) (pc + 1, L, rest)) : zUW p l e R s m args below meth c D A cells slots Q ws (pc, L, .ref v :: .int i :: .ref a :: rest) := by
  intro H locs hP hD hS ls hl
  exact va_astq X.1 X.2.1 hK hP hD hS q0 t0 qk ci he ht hv hc hin hdg (fun H1 locs1 hP1 hD1 hS1 => kk H1 locs1 hP1 hD1 hS1 ls hl)
theorem zu_icmp_ge (X : zX p l s m args meth c cc nL own D cy wa A) {off : Int} {tgt : Nat} {x y : Int32} (hdg : decode cc pc = .ok (.if_icmp .ge off, 3)) (ht : (pc : Int) + off = (tgt : Int))
    (k1 : y ≤ x → zUW p l e R s m args below meth c D A cells slots Q ws (tgt, L, rest)) (k2 : ¬ y ≤ x → zUW p l e R s m args below meth c D A cells slots Q ws (pc + 3, L, rest)) : zUW p l e R s m args below meth c D A cells slots Q ws (pc, L, .int y :: .int x :: rest) :=
  fun H locs hP hD hS ls hl => lv_icmp_ge X.1 X.2.1 hdg ht (fun h => k1 h H locs hP hD hS ls hl) (fun h => k2 h H locs hP hD hS ls hl)
end ZU
/-- what a constructor may change: the new object, and what it makes -/
def zA1 (a sz : Nat) : Nat → Prop := fun q => q = a ∨ sz ≤ q
/-- a constructor's start and end: P says which fields the object has, and which new cells are kept in sight -/
def zPu (a ci : Nat) (fs : List Value) (D : va_G) (cy : Nat → ClassId) (wa : Nat → Nat) (sz : Nat) : Array Value → State → Prop :=
  va_Pc [.ref a] (fun U => U.heap.size = sz ∧ va_P D vwCl [(a, .inr (ci, fs))] U.heap ∧ va_K D vwCl (zt cy) U ∧ zE wa (zA1 a sz) U U.heap ∧ zM wa U ∧ zN U)
def zBu (P : List Value → va_W → Prop) (a ci : Nat) (D : va_G) (sz : Nat) (H : Heap) : Prop := ∃ (fs1 : List Value) (nw : va_W), P fs1 nw ∧ va_P D vwCl ((a, .inr (ci, fs1)) :: nw) H ∧ va_D (zA1 a sz) ((a, .inr (ci, fs1)) :: nw)
def zQu (P : List Value → va_W → Prop) (a ci : Nat) (D : va_G) (sz : Nat) : Array Value → State → Outcome → State → Prop :=
  va_Qv (S := Unit) (fun _ => True) (fun _ t => zBu P a ci D sz t.heap) (zA1 a sz)
theorem zPu_blind {a ci : Nat} {fs : List Value} {D : va_G} {cy : Nat → ClassId} {wa : Nat → Nat} {sz : Nat} : FrameBlind (zPu a ci fs D cy wa sz) := by
  intro v U g mk h
  obtain ⟨h1, h2, h3, h4, h5, h6, h7⟩ := h
  exact ⟨h1, h2, h3, va_K.moved (u := U) (U := U.calling g mk v) (Vm.Alike.refl U.vm) h4, zE.moved (u := U) (U := U.calling g mk v) (Vm.Alike.refl U.vm) h5, zM.same (u := U) rfl h6, zN.same (u := U) rfl h7⟩
abbrev zRi (d k w : Nat) : Room := { frames := d, cells := k, slots := w, locals := 40 * d }
theorem z_metU {l : Launch} {y : MethodName} {bytes : ByteArray} {maxL : Nat} {rm : Room} {a ci : Nat} {fs : List Value} {D : va_G} {cy : Nat → ClassId} {wa : Nat → Nat} {sz mc ms : Nat} {P : List Value → va_W → Prop}
    (hy : plainName y.cls = true) (hy2 : y.name = "<init>") (hls : l.stackTraces = false) (hn : 1 ≤ maxL)
    (body : ∀ (p : Program) (e : Env) (s : State) (m : MethodId) (below : List Frame) (meth : Method) (c : Code), s.heap.size = sz → meth.sig.returnType = none → meth.name = "<init>" → zX p l s m [Value.ref a].toArray meth c bytes maxL y.cls D cy wa (zA1 a sz) → zN s →
      zUW p l e rm s m [Value.ref a].toArray below meth c D (zA1 a sz) 0 0 (MQ below (zQu P a ci D sz) [Value.ref a].toArray s mc ms (zA1 a sz)) [(a, .inr (ci, fs))] (0, some (.ref a) :: List.replicate (maxL - 1) none, [])) :
    Met l y (.code y bytes maxL none :: zB) rm (zPu a ci fs D cy wa sz) (zQu P a ci D sz) mc ms (zA1 a sz) := by
  refine Met.ofW (cc := bytes) (maxL := maxL) (ret := none) hy rfl ?_
  intro p e s m args below meth c s₁ B hml hv
  obtain ⟨rfl, hsz, hP, hK, hE, hM, hN⟩ := hv
  have hts := atoms_spec (ws := .code y bytes maxL none :: zB) B.pre
  have hX : zX p l s m [Value.ref a].toArray meth c bytes maxL y.cls D cy wa (zA1 a sz) := ⟨B.exec, B.bytes, hml, findClass_of_methodNamed B.named, fun w hw => hts w (List.mem_cons_of_mem _ hw), B.notSynchronized, hK, fun q h => Or.inr (by rw [← hsz]; exact h), hE, hM, hls⟩
  rw [lg_entry_eq]
  refine body p e s m below meth c hsz B.returns ((name_of_methodNamed B.named B.method).1.trans hy2) hX hN s.heap [] hP ?_ va_S.rf _ (zl_entry [Value.ref a] (fun v h => by rcases List.mem_singleton.mp h with rfl; rfl) hn)
  rw [zd_iff]
  exact ⟨by simp, fun q h => by rcases List.mem_singleton.mp h with rfl; exact Or.inl rfl⟩
section ZUC
variable {p : Program} {l : Launch} {e : Env} {R : Room} {s : State} {m : MethodId} {args : Array Value} {below : List Frame} {meth : Method} {c : Code} {D : va_G} {cy : Nat → ClassId} {wa : Nat → Nat} {A : Nat → Prop} {cells slots : Nat} {Q : State → Prop} {ws : va_W}
variable {cc : ByteArray} {nL : Nat} {own : String} {pc index : Nat} {L : List (Option Value)} {rest st : List Value} {y : MethodName} {bytes : ByteArray} {maxL mc ms : Nat} {rm : Room}
theorem zu_vret (X : zX p l s m args meth c cc nL own D cy wa A) (hr : meth.sig.returnType = none) (hdg : decode cc pc = .ok (.return_, 1)) {P : List Value → va_W → Prop} {a ci sz : Nat} (hA0 : A = zA1 a sz) {fs1 : List Value} {nw : va_W} (hws : ws = (a, .inr (ci, fs1)) :: nw) (hP0 : (∀ q ∈ nw, sz ≤ q.1) → P fs1 nw) :
    zUW p l e R s m args below meth c D A cells slots (MQ below (zQu P a ci D sz) args s cells slots A) ws (pc, L, []) := by
  subst hA0; subst hws
  obtain ⟨hx, hb, hml, hown, hts, hlk, hK, hA, hE, hM, hls⟩ := X
  intro H locs hP hD hS ls hl'
  refine W.vret hx hb hr (fun t ht hW => ⟨⟨(), rfl, trivial, fs1, nw, hP0 (fun q hq => ?_), by rw [ht]; exact hP, hD⟩, hS.F ht⟩) hS.2.2 hdg hlk
  have h := zd_iff.mp hD
  rcases h.2 q (List.mem_cons_of_mem _ hq) with h1 | h1
  · have := (List.nodup_cons.mp h.1).1
    exact absurd (List.mem_map.mpr ⟨q, hq, h1⟩) this
  · exact h1
theorem zu_callK (X : zX p l s m args meth c cc nL own D cy wa A) (q0 : Nat) {a ci : Nat} {fs : List Value} (he : ws[q0]? = some (a, .inr (ci, fs))) {P : List Value → va_W → Prop} (hN : zN s) {st0 : List Value}
    (hr : ∀ (H : Heap) (locs : List Loc) (ls : Array Slot), va_S A s.heap H locs → zl ls L → PreS s H (zPu a ci fs D cy wa H.size) [Value.ref a] → va_Run p l e R s m args below meth c H locs cells slots mc ms (F0 m pc ls st0) rest (zQu P a ci D H.size [Value.ref a].toArray) (zA1 a H.size))
    (kk : ∀ (fs1 : List Value) (nw : va_W), P fs1 nw → zUW p l e R s m args below meth c D A (cells + mc) (slots + ms) Q (nw ++ ws.set q0 (a, .inr (ci, fs1))) (pc + 3, L, rest)) : zUW p l e R s m args below meth c D A cells slots Q ws (pc, L, st0) := by
  have hX := X
  obtain ⟨hx, hb, hml, hown, hts, hlk, hK, hA, hE, hM, hls⟩ := X
  intro H locs hP hD hS ls hl
  have hAa : A a := hD.2 q0 _ he
  have hz : ∀ q, zA1 a H.size q → A q := fun q h => by
    rcases h with rfl | h
    · exact hAa
    · exact hA q (Nat.le_trans hS.1 h)
  have hlt : ∀ q ∈ ws, q.1 < H.size := fun q hq => by
    obtain ⟨k, hk⟩ := List.getElem?_of_mem hq
    exact (hP k q hk).lt
  have hpre : PreS s H (zPu a ci fs D cy wa H.size) [Value.ref a] := ⟨zPu_blind, fun U hU hW => ⟨rfl, by rw [hU], by
    rw [hU]
    exact zd_mem hP (fun q hq => by rcases List.mem_singleton.mp hq with rfl; exact List.mem_of_getElem? he), va_K.moved hW.alike hK, by
    rw [hU]
    exact ((zE.moved hW.alike hE).kept hS.2.1).narrow hz, zM.warm hW hM, zN.warm hW hN⟩⟩
  refine va_callv (hr H locs ls hS hl hpre) hS (fun q _ h => hz q h) hz (fun u t H1 locs1 ht hvm hp hB hz1 hk1 hS1 => ?_)
  rw [ht] at hB
  obtain ⟨fs1, nw, hPP, hP1, hD1⟩ := hB
  have hd1 := zd_iff.mp hD1
  have hd := zd_iff.mp hD
  have hnw : ∀ q ∈ nw, H.size ≤ q.1 := fun q hq => by
    rcases hd1.2 q (List.mem_cons_of_mem _ hq) with h1 | h1
    · exact absurd (List.mem_map.mpr ⟨q, hq, h1⟩) (List.nodup_cons.mp hd1.1).1
    · exact h1
  have hmap : (ws.set q0 (a, .inr (ci, fs1))).map Prod.fst = ws.map Prod.fst := by
    rw [List.map_set]
    apply List.ext_getElem?
    intro i
    by_cases hi : i = q0
    · subst hi
      have hlen : i < (ws.map Prod.fst).length := by rw [List.length_map]; exact (List.getElem?_eq_some_iff.mp he).1
      rw [List.getElem?_set_self hlen, List.getElem?_map, he]
      rfl
    · rw [List.getElem?_set_ne (Ne.symm hi)]
  refine kk fs1 nw hPP H1 locs1 ?_ ?_ hS1 ls hl
  · intro k q hk
    rcases List.mem_append.mp (List.mem_of_getElem? hk) with hq | hq
    · obtain ⟨k', hk'⟩ := List.getElem?_of_mem (List.mem_cons_of_mem (a, .inr (ci, fs1)) hq)
      exact hP1 k' q hk'
    · obtain ⟨i, hi⟩ := List.getElem?_of_mem hq
      by_cases e : i = q0
      · subst e
        rw [List.getElem?_set_self (List.getElem?_eq_some_iff.mp he).1] at hi
        cases hi
        exact hP1 0 _ rfl
      · rw [List.getElem?_set_ne (Ne.symm e)] at hi
        have hq1 : q.1 ≠ a := fun h => e (hD.1 i q0 q _ hi he h)
        refine (hP i q hi).kept (hk1 q.1 ((hP i q hi).lt) (fun h => ?_))
        rcases h with h | h
        · exact hq1 h
        · exact Nat.lt_irrefl _ (Nat.lt_of_lt_of_le ((hP i q hi).lt) h)
  · rw [zd_iff, List.map_append, hmap]
    refine ⟨List.nodup_append.mpr ⟨(List.nodup_cons.mp hd1.1).2, hd.1, fun x hx z hz2 h => ?_⟩, fun q hq => ?_⟩
    · subst h
      obtain ⟨q1, hq1, rfl⟩ := List.mem_map.mp hx
      obtain ⟨q2, hq2, h2⟩ := List.mem_map.mp hz2
      have := hnw q1 hq1
      have := hlt q2 hq2
      omega
    · rcases List.mem_append.mp hq with hq | hq
      · exact hA _ (Nat.le_trans hS.1 (hnw q hq))
      · have : q.1 ∈ ws.map Prod.fst := by rw [← hmap]; exact List.mem_map.mpr ⟨q, hq, rfl⟩
        obtain ⟨q2, hq2, h2⟩ := List.mem_map.mp this
        rw [← h2]
        exact hd.2 q2 hq2
/-- a constructor by its link; a nest mate's private one -/
theorem zu_callI (X : zX p l s m args meth c cc nL own D cy wa A) (hN : zN s) (q0 : Nat) {a ci : Nat} {fs : List Value} (he : ws[q0]? = some (a, .inr (ci, fs))) {P : List Value → va_W → Prop}
    (h5 : Cond.methodLink own index y ∈ zB ∧ Cond.instanceMethod y ∈ zB ∧ Cond.initialized y.cls ∈ zB ∧ Cond.code y bytes maxL none ∈ zB ∧ y.name = "<init>" ∧ y.cls ≠ "java/lang/invoke/MethodHandle" ∧ y.cls ≠ "java/lang/invoke/VarHandle" ∧ (parseMethodDescriptor y.desc).map (fun d => d.parameters.length) = some 0)
    (hM : ∀ sz, Met l y (.code y bytes maxL none :: zB) rm (zPu a ci fs D cy wa sz) (zQu P a ci D sz) mc ms (zA1 a sz)) (hrc : rm.cells = mc ∧ rm.slots = ms) (hnL : L.length = nL) (hrm : (rest.map fun v => v.category).sum ≤ 8) (hR : rm.frames + 1 ≤ R.frames ∧ 8 + (maxL + 11) + rm.locals ≤ R.locals) (hf : cells + mc ≤ R.cells ∧ slots + ms ≤ R.slots) (hdg : decode cc pc = .ok (.invokespecial index, 3))
    (kk : ∀ (fs1 : List Value) (nw : va_W), P fs1 nw → zUW p l e R s m args below meth c D A (cells + mc) (slots + ms) Q (nw ++ ws.set q0 (a, .inr (ci, fs1))) (pc + 3, L, rest)) : zUW p l e R s m args below meth c D A cells slots Q ws (pc, L, .ref a :: rest) := by
  obtain ⟨w1, w2, w4, w5, w6, w7, w8, w9⟩ := h5
  exact zu_callK X q0 he hN (fun H locs ls hS hl hpre => va_runI (As := []) (rest := rest) ⟨X.1, X.2.1, X.2.2.1, X.2.2.2.1, X.2.2.2.2.1⟩ (hM H.size) (cwI 0 X.2.2.2.2.1 (z_goodIn w5) rfl hrc.1 hrc.2 (X.2.2.2.2.1 _ w4) (X.2.2.2.2.1 _ w1) (X.2.2.2.2.1 _ w2) w6 ⟨w7, w8, w9⟩ hR) hpre rfl rfl (hl.1.trans hnL) rfl (lv_room hrm) hdg hf) kk
theorem zu_callN (X : zX p l s m args meth c cc nL own D cy wa A) (hN : zN s) {host : String} (hNw : va_Nw (.methodLinkNest own index y host) s) (q0 : Nat) {a ci : Nat} {fs : List Value} (he : ws[q0]? = some (a, .inr (ci, fs))) {P : List Value → va_W → Prop}
    (h5 : Cond.instanceMethod y ∈ zB ∧ Cond.initialized y.cls ∈ zB ∧ Cond.code y bytes maxL none ∈ zB ∧ y.name = "<init>" ∧ y.cls ≠ "java/lang/invoke/MethodHandle" ∧ y.cls ≠ "java/lang/invoke/VarHandle" ∧ (parseMethodDescriptor y.desc).map (fun d => d.parameters.length) = some 0)
    (hM : ∀ sz, Met l y (.code y bytes maxL none :: zB) rm (zPu a ci fs D cy wa sz) (zQu P a ci D sz) mc ms (zA1 a sz)) (hrc : rm.cells = mc ∧ rm.slots = ms) (hnL : L.length = nL) (hrm : (rest.map fun v => v.category).sum ≤ 8) (hR : rm.frames + 1 ≤ R.frames ∧ 8 + (maxL + 11) + rm.locals ≤ R.locals) (hf : cells + mc ≤ R.cells ∧ slots + ms ≤ R.slots) (hdg : decode cc pc = .ok (.invokespecial index, 3))
    (kk : ∀ (fs1 : List Value) (nw : va_W), P fs1 nw → zUW p l e R s m args below meth c D A (cells + mc) (slots + ms) Q (nw ++ ws.set q0 (a, .inr (ci, fs1))) (pc + 3, L, rest)) : zUW p l e R s m args below meth c D A cells slots Q ws (pc, L, .ref a :: rest) := by
  obtain ⟨w2, w4, w5, w6, w7, w8, w9⟩ := h5
  exact zu_callK X q0 he hN (fun H locs ls hS hl hpre => va_runIN (As := []) (rest := rest) ⟨X.1, X.2.1, X.2.2.1, X.2.2.2.1, X.2.2.2.2.1⟩ (hM H.size) ⟨va_cnB 0 X.2.2.2.2.1 (z_goodIn w5) rfl hrc.1 hrc.2 hNw (X.2.2.2.2.1 _ w4) ⟨w7, w8, w9⟩ hR, w6, X.2.2.2.2.1 _ w2⟩ hpre rfl rfl (hl.1.trans hnL) rfl (lv_room hrm) hdg hf) kk
end ZUC
