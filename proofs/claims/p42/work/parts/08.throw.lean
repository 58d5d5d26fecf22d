/-! Throws: of the method's own, through a method, and caught. -/
abbrev zNames : List String := ["java/lang/RuntimeException", "java/lang/Exception"]
def zNg (E : String) : List Cond := [.declares ⟨"java/lang/RuntimeException", "<init>", "(Ljava/lang/String;)V"⟩, .declares ⟨"java/lang/Exception", "<init>", "(Ljava/lang/String;)V"⟩, .declares ⟨"java/lang/Throwable", "<init>", "(Ljava/lang/String;)V"⟩, .castable E E]
def zTh (ik ic : Nat) (E : String) : Prop := Bundle.fit E = true ∧ E ∈ zCs ∧ Cond.classLink RX7 ik E ∈ zB ∧ Cond.initialized E ∈ zB ∧ (∀ w ∈ (vx_atS RX7 ic E zNames).filter goodWord, w ∈ zB) ∧ (∀ w ∈ (vx_atS RX7 ic E zNames).filter (fun w => !goodWord w), w ∈ zNg E) ∧ ∀ w ∈ Cond.classLink RX7 ik E :: Cond.initialized E :: vx_atS RX7 ic E zNames, vx_ot w = true
theorem zTh_ise : zTh 65 69 "java/lang/IllegalStateException" := ⟨by decide +kernel, by decide +kernel, zm_108, zm_109, zi_t69, by decide +kernel, by decide +kernel⟩
theorem zTh_iae : zTh 92 96 "java/lang/IllegalArgumentException" := ⟨by decide +kernel, by decide +kernel, zm_117, zm_118, zi_t96, by decide +kernel, by decide +kernel⟩
theorem zTh_ioobe : zTh 158 162 "java/lang/IndexOutOfBoundsException" := ⟨by decide +kernel, by decide +kernel, zm_139, zm_140, zi_t162, by decide +kernel, by decide +kernel⟩
theorem zTh_uoe : zTh 172 176 "java/lang/UnsupportedOperationException" := ⟨by decide +kernel, by decide +kernel, zm_153, zm_154, zi_t176, by decide +kernel, by decide +kernel⟩
def zNo : Array Value → State → Outcome → State → Prop := fun _ _ _ _ => False
section ZT
variable {p : Program} {l : Launch} {e : Env} {R : Room} {s : State} {m : MethodId} {args : Array Value} {below : List Frame} {meth : Method} {c : Code} {D : va_G} {cy : Nat → ClassId} {wa : Nat → Nat} {N : Nat} {A : Nat → Prop} {n : Nat} {ad : Nat → Nat} {cells slots : Nat} {Q : State → Prop} {σ : zS}
variable {cc : ByteArray} {nL : Nat} {pc : Nat} {L : List (Option Value)} {st : List Value}
theorem zTh_at {ik ic : Nat} {E : String} (h : zTh ik ic E) (hts : ∀ w ∈ zB, w.before args s = true) (hM : zM wa s) : ∀ w ∈ vx_atS RX7 ic E zNames, w.before args s = true := by
  obtain ⟨h1, h2, h3, h4, h5, h6, h7⟩ := h
  refine vx_hat (B := zNg E) (fun w hw => hts w (h5 w hw)) h6 ?_
  have hd := hM.2.2.2.2
  exact vx_c (va_Nw.use rfl (hd _ (by simp [zDs]))) (vx_c (va_Nw.use rfl (hd _ (by simp [zDs]))) (vx_c (va_Nw.use rfl (hd _ (by simp [zDs]))) (vx_c (va_Nw.use rfl (hM.2.2.2.1 E h2)) vx_n)))
theorem zXC_of {E : String} {sz : Nat} (hA0 : A = zA n ad sz) {H : Heap} {locs : List Loc} (hP : va_P D vwCl (zw n ad (zf cy N ad σ)) H) (hS : va_S A s.heap H locs) : ∀ t : State, s.vm.Alike t.vm → H.size ≤ t.heap.size → (∀ q : Nat, q < H.size → t.heap[q]? = H[q]?) → zXC E D cy N n ad σ sz E s t := by
  intro t _ h1 h2
  subst hA0
  refine ⟨(), trivial, ⟨rfl, hP.kept (fun k q hk => h2 q.1 ((hP k q hk).lt))⟩, Nat.le_trans hS.1 h1, fun q hq hn => ?_⟩
  rw [h2 q (Nat.lt_of_lt_of_le hq hS.1)]
  exact hS.2.1 q hq hn
theorem zw_throw (X : zX p l s m args meth c cc nL RX7 D cy wa A) (hno : ∀ x ∈ c.exceptionTable.toList, False) {ik ic is : Nat} {E text : String} (hT : zTh ik ic E) (hm : ("Wagonplay", is, text) ∈ zMs) (hnL : L.length = nL) {sz : Nat} (hA0 : A = zA n ad sz) {Qc : Array Value → State → Outcome → State → Prop}
    (d0 : decode cc pc = .ok (.new ik, 3)) (d3 : decode cc (pc + 3) = .ok (.dup, 1)) (d4 : decode cc (pc + 4) = .ok (.ldc is, 2)) (d6 : decode cc (pc + 6) = .ok (.invokespecial ic, 3)) (d9 : decode cc (pc + 9) = .ok (.athrow, 1))
    (hR : 5 < R.frames ∧ (st.map fun v => v.category).sum + 82 ≤ R.locals ∧ cells + 1 ≤ R.cells ∧ slots + 6 ≤ R.slots) (hc : cells = 0 ∧ slots = 0) :
    zW p l e R s m args below meth c D cy N A n ad cells slots (vx_MQ below Qc (zXC E D cy N n ad σ sz) args s 1 6 A) (pc, L, st) σ := by
  have hat := zTh_at hT X.2.2.2.2.1 X.2.2.2.2.2.2.2.2.2.1 (args := args)
  obtain ⟨hx, hb, hml, hown, hts, hlk, hK, hA, hE, hM, hls⟩ := X
  obtain ⟨sa, hsa⟩ := hM.1 _ hm
  obtain ⟨rfl, rfl⟩ := hc
  obtain ⟨h1, h2, h3, h4, h5, h6, h7⟩ := hT
  intro H locs hP hS ls hl'
  exact vx_throwS hx hb hls hown h1 (by decide +kernel) (hts _ h3) (hts _ h4) hsa hat h7 hE.1 hE.2.1 hS (by rw [hl'.1, hml]; exact hnL) d0 d3 d4 d6 d9 (fun x hx => (hno x hx).elim) hR.1 hR.2.1 hR.2.2.1 hR.2.2.2 hlk (zXC_of hA0 hP hS) hS.2.2 (Nat.le_refl _) (Nat.le_refl _)
theorem zw_throwW (X : zX p l s m args meth c cc nL RX7 D cy wa A) (hno : ∀ x ∈ c.exceptionTable.toList, False) {ik ic is : Nat} {E text : String} (hT : zTh ik ic E) (hm : ("Wagonplay", is, text) ∈ zMs) (hnL : L.length = nL) {sz : Nat} (hA0 : A = zA n ad sz) {Qc : Array Value → State → Outcome → State → Prop}
    (d0 : decode cc pc = .ok (.new ik, 3)) (d3 : decode cc (pc + 3) = .ok (.dup, 1)) (d4 : decode cc (pc + 4) = .ok (.ldc_w is, 3)) (d7 : decode cc (pc + 7) = .ok (.invokespecial ic, 3)) (d10 : decode cc (pc + 10) = .ok (.athrow, 1))
    (hR : 5 < R.frames ∧ (st.map fun v => v.category).sum + 82 ≤ R.locals ∧ cells + 1 ≤ R.cells ∧ slots + 6 ≤ R.slots) (hc : cells = 0 ∧ slots = 0) :
    zW p l e R s m args below meth c D cy N A n ad cells slots (vx_MQ below Qc (zXC E D cy N n ad σ sz) args s 1 6 A) (pc, L, st) σ := by
  have hat := zTh_at hT X.2.2.2.2.1 X.2.2.2.2.2.2.2.2.2.1 (args := args)
  obtain ⟨hx, hb, hml, hown, hts, hlk, hK, hA, hE, hM, hls⟩ := X
  obtain ⟨sa, hsa⟩ := hM.1 _ hm
  obtain ⟨rfl, rfl⟩ := hc
  obtain ⟨h1, h2, h3, h4, h5, h6, h7⟩ := hT
  intro H locs hP hS ls hl'
  exact vx_throwSW hx hb hls hown h1 (by decide +kernel) (hts _ h3) (hts _ h4) hsa hat h7 hE.1 hE.2.1 hS (by rw [hl'.1, hml]; exact hnL) d0 d3 d4 d7 d10 (fun x hx => (hno x hx).elim) hR.1 hR.2.1 hR.2.2.1 hR.2.2.2 hlk (zXC_of hA0 hP hS) hS.2.2 (Nat.le_refl _) (Nat.le_refl _)
/-- a call that always throws -/
theorem zw_callx {own : String} (X : zX p l s m args meth c cc nL own D cy wa A) (hAd : ∀ i, i < n → A (ad i)) {E : String} {mc ms : Nat} {rest st0 : List Value} (hr : ∀ (H : Heap) (locs : List Loc) (ls : Array Slot), va_P D vwCl (zw n ad (zf cy N ad σ)) H → va_S A s.heap H locs → zl ls L → vx_Run p l e R s m args below meth c H locs cells slots mc ms (F0 m pc ls st0) rest (fun _ _ _ => False) (zXC E D cy N n ad σ H.size) (zA n ad H.size))
    (kx : ∀ (H1 : Heap) (locs1 : List Loc) (ls : Array Slot) (ce : Cell) (q : Addr), va_P D vwCl (zw n ad (zf cy N ad σ)) H1 → va_S A s.heap H1 locs1 → zl ls L → H1[q]? = some ce → ce.vm = .none → s.vm.findClass E = some ce.cls → vx_W p l e R s m args below meth c H1 locs1 (cells + mc) (slots + ms) Q (F0 m pc ls rest) q) :
    zW p l e R s m args below meth c D cy N A n ad cells slots Q (pc, L, st0) σ := by
  intro H locs hP hS ls hl' T hT Xs
  have hz := zA_in X hAd hS
  rcases hr H locs ls hP hS hl' T hT Xs with ⟨v, st₀, t, T', L', h0, X', hL, e1, e2, hq, st⟩ | ⟨q, st₀, t, T', L', E', ce, h0, X', hL, e1, e2, ⟨u, -, ⟨rfl, hB⟩, hF⟩, hce, hcv, hcl, st⟩
  · exact hq.elim
  · obtain ⟨k1, k2, k3⟩ := vx_keep h0 e1 hS (fun q _ h => hz q h) hz hL hF
    obtain ⟨t2, a1, b1⟩ := kx T'.heap (locs ++ L') ls ce q (by rw [e1]; exact hB) k3 hl' (by rw [e1]; exact hce) hcv hcl T' rfl X'
    exact ⟨t2, st.trans a1, b1⟩
/-- .. and goes on to the caller -/
theorem zw_outx {own : String} (X : zX p l s m args meth c cc nL own D cy wa A) (hno : ∀ x ∈ c.exceptionTable.toList, False) (hAd : ∀ i, i < n → A (ad i)) {E : String} {rest st0 : List Value} {sz : Nat} (hA0 : A = zA n ad sz) {Qc : Array Value → State → Outcome → State → Prop} (hr : ∀ (H : Heap) (locs : List Loc) (ls : Array Slot), va_P D vwCl (zw n ad (zf cy N ad σ)) H → va_S A s.heap H locs → zl ls L → vx_Run p l e R s m args below meth c H locs 0 0 1 6 (F0 m pc ls st0) rest (fun _ _ _ => False) (zXC E D cy N n ad σ H.size) (zA n ad H.size)) :
    zW p l e R s m args below meth c D cy N A n ad 0 0 (vx_MQ below Qc (zXC E D cy N n ad σ sz) args s 1 6 A) (pc, L, st0) σ := by
  refine zw_callx X hAd hr (fun H1 locs1 ls ce q hP hS hl hce hcv hcl => ?_)
  refine vx_out (fun x hx => (hno x hx).elim) X.2.2.2.2.2.1 hce hcv hcl (fun t ht hal => ?_) hS.2.2 (Nat.le_refl _) (Nat.le_refl _)
  exact zXC_of hA0 hP hS t hal (by rw [ht]; exact Nat.le_refl _) (fun q _ => by rw [ht])
end ZT
