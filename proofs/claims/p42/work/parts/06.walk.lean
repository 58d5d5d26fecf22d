/-! The walk: locals as a list of places, a block of plain instructions as one row, the world's rows by place. -/
def zp (L : List (Option Value)) : List (Nat × Value) := (List.range L.length).filterMap (fun i => match L[i]? with | some (some v) => some (i, v) | _ => none)
theorem zp_mem {L : List (Option Value)} {i : Nat} {v : Value} (h : L[i]? = some (some v)) : (i, v) ∈ zp L := by
  have hi : i < L.length := (List.getElem?_eq_some_iff.mp h).1
  unfold zp
  rw [List.mem_filterMap]
  exact ⟨i, List.mem_range.mpr hi, by rw [h]⟩
theorem zp_of {L : List (Option Value)} {q : Nat × Value} (h : q ∈ zp L) : L[q.1]? = some (some q.2) := by
  unfold zp at h
  rw [List.mem_filterMap] at h
  obtain ⟨i, -, h⟩ := h
  cases hi : L[i]? with
  | none => rw [hi] at h; cases h
  | some o =>
    cases o with
    | none => rw [hi] at h; cases h
    | some v =>
      rw [hi] at h
      cases h
      exact hi
def zl (ls : Array Slot) (L : List (Option Value)) : Prop := ls.size = L.length ∧ lv_wf ls ∧ ∀ (i : Nat) (v : Value), L[i]? = some (some v) → v.category = 1 ∧ ls[i]? = some (.val v)
theorem zl.has {ls : Array Slot} {L : List (Option Value)} (h : zl ls L) : lv_has ls L.length (zp L) := ⟨h.1, h.2.1, fun q hq => (h.2.2 q.1 q.2 (zp_of hq)).2⟩
theorem zl.at {ls : Array Slot} {L : List (Option Value)} (h : zl ls L) {i : Nat} {v : Value} (hi : L[i]? = some (some v)) : ls[i]? = some (.val v) := (h.2.2 i v hi).2
theorem zl.set {ls ls' : Array Slot} {L : List (Option Value)} {i : Nat} {v : Value} (h : zl ls L) (hi : i < L.length) (hc : v.category = 1) (h' : lv_has ls' L.length ((i, v) :: (zp L).filter (fun q => !(q.1 == i) && !(q.1 + 1 == i && q.2.category == 2)))) : zl ls' (L.set i (some v)) := by
  refine ⟨by rw [List.length_set]; exact h'.1, h'.2.1, fun j w hj => ?_⟩
  by_cases e : j = i
  · subst e
    rw [List.getElem?_set_self hi] at hj
    cases hj
    exact ⟨hc, h'.2.2 (j, v) List.mem_cons_self⟩
  · rw [List.getElem?_set_ne (Ne.symm e)] at hj
    obtain ⟨c1, -⟩ := h.2.2 j w hj
    refine ⟨c1, h'.2.2 (j, w) (List.mem_cons_of_mem _ (List.mem_filter.mpr ⟨zp_mem hj, ?_⟩))⟩
    simp [e, c1]
theorem zl_entry (vs : List Value) {n : Nat} (hc : ∀ v ∈ vs, v.category = 1) (h : vs.length ≤ n) : zl ((lg_sl vs ++ List.replicate (n - (lg_sl vs).length) Slot.unset).toArray) (vs.map some ++ List.replicate (n - vs.length) none) := by
  have e : ∀ (k : Nat) (us : List Value), (∀ v ∈ us, v.category = 1) → (lg_sl us).length = us.length ∧ ∀ (i : Nat) (v : Value), us[i]? = some v → (k + i, v) ∈ lv_args k us := by
    intro k us
    induction us generalizing k with
    | nil => exact fun _ => ⟨rfl, fun i v h => by simp at h⟩
    | cons u us ih =>
      intro hu
      have h1 : u.category = 1 := hu u List.mem_cons_self
      obtain ⟨l1, l2⟩ := ih (k + 1) (fun v hv => hu v (List.mem_cons_of_mem _ hv))
      have h2 : ¬ u.category = 2 := by omega
      have e9 : lg_sl (u :: us) = Slot.val u :: lg_sl us := by simp [lg_sl, h2]
      refine ⟨by rw [e9, List.length_cons, List.length_cons, l1], fun i v hv => ?_⟩
      simp only [lv_args, h2, if_false]
      cases i with
      | zero =>
        simp at hv
        subst hv
        exact List.mem_cons_self
      | succ i =>
        simp at hv
        have := l2 i v hv
        rw [show k + 1 + i = k + (i + 1) by omega] at this
        exact List.mem_cons_of_mem _ this
  obtain ⟨e1, e2⟩ := e 0 vs hc
  have hh := lv_entry vs (n := n) (by rw [e1]; exact h)
  refine ⟨by rw [hh.1]; simp; omega, hh.2.1, fun i v hv => ?_⟩
  by_cases hi : i < vs.length
  · rw [List.getElem?_append_left (by simpa using hi)] at hv
    simp only [List.getElem?_map] at hv
    cases hw : vs[i]? with
    | none => rw [hw] at hv; cases hv
    | some w =>
      rw [hw] at hv
      cases hv
      have := e2 i v hw
      rw [Nat.zero_add] at this
      exact ⟨hc v (List.mem_of_getElem? hw), hh.2.2 (i, v) this⟩
  · rw [List.getElem?_append_right (by simpa using hi)] at hv
    rw [List.getElem?_replicate] at hv
    split at hv <;> cases hv
/-- one plain instruction: place, locals, stack -/
abbrev zT : Type := Nat × List (Option Value) × List Value
def zstep : Instr → Nat → zT → Option zT
  | .iconst n, 1, (pc, L, st) => some (pc + 1, L, .int (Int32.ofInt n) :: st)
  | .bipush n, 2, (pc, L, st) => some (pc + 2, L, .int (Int8.ofInt n).toInt32 :: st)
  | .sipush n, 3, (pc, L, st) => some (pc + 3, L, .int (Int16.ofInt n).toInt32 :: st)
  | .iload_n k, 1, (pc, L, st) => match L[(k : Nat)]? with | some (some (.int x)) => some (pc + 1, L, .int x :: st) | _ => none
  | .iload k, 2, (pc, L, st) => match L[k]? with | some (some (.int x)) => some (pc + 2, L, .int x :: st) | _ => none
  | .aload_n k, 1, (pc, L, st) => match L[(k : Nat)]? with | some (some (.ref x)) => some (pc + 1, L, .ref x :: st) | _ => none
  | .aload k, 2, (pc, L, st) => match L[k]? with | some (some (.ref x)) => some (pc + 2, L, .ref x :: st) | _ => none
  | .istore_n k, 1, (pc, L, .int x :: st) => if (k : Nat) < L.length then some (pc + 1, L.set k (some (.int x)), st) else none
  | .istore k, 2, (pc, L, .int x :: st) => if k < L.length then some (pc + 2, L.set k (some (.int x)), st) else none
  | .astore_n k, 1, (pc, L, .ref x :: st) => if (k : Nat) < L.length then some (pc + 1, L.set k (some (.ref x)), st) else none
  | .astore k, 2, (pc, L, .ref x :: st) => if k < L.length then some (pc + 2, L.set k (some (.ref x)), st) else none
  | .iinc k n, 3, (pc, L, st) => match L[k]? with | some (some (.int x)) => some (pc + 3, L.set k (some (.int (x + Int32.ofInt n))), st) | _ => none
  | .iadd, 1, (pc, L, .int y :: .int x :: st) => some (pc + 1, L, .int (x + y) :: st)
  | .isub, 1, (pc, L, .int y :: .int x :: st) => some (pc + 1, L, .int (x - y) :: st)
  | .imul, 1, (pc, L, .int y :: .int x :: st) => some (pc + 1, L, .int (x * y) :: st)
  | .iand, 1, (pc, L, .int y :: .int x :: st) => some (pc + 1, L, .int (x &&& y) :: st)
  | .ior, 1, (pc, L, .int y :: .int x :: st) => some (pc + 1, L, .int (x ||| y) :: st)
  | .ixor, 1, (pc, L, .int y :: .int x :: st) => some (pc + 1, L, .int (x ^^^ y) :: st)
  | .pop, 1, (pc, L, .int _ :: st) => some (pc + 1, L, st)
  | .dup, 1, (pc, L, .int x :: st) => some (pc + 1, L, .int x :: .int x :: st)
  | .dup, 1, (pc, L, .ref x :: st) => some (pc + 1, L, .ref x :: .ref x :: st)
  | .dup2, 1, (pc, L, .int y :: .ref x :: st) => some (pc + 1, L, .int y :: .ref x :: .int y :: .ref x :: st)
  | _, _, _ => none
def zgo (cc : ByteArray) : List (Nat × Instr × Nat) → zT → Option zT
  | [], t => some t
  | q :: is, t => if q.1 = t.1 then match zstep q.2.1 q.2.2 t with | some t' => zgo cc is t' | none => none else none
def zds (cc : ByteArray) : List (Nat × Instr × Nat) → Prop
  | [] => True
  | q :: is => decode cc q.1 = .ok (q.2.1, q.2.2) ∧ zds cc is
section ZR
variable {p : Program} {l : Launch} {e : Env} {R : Room} {s : State} {m : MethodId} {args : Array Value} {below : List Frame} {meth : Method} {c : Code} {H : Heap} {locs : List Loc} {cells slots : Nat} {Q : State → Prop}
variable {cc : ByteArray} {pc : Nat} {L : List (Option Value)} {st : List Value}
/-- W for every locals that hold L -/
def zV (p : Program) (l : Launch) (e : Env) (R : Room) (s : State) (m : MethodId) (args : Array Value) (below : List Frame) (meth : Method) (c : Code) (H : Heap) (locs : List Loc) (cells slots : Nat) (Q : State → Prop) (t : zT) : Prop :=
  ∀ ls : Array Slot, zl ls t.2.1 → W p l e R s m args below meth c H locs cells slots Q (F0 m t.1 ls t.2.2)
theorem zV_step (hx : p.tables.exec = Jvm.exec) (hb : c.code = cc) {i : Instr} {len : Nat} {t t' : zT} (hd : decode cc t.1 = .ok (i, len)) (h : zstep i len t = some t') (k : zV p l e R s m args below meth c H locs cells slots Q t') : zV p l e R s m args below meth c H locs cells slots Q t := by
  intro ls hl
  obtain ⟨pc, L, st⟩ := t
  dsimp only at hd hl ⊢
  have k' := k
  unfold zV at k'
  unfold zstep at h
  split at h
  all_goals first
    | (cases h; done)
    | (rename_i heq; cases heq; cases h; exact lv_iconst hx hb hd rfl (k' ls hl))
    | (rename_i heq; cases heq; cases h; exact lv_bipush hx hb hd rfl (k' ls hl))
    | (rename_i heq; cases heq; cases h; exact lv_sipush hx hb hd rfl (k' ls hl))
    | (rename_i heq; cases heq; cases h; exact lv_iadd hx hb hd (k' ls hl))
    | (rename_i heq; cases heq; cases h; exact lv_isub hx hb hd (k' ls hl))
    | (rename_i heq; cases heq; cases h; exact lv_imul hx hb hd (k' ls hl))
    | (rename_i heq; cases heq; cases h; exact lv_iand hx hb hd (k' ls hl))
    | (rename_i heq; cases heq; cases h; exact lv_ior hx hb hd (k' ls hl))
    | (rename_i heq; cases heq; cases h; exact lv_ixor hx hb hd (k' ls hl))
    | (rename_i heq; cases heq; cases h; exact lv_pop hx hb hd rfl (k' ls hl))
    | (rename_i heq; cases heq; cases h; exact lv_dup hx hb hd rfl (k' ls hl))
    | (rename_i heq; cases heq; cases h; exact lv_dup2_11 hx hb hd rfl rfl (k' ls hl))
    | (rename_i heq; cases heq; split at h; (rename_i hL; cases h; exact lv_iload_n hx hb hd rfl (hl.at hL) (k' ls hl)); cases h)
    | (rename_i heq; cases heq; split at h; (rename_i hL; cases h; exact lv_iload hx hb hd (hl.at hL) (k' ls hl)); cases h)
    | (rename_i heq; cases heq; split at h; (rename_i hL; cases h; exact lv_aload_n hx hb hd rfl (hl.at hL) (k' ls hl)); cases h)
    | (rename_i heq; cases heq; split at h; (rename_i hL; cases h; exact lv_aload hx hb hd (hl.at hL) (k' ls hl)); cases h)
    | (rename_i heq; cases heq; split at h; (rename_i hL; cases h; exact lv_istore_n hx hb hd rfl hl.has hL rfl (fun ls' h' => k' ls' (hl.set hL rfl h'))); cases h)
    | (rename_i heq; cases heq; split at h; (rename_i hL; cases h; exact lv_istore hx hb hd hl.has hL rfl (fun ls' h' => k' ls' (hl.set hL rfl h'))); cases h)
    | (rename_i heq; cases heq; split at h; (rename_i hL; cases h; exact lv_astore_n hx hb hd rfl hl.has hL rfl (fun ls' h' => k' ls' (hl.set hL rfl h'))); cases h)
    | (rename_i heq; cases heq; split at h; (rename_i hL; cases h; exact lv_astore hx hb hd hl.has hL rfl (fun ls' h' => k' ls' (hl.set hL rfl h'))); cases h)
    | (rename_i heq; cases heq; split at h; (rename_i hL; cases h; obtain ⟨k9, hk9⟩ := List.getElem?_of_mem (zp_mem hL); exact lv_iinc hx hb hd hl.has hk9 rfl (List.getElem?_eq_some_iff.mp hL).1 rfl (fun ls' h' => k' ls' (hl.set (List.getElem?_eq_some_iff.mp hL).1 rfl h'))); cases h)
    | skip
theorem zV_go (hx : p.tables.exec = Jvm.exec) (hb : c.code = cc) : ∀ (is : List (Nat × Instr × Nat)) (t t' : zT), zds cc is → zgo cc is t = some t' → zV p l e R s m args below meth c H locs cells slots Q t' → zV p l e R s m args below meth c H locs cells slots Q t
  | [], t, t', _, h, k => by
    cases h
    exact k
  | q :: is, t, t', hd, h, k => by
    unfold zgo at h
    by_cases hq : q.1 = t.1
    · rw [if_pos hq] at h
      cases hz : zstep q.2.1 q.2.2 t with
      | none => rw [hz] at h; cases h
      | some t1 =>
        rw [hz] at h
        exact zV_step hx hb (by rw [← hq]; exact hd.1) hz (zV_go hx hb is t1 t' hd.2 h k)
    · rw [if_neg hq] at h
      cases h
end ZR
