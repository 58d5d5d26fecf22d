/-! The world of p42: all cells at the places 0 .. n-1, each at an address of its own; their ints are ONE function of place and slot. -/
abbrev zS : Type := Nat → Nat → Int32
def zu (σ : zS) (i k : Nat) (x : Int32) : zS := fun a b => if a = i ∧ b = k then x else σ a b
theorem zu_s {σ : zS} {i k : Nat} {x : Int32} : zu σ i k x i k = x := by simp [zu]
theorem zu_n {σ : zS} {i k a b : Nat} {x : Int32} (h : ¬ (a = i ∧ b = k)) : zu σ i k x a b = σ a b := if_neg h
theorem zu_row {σ : zS} {i k : Nat} {x : Int32} : zu σ i k x i = upd (σ i) k x := by
  funext b
  simp [zu, upd]
theorem zu_off {σ : zS} {i k a : Nat} {x : Int32} (h : a ≠ i) : zu σ i k x a = σ a := by
  funext b
  simp [zu, h]
def zw (n : Nat) (ad : Nat → Nat) (f : Nat → va_E) : va_W := (List.range n).map (fun i => (ad i, f i))
theorem zw_get {n k : Nat} {ad : Nat → Nat} {f : Nat → va_E} (h : k < n) : (zw n ad f)[k]? = some (ad k, f k) := by simp [zw, h]
theorem zw_at {n k : Nat} {ad : Nat → Nat} {f : Nat → va_E} {q : Nat × va_E} (h : (zw n ad f)[k]? = some q) : k < n ∧ q = (ad k, f k) := by
  by_cases hk : k < n
  · rw [zw_get hk] at h
    exact ⟨hk, (Option.some.inj h).symm⟩
  · have : (zw n ad f)[k]? = none := by simp [zw]; omega
    rw [this] at h
    cases h
theorem zw_set {n k : Nat} {ad : Nat → Nat} {f : Nat → va_E} {e : va_E} (h : k < n) : (zw n ad f).set k (ad k, e) = zw n ad (va_up f k e) := by
  apply List.ext_getElem?
  intro j
  by_cases hj : j = k
  · subst hj
    rw [List.getElem?_set_self (by simp [zw, h]), zw_get h, va_up_self]
  · rw [List.getElem?_set_ne (Ne.symm hj)]
    by_cases hn : j < n
    · rw [zw_get hn, zw_get hn, va_up_ne _ _ hj]
    · simp [zw, hn]
/-- the places differ in their addresses, all of a kind -/
def zD (n : Nat) (ad : Nat → Nat) : Prop := ∀ i j : Nat, i < n → j < n → ad i = ad j → i = j
theorem zw_D {A : Nat → Prop} {n : Nat} {ad : Nat → Nat} {f : Nat → va_E} (h : zD n ad) (hA : ∀ i, i < n → A (ad i)) : va_D A (zw n ad f) := by
  refine ⟨fun i j x y hi hj hxy => ?_, fun k q hk => ?_⟩
  · obtain ⟨h1, rfl⟩ := zw_at hi
    obtain ⟨h2, rfl⟩ := zw_at hj
    exact h i j h1 h2 hxy
  · obtain ⟨h1, rfl⟩ := zw_at hk
    exact hA k h1
/-- what a method may change: the world's cells, and what it makes -/
def zA (n : Nat) (ad : Nat → Nat) (sz : Nat) : Nat → Prop := fun q => (∃ i, i < n ∧ q = ad i) ∨ sz ≤ q
/-- the cell at a place: cy the array classes ([I [Z [C [LGuild; [[Z [[I), N the guilds of the law, r the place's ints -/
def zc (cy : Nat → ClassId) (N : Nat) (ad : Nat → Nat) (i : Nat) (r : Nat → Int32) : va_E :=
  if i = 0 then .inr (9, [.ref (ad 1), .ref (ad 2), .ref (ad 3), .ref (ad 4), .ref (ad 7), .ref (ad 6), .ref (ad 101), .ref (ad 102), .ref (ad 103), .ref (ad 104), .int (r 10), .int (r 11), .int (r 12), .int (r 13), .int (r 14), .int (r 15)])
  else if i = 1 then .inl (cy 3, 8, .inr (.inr (.inr (.inr (fun j => some (ad (8 + j)))))))
  else if i = 2 then .inl (cy 0, 8, .inl r)
  else if i = 3 then .inr (2, [.ref (ad 105), .ref (ad 106), .int (r 2)])
  else if i = 4 then .inr (4, [.ref (ad 5), .int (r 1)])
  else if i = 5 then .inl (cy 2, 10, .inl r)
  else if i = 6 then .inl (cy 0, 10, .inl r)
  else if i = 7 then .inl (cy 1, 5, .inl r)
  else if i < 16 then .inr (3, [.int (r 0), .int (r 1), .int (r 2), .int (r 3), .int (r 4), .int (r 5), .ref (ad (i + 8))])
  else if i < 24 then .inr (6, [.int (r 0), .int (r 1), .int (r 2), .int (r 3), .int (r 4), .ref (ad (i + 8)), .ref (ad (i + 16))])
  else if i < 32 then .inl (cy 0, 8, .inl r)
  else if i < 40 then .inl (cy 1, 15, .inl r)
  else if i < 46 then .inl (cy 0, N, .inl r)
  else if i = 46 then .inl (cy 2, N, .inl r)
  else if i = 47 then .inl (cy 1, N, .inl r)
  else if i = 48 then .inl (cy 4, N, .inr (.inr (.inr (.inr (fun k => some (ad (51 + 2 * k)))))))
  else if i = 49 then .inl (cy 5, N, .inr (.inr (.inr (.inr (fun k => some (ad (52 + 2 * k)))))))
  else if i = 50 then .inl (cy 0, N, .inl r)
  else if (i - 51) % 2 = 0 then .inl (cy 1, 15, .inl r)
  else .inl (cy 0, 8, .inl r)
section ZC
variable {cy : Nat → ClassId} {N : Nat} {ad : Nat → Nat} {r : Nat → Int32}
theorem zc_0 : zc cy N ad 0 r = .inr (9, [.ref (ad 1), .ref (ad 2), .ref (ad 3), .ref (ad 4), .ref (ad 7), .ref (ad 6), .ref (ad 101), .ref (ad 102), .ref (ad 103), .ref (ad 104), .int (r 10), .int (r 11), .int (r 12), .int (r 13), .int (r 14), .int (r 15)]) := rfl
theorem zc_1 : zc cy N ad 1 r = .inl (cy 3, 8, .inr (.inr (.inr (.inr (fun j => some (ad (8 + j))))))) := rfl
theorem zc_2 : zc cy N ad 2 r = .inl (cy 0, 8, .inl r) := rfl
theorem zc_3 : zc cy N ad 3 r = .inr (2, [.ref (ad 105), .ref (ad 106), .int (r 2)]) := rfl
theorem zc_4 : zc cy N ad 4 r = .inr (4, [.ref (ad 5), .int (r 1)]) := rfl
theorem zc_5 : zc cy N ad 5 r = .inl (cy 2, 10, .inl r) := rfl
theorem zc_6 : zc cy N ad 6 r = .inl (cy 0, 10, .inl r) := rfl
theorem zc_7 : zc cy N ad 7 r = .inl (cy 1, 5, .inl r) := rfl
theorem zc_G {g : Nat} (h : g < 8) : zc cy N ad (8 + g) r = .inr (3, [.int (r 0), .int (r 1), .int (r 2), .int (r 3), .int (r 4), .int (r 5), .ref (ad (16 + g))]) := by
  unfold zc
  rw [if_neg (by omega), if_neg (by omega), if_neg (by omega), if_neg (by omega), if_neg (by omega), if_neg (by omega), if_neg (by omega), if_neg (by omega), if_pos (by omega), show 8 + g + 8 = 16 + g by omega]
theorem zc_P {g : Nat} (h : g < 8) : zc cy N ad (16 + g) r = .inr (6, [.int (r 0), .int (r 1), .int (r 2), .int (r 3), .int (r 4), .ref (ad (24 + g)), .ref (ad (32 + g))]) := by
  unfold zc
  rw [if_neg (by omega), if_neg (by omega), if_neg (by omega), if_neg (by omega), if_neg (by omega), if_neg (by omega), if_neg (by omega), if_neg (by omega), if_neg (by omega), if_pos (by omega), show 16 + g + 8 = 24 + g by omega, show 16 + g + 16 = 32 + g by omega]
theorem zc_R {g : Nat} (h : g < 8) : zc cy N ad (24 + g) r = .inl (cy 0, 8, .inl r) := by
  unfold zc
  rw [if_neg (by omega), if_neg (by omega), if_neg (by omega), if_neg (by omega), if_neg (by omega), if_neg (by omega), if_neg (by omega), if_neg (by omega), if_neg (by omega), if_neg (by omega), if_pos (by omega)]
theorem zc_L {g : Nat} (h : g < 8) : zc cy N ad (32 + g) r = .inl (cy 1, 15, .inl r) := by
  unfold zc
  rw [if_neg (by omega), if_neg (by omega), if_neg (by omega), if_neg (by omega), if_neg (by omega), if_neg (by omega), if_neg (by omega), if_neg (by omega), if_neg (by omega), if_neg (by omega), if_neg (by omega), if_pos (by omega)]
theorem zc_40 : zc cy N ad 40 r = .inl (cy 0, N, .inl r) := rfl
theorem zc_41 : zc cy N ad 41 r = .inl (cy 0, N, .inl r) := rfl
theorem zc_42 : zc cy N ad 42 r = .inl (cy 0, N, .inl r) := rfl
theorem zc_43 : zc cy N ad 43 r = .inl (cy 0, N, .inl r) := rfl
theorem zc_44 : zc cy N ad 44 r = .inl (cy 0, N, .inl r) := rfl
theorem zc_45 : zc cy N ad 45 r = .inl (cy 0, N, .inl r) := rfl
theorem zc_46 : zc cy N ad 46 r = .inl (cy 2, N, .inl r) := rfl
theorem zc_47 : zc cy N ad 47 r = .inl (cy 1, N, .inl r) := rfl
theorem zc_48 : zc cy N ad 48 r = .inl (cy 4, N, .inr (.inr (.inr (.inr (fun k => some (ad (51 + 2 * k))))))) := rfl
theorem zc_49 : zc cy N ad 49 r = .inl (cy 5, N, .inr (.inr (.inr (.inr (fun k => some (ad (52 + 2 * k))))))) := rfl
theorem zc_50 : zc cy N ad 50 r = .inl (cy 0, N, .inl r) := rfl
theorem zc_lost {k : Nat} : zc cy N ad (51 + 2 * k) r = .inl (cy 1, 15, .inl r) := by
  unfold zc
  rw [if_neg (by omega), if_neg (by omega), if_neg (by omega), if_neg (by omega), if_neg (by omega), if_neg (by omega), if_neg (by omega), if_neg (by omega), if_neg (by omega), if_neg (by omega), if_neg (by omega), if_neg (by omega), if_neg (by omega), if_neg (by omega), if_neg (by omega), if_neg (by omega), if_neg (by omega), if_neg (by omega), if_pos (by omega)]
theorem zc_plr {k : Nat} : zc cy N ad (52 + 2 * k) r = .inl (cy 0, 8, .inl r) := by
  unfold zc
  rw [if_neg (by omega), if_neg (by omega), if_neg (by omega), if_neg (by omega), if_neg (by omega), if_neg (by omega), if_neg (by omega), if_neg (by omega), if_neg (by omega), if_neg (by omega), if_neg (by omega), if_neg (by omega), if_neg (by omega), if_neg (by omega), if_neg (by omega), if_neg (by omega), if_neg (by omega), if_neg (by omega), if_neg (by omega)]
end ZC
def zf (cy : Nat → ClassId) (N : Nat) (ad : Nat → Nat) (σ : zS) : Nat → va_E := fun i => zc cy N ad i (σ i)
theorem zf_put {cy : Nat → ClassId} {N : Nat} {ad : Nat → Nat} {σ : zS} {i k : Nat} {x : Int32} {e : va_E} (he : zc cy N ad i (upd (σ i) k x) = e) : va_up (zf cy N ad σ) i e = zf cy N ad (zu σ i k x) := by
  subst he
  funext j
  by_cases hj : j = i
  · subst hj
    rw [va_up_self]
    unfold zf
    rw [zu_row]
  · rw [va_up_ne _ _ hj]
    unfold zf
    rw [zu_off hj]
/-- the array classes, by name -/
abbrev zt (cy : Nat → ClassId) : List (ClassId × FieldType) := [(cy 0, .int), (cy 1, .boolean), (cy 2, .char), (cy 3, .object "Wagonplay$Guild"), (cy 4, .array .boolean), (cy 5, .array .int)]
/-- one String that nobody writes -/
def zG (len : Nat) (byt : List Int32) (a v : Nat) (A : Nat → Prop) (U : State) (H : Heap) : Prop :=
  va_O "java/lang/String" a A U H ∧ va_OF "java/lang/String" "coder" "B" (.int 0) a A U H ∧ va_OF "java/lang/String" "value" "[B" (.ref v) a A U H ∧ va_T .byte v len (fun j => .int (byt.getD j 0)) A U H
theorem zG.moved {len : Nat} {byt : List Int32} {a v : Nat} {A : Nat → Prop} {u U : State} {H : Heap} (hvm : u.vm.Alike U.vm) (h : zG len byt a v A u H) : zG len byt a v A U H := by
  obtain ⟨h1, h2, h3, h4⟩ := h
  exact ⟨va_O.moved hvm h1, va_OF.moved hvm h2, va_OF.moved hvm h3, va_T.moved hvm h4⟩
theorem zG.kept {len : Nat} {byt : List Int32} {a v : Nat} {A : Nat → Prop} {U : State} {H H1 : Heap} (h : zG len byt a v A U H) (hq : ∀ a : Nat, a < H.size → ¬ A a → H1[a]? = H[a]?) : zG len byt a v A U H1 := by
  obtain ⟨h1, h2, h3, h4⟩ := h
  exact ⟨h1.kept hq, h2.kept hq, h3.kept hq, h4.kept hq⟩
theorem zG.narrow {len : Nat} {byt : List Int32} {a v : Nat} {A B : Nat → Prop} {U : State} {H : Heap} (h : zG len byt a v A U H) (hAB : ∀ q, B q → A q) : zG len byt a v B U H := by
  obtain ⟨h1, h2, h3, h4⟩ := h
  exact ⟨h1.narrow hAB, h2.narrow hAB, h3.narrow hAB, h4.narrow hAB⟩
/-- what the start gives and nobody writes: statics of the JDK, the five words and 'floods' -/
def zE (wa : Nat → Nat) (A : Nat → Prop) (U : State) (H : Heap) : Prop :=
  vx_Zq Bundle.tN "UNASSIGNED_STACK" Bundle.steD A U H ∧ vx_Zq Bundle.tN "SUPPRESSED_SENTINEL" Bundle.listD A U H ∧ va_Z "java/lang/String" "COMPACT_STRINGS" "Z" (.int 1) A U H ∧ va_Zq "jdk/internal/util/Preconditions" "SIOOBE_FORMATTER" "Ljava/util/function/BiFunction;" A U H ∧
  zG 8 [99, 114, 101, 97, 116, 105, 111, 110] (wa 0) (wa 10) A U H ∧ zG 5 [102, 108, 111, 111, 100] (wa 1) (wa 11) A U H ∧ zG 5 [98, 105, 114, 116, 104] (wa 2) (wa 12) A U H ∧ zG 7 [112, 97, 115, 115, 105, 111, 110] (wa 3) (wa 13) A U H ∧ zG 4 [100, 111, 111, 109] (wa 4) (wa 14) A U H ∧ zG 6 [102, 108, 111, 111, 100, 115] (wa 5) (wa 15) A U H
theorem zE.moved {wa : Nat → Nat} {A : Nat → Prop} {u U : State} {H : Heap} (hvm : u.vm.Alike U.vm) (h : zE wa A u H) : zE wa A U H := by
  obtain ⟨h1, h2, h3, h4, h5, h6, h7, h8, h9, h10⟩ := h
  exact ⟨vx_Zq.moved hvm h1, vx_Zq.moved hvm h2, va_Z.moved hvm h3, va_Zq.moved hvm h4, zG.moved hvm h5, zG.moved hvm h6, zG.moved hvm h7, zG.moved hvm h8, zG.moved hvm h9, zG.moved hvm h10⟩
theorem zE.kept {wa : Nat → Nat} {A : Nat → Prop} {U : State} {H H1 : Heap} (h : zE wa A U H) (hq : ∀ a : Nat, a < H.size → ¬ A a → H1[a]? = H[a]?) : zE wa A U H1 := by
  obtain ⟨h1, h2, h3, h4, h5, h6, h7, h8, h9, h10⟩ := h
  exact ⟨h1.kept hq, h2.kept hq, h3.kept hq, h4.kept hq, h5.kept hq, h6.kept hq, h7.kept hq, h8.kept hq, h9.kept hq, h10.kept hq⟩
theorem zE.narrow {wa : Nat → Nat} {A B : Nat → Prop} {U : State} {H : Heap} (h : zE wa A U H) (hAB : ∀ q, B q → A q) : zE wa B U H := by
  obtain ⟨h1, h2, h3, h4, h5, h6, h7, h8, h9, h10⟩ := h
  exact ⟨h1.narrow hAB, h2.narrow hAB, h3.narrow hAB, h4.narrow hAB, h5.narrow hAB, h6.narrow hAB, h7.narrow hAB, h8.narrow hAB, h9.narrow hAB, h10.narrow hAB⟩
