/-! Rows of the law's arrays of arrays; locals that are forgotten. -/
def zle : List (Option Value) → List (Option Value) → Prop
  | [], [] => True
  | none :: a, _ :: b => zle a b
  | some v :: a, w :: b => w = some v ∧ zle a b
  | _, _ => False
theorem zle_at : ∀ {L' L : List (Option Value)}, zle L' L → L'.length = L.length ∧ ∀ (i : Nat) (v : Value), L'[i]? = some (some v) → L[i]? = some (some v)
  | [], [], _ => ⟨rfl, fun i v h => by simp at h⟩
  | none :: a, w :: b, h => by
    obtain ⟨h1, h2⟩ := zle_at (show zle a b from h)
    refine ⟨by simp [h1], fun i v hi => ?_⟩
    cases i with
    | zero => simp at hi
    | succ i => exact h2 i v hi
  | some x :: a, w :: b, h => by
    obtain ⟨rfl, h3⟩ := (show w = some x ∧ zle a b from h)
    obtain ⟨h1, h2⟩ := zle_at h3
    refine ⟨by simp [h1], fun i v hi => ?_⟩
    cases i with
    | zero => exact hi
    | succ i => exact h2 i v hi
  | [], _ :: _, h => absurd h (by simp [zle])
  | none :: _, [], h => absurd h (by simp [zle])
  | some _ :: _, [], h => absurd h (by simp [zle])
theorem zl.forget {ls : Array Slot} {L' L : List (Option Value)} (h : zl ls L) (hle : zle L' L) : zl ls L' := by
  obtain ⟨h1, h2⟩ := zle_at hle
  exact ⟨h.1.trans h1.symm, h.2.1, fun i v hi => h.2.2 i v (h2 i v hi)⟩
/-- the rows of one place all 0 -/
def zz (σ : zS) (i : Nat) : zS := fun a => if a = i then fun _ => 0 else σ a
theorem zz_s {σ : zS} {i : Nat} : zz σ i i = fun _ => 0 := if_pos rfl
theorem zz_n {σ : zS} {i a : Nat} (h : a ≠ i) : zz σ i a = σ a := if_neg h
theorem zc_ad {cy : Nat → ClassId} {N n k i : Nat} {ad ad' : Nat → Nat} {r : Nat → Int32} (h : ∀ j, j ≠ 51 + 2 * k → ad' j = ad j) (hk : k < 8) (h1 : i ≠ 1) (h2 : i ≠ 48) : zc cy N ad' i r = zc cy N ad i r := by
  by_cases h51 : i < 51
  · by_cases h40 : i < 40
    · by_cases h8 : i < 8
      · rcases (show i = 0 ∨ i = 2 ∨ i = 3 ∨ i = 4 ∨ i = 5 ∨ i = 6 ∨ i = 7 by omega) with rfl | rfl | rfl | rfl | rfl | rfl | rfl
        · rw [zc_0, zc_0, h 1 (by omega), h 2 (by omega), h 3 (by omega), h 4 (by omega), h 7 (by omega), h 6 (by omega), h 101 (by omega), h 102 (by omega), h 103 (by omega), h 104 (by omega)]
        · rfl
        · rw [zc_3, zc_3, h 105 (by omega), h 106 (by omega)]
        · rw [zc_4, zc_4, h 5 (by omega)]
        · rfl
        · rfl
        · rfl
      · by_cases h16 : i < 16
        · obtain ⟨g, rfl⟩ : ∃ g, i = 8 + g := ⟨i - 8, by omega⟩
          rw [zc_G (by omega), zc_G (by omega), h (16 + g) (by omega)]
        · by_cases h24 : i < 24
          · obtain ⟨g, rfl⟩ : ∃ g, i = 16 + g := ⟨i - 16, by omega⟩
            rw [zc_P (by omega), zc_P (by omega), h (24 + g) (by omega), h (32 + g) (by omega)]
          · by_cases h32 : i < 32
            · obtain ⟨g, rfl⟩ : ∃ g, i = 24 + g := ⟨i - 24, by omega⟩
              rw [zc_R (by omega), zc_R (by omega)]
            · obtain ⟨g, rfl⟩ : ∃ g, i = 32 + g := ⟨i - 32, by omega⟩
              rw [zc_L (by omega), zc_L (by omega)]
    · rcases (show i = 40 ∨ i = 41 ∨ i = 42 ∨ i = 43 ∨ i = 44 ∨ i = 45 ∨ i = 46 ∨ i = 47 ∨ i = 49 ∨ i = 50 by omega) with rfl | rfl | rfl | rfl | rfl | rfl | rfl | rfl | rfl | rfl
      · rfl
      · rfl
      · rfl
      · rfl
      · rfl
      · rfl
      · rfl
      · rfl
      · rw [zc_49, zc_49]
        have e : (fun j => some (ad' (52 + 2 * j))) = (fun j => some (ad (52 + 2 * j))) := by
          funext j
          rw [h (52 + 2 * j) (by omega)]
        rw [e]
      · rfl
  · by_cases h2 : (i - 51) % 2 = 0
    · obtain ⟨j, rfl⟩ : ∃ j, i = 51 + 2 * j := ⟨(i - 51) / 2, by omega⟩
      rw [zc_lost, zc_lost]
    · obtain ⟨j, rfl⟩ : ∃ j, i = 52 + 2 * j := ⟨(i - 52) / 2, by omega⟩
      rw [zc_plr, zc_plr]
section ZLR
variable {p : Program} {l : Launch} {e : Env} {R : Room} {s : State} {m : MethodId} {args : Array Value} {below : List Frame} {meth : Method} {c : Code} {D : va_G} {cy : Nat → ClassId} {wa : Nat → Nat} {N : Nat} {A : Nat → Prop} {n : Nat} {ad : Nat → Nat} {cells slots : Nat} {Q : State → Prop} {σ σ' : zS}
variable {cc : ByteArray} {nL : Nat} {own : String} {pc : Nat} {L L' : List (Option Value)} {rest st : List Value}
theorem zw_forget (hle : zle L' L) (kk : zW p l e R s m args below meth c D cy N A n ad cells slots Q (pc, L', st) σ) : zW p l e R s m args below meth c D cy N A n ad cells slots Q (pc, L, st) σ :=
  fun H locs hP hS ls hl => kk H locs hP hS ls (hl.forget hle)
theorem zw_ald48 (X : zX p l s m args meth c cc nL own D cy wa A) (h48 : 48 < n) {k : Nat} (hk : k < N) (hlen : N < 2 ^ 31) (hdg : decode cc pc = .ok (.aaload, 1))
    (kk : zW p l e R s m args below meth c D cy N A n ad cells slots Q (pc + 1, L, .ref (ad (51 + 2 * k)) :: st) σ) : zW p l e R s m args below meth c D cy N A n ad cells slots Q (pc, L, .int (nI k) :: .ref (ad 48) :: st) σ := by
  obtain ⟨hx, hb, hml, hown, hts, hlk, hK, hA, hE, hM, hls⟩ := X
  intro H locs hP hS ls hl
  have ha : H[ad 48]? = some (vp_cell (cy 4) (N, .inr (.inr (.inr (.inr (fun k => some (ad (51 + 2 * k)))))))) := hP 48 _ (zw_get h48)
  exact W.aald (v := .ref (ad (51 + 2 * k))) (ty := .array .boolean) hx hb ha ((hK.2 4 (cy 4, .array .boolean) rfl).1 N (fun j => va_rf (some (ad (51 + 2 * j))))) rfl (fun q => by cases q) (by show ¬ (nI k < 0 ∨ (arrV _ _ _).slots.size ≤ _); rw [arrV_size]; exact vp_in_nI hk hlen) (by show (arrV _ _ _).slots[(nI k).toNatClampNeg]? = _; rw [nI_clamp (Nat.lt_trans hk hlen), arrV_read _ _ hk]; rfl) rfl rfl hdg (kk H locs hP hS ls hl)
theorem zw_ald49 (X : zX p l s m args meth c cc nL own D cy wa A) (h49 : 49 < n) {k : Nat} (hk : k < N) (hlen : N < 2 ^ 31) (hdg : decode cc pc = .ok (.aaload, 1))
    (kk : zW p l e R s m args below meth c D cy N A n ad cells slots Q (pc + 1, L, .ref (ad (52 + 2 * k)) :: st) σ) : zW p l e R s m args below meth c D cy N A n ad cells slots Q (pc, L, .int (nI k) :: .ref (ad 49) :: st) σ := by
  obtain ⟨hx, hb, hml, hown, hts, hlk, hK, hA, hE, hM, hls⟩ := X
  intro H locs hP hS ls hl
  have ha : H[ad 49]? = some (vp_cell (cy 5) (N, .inr (.inr (.inr (.inr (fun k => some (ad (52 + 2 * k)))))))) := hP 49 _ (zw_get h49)
  exact W.aald (v := .ref (ad (52 + 2 * k))) (ty := .array .int) hx hb ha ((hK.2 5 (cy 5, .array .int) rfl).1 N (fun j => va_rf (some (ad (52 + 2 * j))))) rfl (fun q => by cases q) (by show ¬ (nI k < 0 ∨ (arrV _ _ _).slots.size ≤ _); rw [arrV_size]; exact vp_in_nI hk hlen) (by show (arrV _ _ _).slots[(nI k).toNatClampNeg]? = _; rw [nI_clamp (Nat.lt_trans hk hlen), arrV_read _ _ hk]; rfl) rfl rfl hdg (kk H locs hP hS ls hl)
/-- areLost[k] = new boolean[15] -/
theorem zw_newrow (X : zX p l s m args meth c cc nL own D cy wa A) (hRw : zRw cy s) (hD : zD n ad) (hAd : ∀ i, i < n → A (ad i)) (hn : n = 51 + 2 * N) {k : Nat} (hk : k < N) (hN : N ≤ 8) (hd1 : decode cc pc = .ok (.newarray .boolean, 2)) (hd2 : decode cc (pc + 2) = .ok (.aastore, 1)) (hcells : cells + 1 ≤ R.cells) (hslots : slots + 15 ≤ R.slots)
    (kk : ∀ ad' : Nat → Nat, (∀ i, i ≠ 51 + 2 * k → ad' i = ad i) → zD n ad' → (∀ i, i < n → A (ad' i)) → zW p l e R s m args below meth c D cy N A n ad' (cells + 1) (slots + 15) Q (pc + 3, L, st) (zz σ (51 + 2 * k))) : zW p l e R s m args below meth c D cy N A n ad cells slots Q (pc, L, .int 15 :: .int (nI k) :: .ref (ad 48) :: st) σ := by
  obtain ⟨hx, hb, hml, hown, hts, hlk, hK, hA, hE, hM, hls⟩ := X
  obtain ⟨⟨k4, hk4, hkind4⟩, -, -, -, -⟩ := hRw
  intro H locs hP hS ls hl
  refine va_newa (atype := .boolean) (ty := .boolean) (n := 15) (N' := 15) (a0 := (15, .inl (fun _ => 0))) hx hb (hts _ zm_5) rfl hK hP (zw_D hD hAd) hS hA (fun _ => rfl) (by decide) (by decide +kernel) (Nat.le_of_ble_eq_true rfl) hcells hslots hd1 (fun q cA H1 hK1 hP1 hD1 hS1 => ?_)
  have e1 : s.vm.findClass ("[" ++ FieldType.boolean.toString) = some cA := (hK1.2 (zt cy).length (cA, .boolean) (by simp)).2
  have e2 : s.vm.findClass ("[" ++ FieldType.boolean.toString) = some (cy 1) := (hK.2 1 (cy 1, .boolean) rfl).2
  obtain rfl : cA = cy 1 := Option.some.inj (e1.symm.trans e2)
  have hlen : (zw n ad (zf cy N ad σ)).length = n := by simp [zw]
  have hin : ∀ i, i < n → (zw n ad (zf cy N ad σ) ++ [(q, .inl (cy 1, 15, .inl (fun _ => 0)))])[i]? = some (ad i, zf cy N ad σ i) := fun i hi => by
    rw [List.getElem?_append_left (by rw [hlen]; exact hi)]
    exact zw_get hi
  have hlast : (zw n ad (zf cy N ad σ) ++ [(q, .inl (cy 1, 15, .inl (fun _ => 0)))])[n]? = some (q, .inl (cy 1, 15, .inl (fun _ => 0))) := by
    rw [List.getElem?_append_right (by rw [hlen]; exact Nat.le_refl _), hlen, Nat.sub_self]
    rfl
  have hq : ∀ i, i < n → ad i ≠ q := fun i hi he => by
    have := hD1.1 i n _ _ (hin i hi) hlast he
    omega
  have h48 : 48 < n := by omega
  have ha : H1[ad 48]? = some (vp_cell (cy 4) (N, .inr (.inr (.inr (.inr (fun k => some (ad (51 + 2 * k)))))))) := hP1 48 _ (hin 48 h48)
  have hv : H1[q]? = some (vp_cell (cy 1) (15, .inl (fun _ => 0))) := hP1 n _ hlast
  obtain ⟨-, k1, hk1, comp1, hkind1⟩ := (hK.2 1 (cy 1, .boolean) rfl).1 15 (fun _ => .int 0)
  have hk1 : s.vm.classes[cy 1]? = some k1 := hk1
  have hasg : s.vm.assignable (cy 1) (cy 1) = true := by
    show Vm.assignableAux _ (255 + 1) _ _ = true
    unfold Vm.assignableAux
    simp
  have hbl : k < 2 ^ 31 := by omega
  refine W.aast hx hb ha (fun q h => by cases h) (fun h => by cases h) hk4 hkind4 rfl hk1 ⟨nI_pos hbl, by show _ < (arrV _ _ _).slots.size; rw [arrV_size, nI_clamp hbl]; exact hk⟩ hv (fun q h => by cases h) hk1 hasg rfl rfl hd2 fun H2 e z oq => ?_
  have hkk := kk (fun i => if i = 51 + 2 * k then q else ad i) (fun i hi => if_neg hi) (fun i j hi hj he => by
    dsimp only at he
    by_cases h1 : i = 51 + 2 * k
    · by_cases h2 : j = 51 + 2 * k
      · omega
      · rw [if_pos h1, if_neg h2] at he
        exact absurd he.symm (hq j hj)
    · by_cases h2 : j = 51 + 2 * k
      · rw [if_neg h1, if_pos h2] at he
        exact absurd he (hq i hi)
      · rw [if_neg h1, if_neg h2] at he
        exact hD i j hi hj he) (fun i hi => by
    show A (if i = 51 + 2 * k then q else ad i)
    by_cases h1 : i = 51 + 2 * k
    · rw [if_pos h1]
      exact hD1.2 n _ hlast
    · rw [if_neg h1]
      exact hAd i hi)
  refine hkk H2 _ (fun i x hi => ?_) (hS1.put z oq (hAd 48 h48)) ls hl
  obtain ⟨hi1, rfl⟩ := zw_at hi
  have had : ∀ j, j ≠ 51 + 2 * k → (fun i => if i = 51 + 2 * k then q else ad i) j = ad j := fun j hj => if_neg hj
  by_cases h1 : i = 51 + 2 * k
  · subst h1
    unfold zf
    rw [zc_lost, zz_s]
    show H2[if 51 + 2 * k = 51 + 2 * k then q else _]? = some _
    rw [if_pos rfl, oq q (fun h => hq 48 h48 h.symm)]
    exact hv
  · by_cases h2 : i = 48
    · subst h2
      unfold zf
      rw [zc_48]
      show H2[if 48 = 51 + 2 * k then q else ad 48]? = some _
      rw [if_neg h1, e, vp_cell_q, vp_cell_q, arrV_store, nI_clamp hbl]
      congr 2
      funext j
      by_cases hj : j = k
      · subst hj
        rw [if_pos rfl]
        simp [updV, va_rf]
      · rw [if_neg (by omega)]
        simp [updV, hj]
    · have hne : ad i ≠ ad 48 := fun h => h2 (hD i 48 hi1 h48 h)
      have hold := hP1 i _ (hin i hi1)
      by_cases h3 : i = 1
      · subst h3
        show H2[if 1 = 51 + 2 * k then q else ad 1]? = some (vp_cell (cy 3) (8, .inr (.inr (.inr (.inr (fun j => some (if 8 + j = 51 + 2 * k then q else ad (8 + j))))))))
        rw [if_neg h1, oq (ad 1) hne]
        refine (show H1[ad 1]? = some (vp_cell (cy 3) (8, .inr (.inr (.inr (.inr (fun j => some (ad (8 + j)))))))) from hold).trans (congrArg some ?_)
        rw [vp_cell_q, vp_cell_q]
        refine zd_arr (fun j hj => congrArg va_rf ?_)
        rw [if_neg (by omega)]
      · unfold zf at hold ⊢
        rw [zc_ad (n := n) had (by omega) h3 h2, zz_n h1]
        rw [if_neg h1]
        exact va_at.kept hold (oq (ad i) hne)
end ZLR
