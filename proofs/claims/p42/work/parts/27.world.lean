/-! The law's world. -/
def zs0 : zS := fun i => if 8 ≤ i ∧ i < 16 then (fun k => if k = 3 then 3 else if k = 4 then 3 else if k = 5 then 5 else 0) else if 24 ≤ i ∧ i < 32 then zpl 8 else fun _ => 0
theorem zs0_hi {i : Nat} (h : 32 ≤ i) : zs0 i = fun _ => 0 := by
  unfold zs0
  rw [if_neg (by omega), if_neg (by omega)]
def zad (a h1 h2 h3 h4 h5 h6 h7 t1 t2 t3 t4 u1 u2 : Nat) (r : Nat → Nat) : Nat → Nat := fun i =>
  if i = 0 then a else if i = 1 then h1 else if i = 2 then h2 else if i = 3 then h3 else if i = 4 then h4 else if i = 5 then h5 else if i = 6 then h6 else if i = 7 then h7
  else if i < 16 then r (4 * (i - 8)) else if i < 24 then r (4 * (i - 16) + 1) else if i < 32 then r (4 * (i - 24) + 2) else if i < 40 then r (4 * (i - 32) + 3)
  else if i = 101 then t1 else if i = 102 then t2 else if i = 103 then t3 else if i = 104 then t4 else if i = 105 then u1 else if i = 106 then u2 else 0
def zix (i : Nat) : Nat := if i < 8 then [39, 6, 5, 4, 3, 2, 0, 1].getD i 0 else if i < 16 then 38 - 4 * (i - 8) else if i < 24 then 37 - 4 * (i - 16) else if i < 32 then 36 - 4 * (i - 24) else 35 - 4 * (i - 32)
theorem zix_inj : ∀ i, i < 40 → ∀ j, j < 40 → zix i = zix j → i = j := by decide +kernel
section ZTW
variable {p : Program} {l : Launch} {e : Env} {R : Room} {s : State} {m : MethodId} {args : Array Value} {below : List Frame} {meth : Method} {c : Code} {D : va_G} {cy : Nat → ClassId} {wa : Nat → Nat} {N : Nat} {A : Nat → Prop} {n : Nat} {ad : Nat → Nat} {cells slots : Nat} {Q : State → Prop} {σ : zS} {ws : va_W}
variable {cc : ByteArray} {nL : Nat} {own : String} {pc index : Nat} {L : List (Option Value)} {rest st : List Value}

set_option maxRecDepth 100000 in
set_option maxHeartbeats 4000000 in
theorem ztw_at {a h1 h2 h3 h4 h5 h6 h7 t1 t2 t3 t4 u1 u2 : Nat} {r : Nat → Nat} : ∀ i, i < 40 → ∃ e, (([(h6, .inl (cy 0, 10, .inl (fun _ => 0))), (h7, .inl (cy 1, 5, .inl (fun _ => 0))), (h5, .inl (cy 2, 10, .inl (fun _ => 0))), (h4, .inr (4, [.ref h5, .int 0])), (h3, .inr (2, [.ref u1, .ref u2, .int 0])), (h2, .inl (cy 0, 8, .inl (fun _ => 0))), (h1, .inl (cy 3, 8, .inr (.inr (.inr (.inr (zga r 8))))))] ++ zgp cy r 8) ++ [(a, .inr (9, [.ref h1, .ref h2, .ref h3, .ref h4, .ref h7, .ref h6, .ref t1, .ref t2, .ref t3, .ref t4, .int 0, .int 0, .int 0, .int 0, .int 0, .int 0]))] : va_W)[zix i]? = some ((zad a h1 h2 h3 h4 h5 h6 h7 t1 t2 t3 t4 u1 u2 r) i, e)
  | 0, _ => ⟨_, rfl⟩
  | 1, _ => ⟨_, rfl⟩
  | 2, _ => ⟨_, rfl⟩
  | 3, _ => ⟨_, rfl⟩
  | 4, _ => ⟨_, rfl⟩
  | 5, _ => ⟨_, rfl⟩
  | 6, _ => ⟨_, rfl⟩
  | 7, _ => ⟨_, rfl⟩
  | 8, _ => ⟨_, rfl⟩
  | 9, _ => ⟨_, rfl⟩
  | 10, _ => ⟨_, rfl⟩
  | 11, _ => ⟨_, rfl⟩
  | 12, _ => ⟨_, rfl⟩
  | 13, _ => ⟨_, rfl⟩
  | 14, _ => ⟨_, rfl⟩
  | 15, _ => ⟨_, rfl⟩
  | 16, _ => ⟨_, rfl⟩
  | 17, _ => ⟨_, rfl⟩
  | 18, _ => ⟨_, rfl⟩
  | 19, _ => ⟨_, rfl⟩
  | 20, _ => ⟨_, rfl⟩
  | 21, _ => ⟨_, rfl⟩
  | 22, _ => ⟨_, rfl⟩
  | 23, _ => ⟨_, rfl⟩
  | 24, _ => ⟨_, rfl⟩
  | 25, _ => ⟨_, rfl⟩
  | 26, _ => ⟨_, rfl⟩
  | 27, _ => ⟨_, rfl⟩
  | 28, _ => ⟨_, rfl⟩
  | 29, _ => ⟨_, rfl⟩
  | 30, _ => ⟨_, rfl⟩
  | 31, _ => ⟨_, rfl⟩
  | 32, _ => ⟨_, rfl⟩
  | 33, _ => ⟨_, rfl⟩
  | 34, _ => ⟨_, rfl⟩
  | 35, _ => ⟨_, rfl⟩
  | 36, _ => ⟨_, rfl⟩
  | 37, _ => ⟨_, rfl⟩
  | 38, _ => ⟨_, rfl⟩
  | 39, _ => ⟨_, rfl⟩
  | i + 40, h => absurd h (by omega)

set_option maxRecDepth 100000 in
set_option maxHeartbeats 4000000 in
theorem ztw_P {a h1 h2 h3 h4 h5 h6 h7 t1 t2 t3 t4 u1 u2 : Nat} {r : Nat → Nat} {H : Heap} (hP : va_P D vwCl (([(h6, .inl (cy 0, 10, .inl (fun _ => 0))), (h7, .inl (cy 1, 5, .inl (fun _ => 0))), (h5, .inl (cy 2, 10, .inl (fun _ => 0))), (h4, .inr (4, [.ref h5, .int 0])), (h3, .inr (2, [.ref u1, .ref u2, .int 0])), (h2, .inl (cy 0, 8, .inl (fun _ => 0))), (h1, .inl (cy 3, 8, .inr (.inr (.inr (.inr (zga r 8))))))] ++ zgp cy r 8) ++ [(a, .inr (9, [.ref h1, .ref h2, .ref h3, .ref h4, .ref h7, .ref h6, .ref t1, .ref t2, .ref t3, .ref t4, .int 0, .int 0, .int 0, .int 0, .int 0, .int 0]))]) H) : ∀ i, i < 40 → va_at D vwCl ((zad a h1 h2 h3 h4 h5 h6 h7 t1 t2 t3 t4 u1 u2 r) i, zf cy N (zad a h1 h2 h3 h4 h5 h6 h7 t1 t2 t3 t4 u1 u2 r) zs0 i) H
  | 0, _ => hP 39 _ rfl
  | 1, _ => by
    have h := hP 6 _ rfl
    show H[h1]? = some (vp_cell (cy 3) (8, .inr (.inr (.inr (.inr (fun j => some ((zad a h1 h2 h3 h4 h5 h6 h7 t1 t2 t3 t4 u1 u2 r) (8 + j))))))))
    rw [vp_cell_q]
    refine (show H[h1]? = some (vp_cell (cy 3) (8, .inr (.inr (.inr (.inr (zga r 8)))))) from h).trans (congrArg some ?_)
    rw [vp_cell_q]
    refine zd_arr (fun j hj => congrArg va_rf ?_)
    unfold zga zad
    rw [if_pos hj, if_neg (by omega), if_neg (by omega), if_neg (by omega), if_neg (by omega), if_neg (by omega), if_neg (by omega), if_neg (by omega), if_neg (by omega), if_pos (by omega), show 8 + j - 8 = j by omega]
  | 2, _ => hP 5 _ rfl
  | 3, _ => hP 4 _ rfl
  | 4, _ => hP 3 _ rfl
  | 5, _ => hP 2 _ rfl
  | 6, _ => hP 0 _ rfl
  | 7, _ => hP 1 _ rfl
  | 8, _ => hP 38 _ rfl
  | 9, _ => hP 34 _ rfl
  | 10, _ => hP 30 _ rfl
  | 11, _ => hP 26 _ rfl
  | 12, _ => hP 22 _ rfl
  | 13, _ => hP 18 _ rfl
  | 14, _ => hP 14 _ rfl
  | 15, _ => hP 10 _ rfl
  | 16, _ => hP 37 _ rfl
  | 17, _ => hP 33 _ rfl
  | 18, _ => hP 29 _ rfl
  | 19, _ => hP 25 _ rfl
  | 20, _ => hP 21 _ rfl
  | 21, _ => hP 17 _ rfl
  | 22, _ => hP 13 _ rfl
  | 23, _ => hP 9 _ rfl
  | 24, _ => hP 36 _ rfl
  | 25, _ => hP 32 _ rfl
  | 26, _ => hP 28 _ rfl
  | 27, _ => hP 24 _ rfl
  | 28, _ => hP 20 _ rfl
  | 29, _ => hP 16 _ rfl
  | 30, _ => hP 12 _ rfl
  | 31, _ => hP 8 _ rfl
  | 32, _ => hP 35 _ rfl
  | 33, _ => hP 31 _ rfl
  | 34, _ => hP 27 _ rfl
  | 35, _ => hP 23 _ rfl
  | 36, _ => hP 19 _ rfl
  | 37, _ => hP 15 _ rfl
  | 38, _ => hP 11 _ rfl
  | 39, _ => hP 7 _ rfl
  | i + 40, h => absurd h (by omega)

theorem zu_toW {t : zT} {a h1 h2 h3 h4 h5 h6 h7 t1 t2 t3 t4 u1 u2 : Nat} {r : Nat → Nat} (kk : ∀ ad : Nat → Nat, ad 0 = a → zD 40 ad → (∀ i, i < 40 → A (ad i)) → zW p l e R s m args below meth c D cy N A 40 ad cells slots Q t zs0) :
    zUW p l e R s m args below meth c D A cells slots Q (([(h6, .inl (cy 0, 10, .inl (fun _ => 0))), (h7, .inl (cy 1, 5, .inl (fun _ => 0))), (h5, .inl (cy 2, 10, .inl (fun _ => 0))), (h4, .inr (4, [.ref h5, .int 0])), (h3, .inr (2, [.ref u1, .ref u2, .int 0])), (h2, .inl (cy 0, 8, .inl (fun _ => 0))), (h1, .inl (cy 3, 8, .inr (.inr (.inr (.inr (zga r 8))))))] ++ zgp cy r 8) ++ [(a, .inr (9, [.ref h1, .ref h2, .ref h3, .ref h4, .ref h7, .ref h6, .ref t1, .ref t2, .ref t3, .ref t4, .int 0, .int 0, .int 0, .int 0, .int 0, .int 0]))]) t := by
  intro H locs hP hD hS
  refine kk (zad a h1 h2 h3 h4 h5 h6 h7 t1 t2 t3 t4 u1 u2 r) rfl ?_ ?_ H locs ?_ hS
  · intro i j hi hj he
    obtain ⟨e1, h1⟩ := ztw_at (cy := cy) (a := a) (h1 := h1) (h2 := h2) (h3 := h3) (h4 := h4) (h5 := h5) (h6 := h6) (h7 := h7) (t1 := t1) (t2 := t2) (t3 := t3) (t4 := t4) (u1 := u1) (u2 := u2) (r := r) i hi
    obtain ⟨e2, h2⟩ := ztw_at (cy := cy) (a := a) (h1 := _) (h2 := h2) (h3 := h3) (h4 := h4) (h5 := h5) (h6 := h6) (h7 := h7) (t1 := t1) (t2 := t2) (t3 := t3) (t4 := t4) (u1 := u1) (u2 := u2) (r := r) j hj
    exact zix_inj i hi j hj (hD.1 _ _ _ _ h1 h2 he)
  · intro i hi
    obtain ⟨e1, h1⟩ := ztw_at (cy := cy) (a := a) (h1 := h1) (h2 := h2) (h3 := h3) (h4 := h4) (h5 := h5) (h6 := h6) (h7 := h7) (t1 := t1) (t2 := t2) (t3 := t3) (t4 := t4) (u1 := u1) (u2 := u2) (r := r) i hi
    exact hD.2 _ _ h1
  · intro k q hk
    obtain ⟨hk1, rfl⟩ := zw_at hk
    exact ztw_P hP k hk1
theorem zw_toU (hD : zD n ad) (hAd : ∀ i, i < n → A (ad i)) {t : zT} (kk : zUW p l e R s m args below meth c D A cells slots Q (zw n ad (zf cy N ad σ)) t) : zW p l e R s m args below meth c D cy N A n ad cells slots Q t σ :=
  fun H locs hP hS => kk H locs hP (zw_D hD hAd) hS
theorem zu_mna (X : zX p l s m args meth c cc nL own D cy wa A) {ty : FieldType} {t0 t1 : Nat} {c0 c1 : ClassId} (ht0 : (zt cy)[t0]? = some (c0, .array ty)) (hcl : Cond.classLink own index ("[" ++ (FieldType.array ty).toString) ∈ zB) (harr : Cond.arrayClass ty ∈ zB) (hover : va_AOA ty s) (hcy : s.vm.findClass (FieldType.array ty).toString = some c1)
    {n k : Int32} {N' K' : Nat} {z : vp_A} (hn : ¬ n < 0) (hk : ¬ k < 0) (hN : n.toNatClampNeg = N') (hM : k.toNatClampNeg = K') (hb1 : N' * 4 ≤ 536870912) (hb2 : K' * componentBytes ty ≤ 536870912) (hb3 : K' ≤ 536870912) (hdf : fits ty (defaultValue ty) = true) (hdd : (defaultValue ty).isDefault = true) (hcells : cells + (1 + N') ≤ R.cells) (hslots : slots + (N' + N' * K') ≤ R.slots) (hz : ∀ c : ClassId, Jvm.Free.Multi.innerC c K' (defaultValue ty) = vp_cell c z) (hdg : decode cc pc = .ok (.multianewarray index 2, 4))
    (kk : ∀ (q : Nat) (r : Nat → Nat), zUW p l e R s m args below meth c D A (cells + 1 + N') (slots + N' + N' * K') Q ((q, .inl (c0, N', .inr (.inr (.inr (.inr (fun i => if i < N' then some (r i) else none)))))) :: ((List.range N').map (fun i => (r i, .inl (c1, z))) ++ ws)) (pc + 4, L, .ref q :: rest)) : zUW p l e R s m args below meth c D A cells slots Q ws (pc, L, .int k :: .int n :: rest) := by
  obtain ⟨hx, hb, hml, hown, hts, hlk, hK, hA, hE, hM1, hls⟩ := X
  intro H locs hP hD hS ls hl
  have hw : ws ++ va_pl [] (fun _ => .inl (c1, z)) = ws := List.append_nil ws
  refine va_mna (X := ws) (L := []) (f := fun _ => .inl (c1, z)) hx hb hown (hts _ hcl) hover (hts _ harr) hcy hK (by rw [hw]; exact hP) (by rw [hw]; exact hD) hS hA hn hk hN hM hb1 hb2 hb3 hdf hdd hcells hslots hz hdg (fun q r cA H1 hinj hnot hK1 hP1 hD1 hS1 => ?_)
  have e1 : s.vm.findClass ("[" ++ (FieldType.array ty).toString) = some cA := (hK1.2 (zt cy).length (cA, .array ty) (by simp)).2
  have e2 : s.vm.findClass ("[" ++ (FieldType.array ty).toString) = some c0 := (hK.2 t0 _ ht0).2
  obtain rfl : cA = c0 := Option.some.inj (e1.symm.trans e2)
  have hpl : va_pl ([] ++ (List.range N').map r) (vr_up (fun _ => .inl (c1, z)) ((List.range N').map r) (.inl (c1, z))) = (List.range N').map (fun i => (r i, .inl (c1, z))) := by
    unfold va_pl
    rw [List.nil_append, List.map_map]
    refine List.map_congr_left (fun i hi => ?_)
    show (r i, vr_up _ _ _ (r i)) = _
    rw [vr_up_in (List.mem_map.mpr ⟨i, hi, rfl⟩)]
  rw [hpl] at hP1 hD1
  have hperm : ((q, .inl (cA, N', .inr (.inr (.inr (.inr (fun i => if i < N' then some (r i) else none)))))) :: ((List.range N').map (fun i => (r i, (.inl (c1, z) : va_E))) ++ ws)).Perm ((ws ++ [(q, .inl (cA, N', .inr (.inr (.inr (.inr (fun i => if i < N' then some (r i) else none))))))]) ++ (List.range N').map (fun i => (r i, .inl (c1, z)))) := by
    rw [List.append_assoc]
    refine List.Perm.trans ?_ List.perm_append_comm
    rw [List.append_assoc, List.singleton_append.symm]
  exact kk q r H1 locs (zd_mem hP1 (fun x hx => hperm.mem_iff.mp hx)) (zd_perm hD1 hperm) hS1 ls hl
end ZTW
