/-! The law's own arrays beside the town. -/
def zal (q40 q41 q42 q43 q44 q45 q46 q47 q48 q49 q50 : Nat) (rZ rI ad : Nat → Nat) : Nat → Nat := fun i =>
  if i < 40 then ad i else if 100 ≤ i then ad i else if i = 40 then q40 else if i = 41 then q41 else if i = 42 then q42 else if i = 43 then q43 else if i = 44 then q44 else if i = 45 then q45 else if i = 46 then q46 else if i = 47 then q47 else if i = 48 then q48 else if i = 49 then q49 else if i = 50 then q50
  else if (i - 51) % 2 = 0 then rZ ((i - 51) / 2) else rI ((i - 52) / 2)
def zpls (N : Nat) : List Nat := [50] ++ (49 :: ((List.range N).map (fun k => 52 + 2 * k) ++ (48 :: ((List.range N).map (fun k => 51 + 2 * k) ++ ([47, 46, 45, 44, 43, 42, 41, 40] ++ List.range 40)))))
theorem zpls_mem {N i : Nat} (h : i < 51 + 2 * N) : i ∈ zpls N := by
  unfold zpls
  simp only [List.mem_append, List.mem_cons, List.mem_map, List.mem_range, List.not_mem_nil, or_false]
  by_cases h1 : i < 51
  · omega
  · by_cases h2 : (i - 51) % 2 = 0
    · refine Or.inr (Or.inr (Or.inr (Or.inr (Or.inl ⟨(i - 51) / 2, by omega, by omega⟩))))
    · refine Or.inr (Or.inr (Or.inl ⟨(i - 52) / 2, by omega, by omega⟩))
theorem znd_inj {f : Nat → Nat} : ∀ (P : List Nat), (P.map f).Nodup → ∀ i ∈ P, ∀ j ∈ P, f i = f j → i = j
  | [], _, _, hi, _, _, _ => absurd hi List.not_mem_nil
  | a :: P, h, i, hi, j, hj, he => by
    rw [List.map_cons, List.nodup_cons] at h
    rcases List.mem_cons.mp hi with rfl | hi2 <;> rcases List.mem_cons.mp hj with rfl | hj2
    · rfl
    · exact absurd (List.mem_map.mpr ⟨j, hj2, he.symm⟩) h.1
    · exact absurd (List.mem_map.mpr ⟨i, hi2, he⟩) h.1
    · exact znd_inj P h.2 i hi2 j hj2 he
section ZTL
variable {p : Program} {l : Launch} {e : Env} {R : Room} {s : State} {m : MethodId} {args : Array Value} {below : List Frame} {meth : Method} {c : Code} {D : va_G} {cy : Nat → ClassId} {wa : Nat → Nat} {N N0 : Nat} {A : Nat → Prop} {n : Nat} {ad : Nat → Nat} {cells slots : Nat} {Q : State → Prop} {σ : zS} {ws : va_W}
variable {cc : ByteArray} {nL : Nat} {own : String} {pc index : Nat} {L : List (Option Value)} {rest st : List Value} {q40 q41 q42 q43 q44 q45 q46 q47 q48 q49 q50 : Nat} {rZ rI : Nat → Nat}
theorem zal_lo {i : Nat} (h : i < 40) : (zal q40 q41 q42 q43 q44 q45 q46 q47 q48 q49 q50 rZ rI ad) i = ad i := if_pos h
theorem zal_Z {k : Nat} (h : k < 24) : (zal q40 q41 q42 q43 q44 q45 q46 q47 q48 q49 q50 rZ rI ad) (51 + 2 * k) = rZ k := by
  unfold zal
  rw [if_neg (by omega), if_neg (by omega), if_neg (by omega), if_neg (by omega), if_neg (by omega), if_neg (by omega), if_neg (by omega), if_neg (by omega), if_neg (by omega), if_neg (by omega), if_neg (by omega), if_neg (by omega), if_neg (by omega), if_pos (by omega), show (51 + 2 * k - 51) / 2 = k by omega]
theorem zal_I {k : Nat} (h : k < 24) : (zal q40 q41 q42 q43 q44 q45 q46 q47 q48 q49 q50 rZ rI ad) (52 + 2 * k) = rI k := by
  unfold zal
  rw [if_neg (by omega), if_neg (by omega), if_neg (by omega), if_neg (by omega), if_neg (by omega), if_neg (by omega), if_neg (by omega), if_neg (by omega), if_neg (by omega), if_neg (by omega), if_neg (by omega), if_neg (by omega), if_neg (by omega), if_neg (by omega), show (52 + 2 * k - 52) / 2 = k by omega]
theorem zal_map (hN : N ≤ 8) : (([(q50, .inl (cy 0, N, .inl (fun _ => 0)))] ++ ((q49, .inl (cy 5, N, .inr (.inr (.inr (.inr (fun i => if i < N then some (rI i) else none)))))) :: ((List.range N).map (fun i => (rI i, .inl (cy 0, (8, .inl (fun _ => 0))))) ++ ((q48, .inl (cy 4, N, .inr (.inr (.inr (.inr (fun i => if i < N then some (rZ i) else none)))))) :: ((List.range N).map (fun i => (rZ i, .inl (cy 1, (15, .inl (fun _ => 0))))) ++ ([(q47, .inl (cy 1, N, .inl (fun _ => 0))), (q46, .inl (cy 2, N, .inl (fun _ => 0))), (q45, .inl (cy 0, N, .inl (fun _ => 0))), (q44, .inl (cy 0, N, .inl (fun _ => 0))), (q43, .inl (cy 0, N, .inl (fun _ => 0))), (q42, .inl (cy 0, N, .inl (fun _ => 0))), (q41, .inl (cy 0, N, .inl (fun _ => 0))), (q40, .inl (cy 0, N, .inl (fun _ => 0)))] ++ zw 40 ad (zf cy N0 ad zs0))))))) : va_W).map Prod.fst = (zpls N).map (zal q40 q41 q42 q43 q44 q45 q46 q47 q48 q49 q50 rZ rI ad) := by
  have e1 : ((List.range N).map (fun i => (rI i, (.inl (cy 0, (8, .inl (fun _ => 0))) : va_E)))).map Prod.fst = ((List.range N).map (fun k => 52 + 2 * k)).map (zal q40 q41 q42 q43 q44 q45 q46 q47 q48 q49 q50 rZ rI ad) := by
    rw [List.map_map, List.map_map]
    exact List.map_congr_left (fun k hk => by have := List.mem_range.mp hk; exact (zal_I (by omega)).symm)
  have e2 : ((List.range N).map (fun i => (rZ i, (.inl (cy 1, (15, .inl (fun _ => 0))) : va_E)))).map Prod.fst = ((List.range N).map (fun k => 51 + 2 * k)).map (zal q40 q41 q42 q43 q44 q45 q46 q47 q48 q49 q50 rZ rI ad) := by
    rw [List.map_map, List.map_map]
    exact List.map_congr_left (fun k hk => by have := List.mem_range.mp hk; exact (zal_Z (by omega)).symm)
  have e3 : (zw 40 ad (zf cy N0 ad zs0)).map Prod.fst = (List.range 40).map (zal q40 q41 q42 q43 q44 q45 q46 q47 q48 q49 q50 rZ rI ad) := by
    unfold zw
    rw [List.map_map]
    exact List.map_congr_left (fun k hk => (zal_lo (List.mem_range.mp hk)).symm)
  unfold zpls
  simp only [List.map_append, List.map_cons, List.map_nil, e1, e2, e3]
  rfl

set_option maxRecDepth 100000 in
set_option maxHeartbeats 4000000 in
theorem ztl_lo {H : Heap} (hP : va_P D vwCl (zw 40 ad (zf cy N0 ad zs0)) H) : ∀ i, i < 40 → va_at D vwCl ((zal q40 q41 q42 q43 q44 q45 q46 q47 q48 q49 q50 rZ rI ad) i, zf cy N (zal q40 q41 q42 q43 q44 q45 q46 q47 q48 q49 q50 rZ rI ad) zs0 i) H
  | 0, _ => hP 0 _ (zw_get (by decide))
  | 1, _ => by
    have h := hP 1 _ (zw_get (by decide))
    show H[ad 1]? = some (vp_cell (cy 3) (8, .inr (.inr (.inr (.inr (fun j => some ((zal q40 q41 q42 q43 q44 q45 q46 q47 q48 q49 q50 rZ rI ad) (8 + j))))))))
    rw [vp_cell_q]
    refine (show H[ad 1]? = some (vp_cell (cy 3) (8, .inr (.inr (.inr (.inr (fun j => some (ad (8 + j)))))))) from h).trans (congrArg some ?_)
    rw [vp_cell_q]
    refine zd_arr (fun j hj => congrArg va_rf ?_)
    rw [zal_lo (by omega)]
  | 2, _ => hP 2 _ (zw_get (by decide))
  | 3, _ => hP 3 _ (zw_get (by decide))
  | 4, _ => hP 4 _ (zw_get (by decide))
  | 5, _ => hP 5 _ (zw_get (by decide))
  | 6, _ => hP 6 _ (zw_get (by decide))
  | 7, _ => hP 7 _ (zw_get (by decide))
  | 8, _ => hP 8 _ (zw_get (by decide))
  | 9, _ => hP 9 _ (zw_get (by decide))
  | 10, _ => hP 10 _ (zw_get (by decide))
  | 11, _ => hP 11 _ (zw_get (by decide))
  | 12, _ => hP 12 _ (zw_get (by decide))
  | 13, _ => hP 13 _ (zw_get (by decide))
  | 14, _ => hP 14 _ (zw_get (by decide))
  | 15, _ => hP 15 _ (zw_get (by decide))
  | 16, _ => hP 16 _ (zw_get (by decide))
  | 17, _ => hP 17 _ (zw_get (by decide))
  | 18, _ => hP 18 _ (zw_get (by decide))
  | 19, _ => hP 19 _ (zw_get (by decide))
  | 20, _ => hP 20 _ (zw_get (by decide))
  | 21, _ => hP 21 _ (zw_get (by decide))
  | 22, _ => hP 22 _ (zw_get (by decide))
  | 23, _ => hP 23 _ (zw_get (by decide))
  | 24, _ => hP 24 _ (zw_get (by decide))
  | 25, _ => hP 25 _ (zw_get (by decide))
  | 26, _ => hP 26 _ (zw_get (by decide))
  | 27, _ => hP 27 _ (zw_get (by decide))
  | 28, _ => hP 28 _ (zw_get (by decide))
  | 29, _ => hP 29 _ (zw_get (by decide))
  | 30, _ => hP 30 _ (zw_get (by decide))
  | 31, _ => hP 31 _ (zw_get (by decide))
  | 32, _ => hP 32 _ (zw_get (by decide))
  | 33, _ => hP 33 _ (zw_get (by decide))
  | 34, _ => hP 34 _ (zw_get (by decide))
  | 35, _ => hP 35 _ (zw_get (by decide))
  | 36, _ => hP 36 _ (zw_get (by decide))
  | 37, _ => hP 37 _ (zw_get (by decide))
  | 38, _ => hP 38 _ (zw_get (by decide))
  | 39, _ => hP 39 _ (zw_get (by decide))
  | i + 40, h => absurd h (by omega)

theorem zu_toL (hN : N ≤ 8) {t : zT} (kk : ∀ ad' : Nat → Nat, ad' 0 = ad 0 → ad' 40 = q40 → ad' 41 = q41 → ad' 42 = q42 → ad' 43 = q43 → ad' 44 = q44 → ad' 45 = q45 → ad' 46 = q46 → ad' 47 = q47 → ad' 48 = q48 → ad' 49 = q49 → ad' 50 = q50 → zD (51 + 2 * N) ad' → (∀ i, i < 51 + 2 * N → A (ad' i)) → zW p l e R s m args below meth c D cy N A (51 + 2 * N) ad' cells slots Q t zs0) :
    zUW p l e R s m args below meth c D A cells slots Q ([(q50, .inl (cy 0, N, .inl (fun _ => 0)))] ++ ((q49, .inl (cy 5, N, .inr (.inr (.inr (.inr (fun i => if i < N then some (rI i) else none)))))) :: ((List.range N).map (fun i => (rI i, .inl (cy 0, (8, .inl (fun _ => 0))))) ++ ((q48, .inl (cy 4, N, .inr (.inr (.inr (.inr (fun i => if i < N then some (rZ i) else none)))))) :: ((List.range N).map (fun i => (rZ i, .inl (cy 1, (15, .inl (fun _ => 0))))) ++ ([(q47, .inl (cy 1, N, .inl (fun _ => 0))), (q46, .inl (cy 2, N, .inl (fun _ => 0))), (q45, .inl (cy 0, N, .inl (fun _ => 0))), (q44, .inl (cy 0, N, .inl (fun _ => 0))), (q43, .inl (cy 0, N, .inl (fun _ => 0))), (q42, .inl (cy 0, N, .inl (fun _ => 0))), (q41, .inl (cy 0, N, .inl (fun _ => 0))), (q40, .inl (cy 0, N, .inl (fun _ => 0)))] ++ zw 40 ad (zf cy N0 ad zs0))))))) t := by
  intro H locs hP hD hS
  have hd := zd_iff.mp hD
  rw [zal_map hN] at hd
  refine kk (zal q40 q41 q42 q43 q44 q45 q46 q47 q48 q49 q50 rZ rI ad) rfl rfl rfl rfl rfl rfl rfl rfl rfl rfl rfl rfl (fun i j hi hj he => znd_inj _ hd.1 i (zpls_mem hi) j (zpls_mem hj) he) (fun i hi => ?_) H locs (fun k q hk => ?_) hS
  · have : (zal q40 q41 q42 q43 q44 q45 q46 q47 q48 q49 q50 rZ rI ad) i ∈ (zpls N).map (zal q40 q41 q42 q43 q44 q45 q46 q47 q48 q49 q50 rZ rI ad) := List.mem_map.mpr ⟨i, zpls_mem hi, rfl⟩
    rw [← zal_map (cy := cy) (N0 := N0) hN] at this
    obtain ⟨q, hq, h⟩ := List.mem_map.mp this
    rw [← h]
    exact hd.2 q hq
  · obtain ⟨hk1, rfl⟩ := zw_at hk
    have hm : ∀ q ∈ ([(q50, .inl (cy 0, N, .inl (fun _ => 0)))] ++ ((q49, .inl (cy 5, N, .inr (.inr (.inr (.inr (fun i => if i < N then some (rI i) else none)))))) :: ((List.range N).map (fun i => (rI i, .inl (cy 0, (8, .inl (fun _ => 0))))) ++ ((q48, .inl (cy 4, N, .inr (.inr (.inr (.inr (fun i => if i < N then some (rZ i) else none)))))) :: ((List.range N).map (fun i => (rZ i, .inl (cy 1, (15, .inl (fun _ => 0))))) ++ ([(q47, .inl (cy 1, N, .inl (fun _ => 0))), (q46, .inl (cy 2, N, .inl (fun _ => 0))), (q45, .inl (cy 0, N, .inl (fun _ => 0))), (q44, .inl (cy 0, N, .inl (fun _ => 0))), (q43, .inl (cy 0, N, .inl (fun _ => 0))), (q42, .inl (cy 0, N, .inl (fun _ => 0))), (q41, .inl (cy 0, N, .inl (fun _ => 0))), (q40, .inl (cy 0, N, .inl (fun _ => 0)))] ++ zw 40 ad (zf cy N0 ad zs0))))))), va_at D vwCl q H := fun q hq => by
      obtain ⟨j, hj⟩ := List.getElem?_of_mem hq
      exact hP j q hj
    by_cases h40 : k < 40
    · exact ztl_lo (zd_mem hP (fun q hq => List.mem_append_right _ (List.mem_cons_of_mem _ (List.mem_append_right _ (List.mem_cons_of_mem _ (List.mem_append_right _ (List.mem_append_right _ hq))))))) k h40
    · by_cases h51 : k < 51
      · have h8 : ∀ x ∈ ([(q47, .inl (cy 1, N, .inl (fun _ => 0))), (q46, .inl (cy 2, N, .inl (fun _ => 0))), (q45, .inl (cy 0, N, .inl (fun _ => 0))), (q44, .inl (cy 0, N, .inl (fun _ => 0))), (q43, .inl (cy 0, N, .inl (fun _ => 0))), (q42, .inl (cy 0, N, .inl (fun _ => 0))), (q41, .inl (cy 0, N, .inl (fun _ => 0))), (q40, .inl (cy 0, N, .inl (fun _ => 0)))] : va_W), va_at D vwCl x H := fun x hx => hm x (List.mem_append_right _ (List.mem_cons_of_mem _ (List.mem_append_right _ (List.mem_cons_of_mem _ (List.mem_append_right _ (List.mem_append_left _ hx))))))
        rcases (show k = 40 ∨ k = 41 ∨ k = 42 ∨ k = 43 ∨ k = 44 ∨ k = 45 ∨ k = 46 ∨ k = 47 ∨ k = 48 ∨ k = 49 ∨ k = 50 by omega) with rfl | rfl | rfl | rfl | rfl | rfl | rfl | rfl | rfl | rfl | rfl
        · exact h8 _ (List.mem_of_getElem? (i := 7) rfl)
        · exact h8 _ (List.mem_of_getElem? (i := 6) rfl)
        · exact h8 _ (List.mem_of_getElem? (i := 5) rfl)
        · exact h8 _ (List.mem_of_getElem? (i := 4) rfl)
        · exact h8 _ (List.mem_of_getElem? (i := 3) rfl)
        · exact h8 _ (List.mem_of_getElem? (i := 2) rfl)
        · exact h8 _ (List.mem_of_getElem? (i := 1) rfl)
        · exact h8 _ (List.mem_of_getElem? (i := 0) rfl)
        · have h := hm (q48, .inl (cy 4, N, .inr (.inr (.inr (.inr (fun i => if i < N then some (rZ i) else none)))))) (List.mem_append_right _ (List.mem_cons_of_mem _ (List.mem_append_right _ List.mem_cons_self)))
          show H[q48]? = some (vp_cell (cy 4) (N, .inr (.inr (.inr (.inr (fun j => some ((zal q40 q41 q42 q43 q44 q45 q46 q47 q48 q49 q50 rZ rI ad) (51 + 2 * j))))))))
          refine (show H[q48]? = some (vp_cell (cy 4) (N, .inr (.inr (.inr (.inr (fun i => if i < N then some (rZ i) else none)))))) from h).trans (congrArg some ?_)
          rw [vp_cell_q, vp_cell_q]
          refine zd_arr (fun j hj => congrArg va_rf ?_)
          rw [if_pos hj, zal_Z (by omega)]
        · have h := hm (q49, .inl (cy 5, N, .inr (.inr (.inr (.inr (fun i => if i < N then some (rI i) else none)))))) (List.mem_append_right _ List.mem_cons_self)
          show H[q49]? = some (vp_cell (cy 5) (N, .inr (.inr (.inr (.inr (fun j => some ((zal q40 q41 q42 q43 q44 q45 q46 q47 q48 q49 q50 rZ rI ad) (52 + 2 * j))))))))
          refine (show H[q49]? = some (vp_cell (cy 5) (N, .inr (.inr (.inr (.inr (fun i => if i < N then some (rI i) else none)))))) from h).trans (congrArg some ?_)
          rw [vp_cell_q, vp_cell_q]
          refine zd_arr (fun j hj => congrArg va_rf ?_)
          rw [if_pos hj, zal_I (by omega)]
        · exact hm (q50, .inl (cy 0, N, .inl (fun _ => 0))) (List.mem_append_left _ List.mem_cons_self)
      · by_cases h2 : (k - 51) % 2 = 0
        · obtain ⟨j, rfl⟩ : ∃ j, k = 51 + 2 * j := ⟨(k - 51) / 2, by omega⟩
          unfold zf
          rw [zal_Z (by omega), zc_lost, zs0_hi (by omega)]
          exact hm (rZ j, .inl (cy 1, (15, .inl (fun _ => 0)))) (List.mem_append_right _ (List.mem_cons_of_mem _ (List.mem_append_right _ (List.mem_cons_of_mem _ (List.mem_append_left _ (List.mem_map.mpr ⟨j, List.mem_range.mpr (by omega), rfl⟩))))))
        · obtain ⟨j, rfl⟩ : ∃ j, k = 52 + 2 * j := ⟨(k - 52) / 2, by omega⟩
          unfold zf
          rw [zal_I (by omega), zc_plr, zs0_hi (by omega)]
          exact hm (rI j, .inl (cy 0, (8, .inl (fun _ => 0)))) (List.mem_append_right _ (List.mem_cons_of_mem _ (List.mem_append_left _ (List.mem_map.mpr ⟨j, List.mem_range.mpr (by omega), rfl⟩))))
end ZTL
