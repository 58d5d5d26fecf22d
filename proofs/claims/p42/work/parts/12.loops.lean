set_option maxHeartbeats 4000000 in
set_option maxRecDepth 100000 in
theorem lp_placeOf {p : Program} {l : Launch} {e : Env} {R : Room} {s : State} {m : MethodId} {args : Array Value} {below : List Frame} {meth : Method} {c : Code} {D : va_G} {cy : Nat → ClassId} {wa : Nat → Nat} {N : Nat} {A : Nat → Prop} {n : Nat} {ad : Nat → Nat} {cells slots : Nat} {Q : State → Prop} (X : zX p l s m args meth c cX7_placeOf 3 RX7 D cy wa A) (hD : zD n ad) (hAd : ∀ i, i < n → A (ad i)) (hn : 40 ≤ n) (σ : zS) (gc : Nat) (hgc : gc ≤ 8) (e0 : σ 0 11 = nI gc) (g j : Nat) (hj : j < gc) (hjg : σ 2 j = nI g) (hf : ∀ i, i < j → ¬ σ 2 i = nI g)  (kk : zW p l e R s m args below meth c D cy N A n ad cells slots Q (28, [some (.ref (ad 0)), some (.int (nI g)), some (.int (nI j))], []) (σ)) : ∀ (d k : Nat), k + d = j → zW p l e R s m args below meth c D cy N A n ad cells slots Q (2, [some (.ref (ad 0)), some (.int (nI g)), some (.int (nI k))], []) (σ) := by
  intro d
  induction d with
  | zero =>
    intro k hk
    obtain rfl : k = j := by omega
    refine zw_run X (is := [(2, .iload_n 2, 1), (3, .aload_n 0, 1)]) (t' := (4, [some (.ref (ad 0)), some (.int (nI g)), some (.int (nI k))], [.ref (ad 0), .int (nI k)])) ⟨dX7_placeOf_2, dX7_placeOf_3, trivial⟩ rfl ?_
    refine zw_getf X (i := 0) (by omega) zc_0 (C := RX7) (T := TX7) (Nf := 16) rfl zi_X7 11 (by decide) rfl zm_110 rfl dX7_placeOf_4 ?_
    refine zw_run X (is := [(7, .iconst 1, 1), (8, .isub, 1)]) (t' := (9, [some (.ref (ad 0)), some (.int (nI g)), some (.int (nI k))], [.int ((σ (0) 11) - 1), .int (nI k)])) ⟨dX7_placeOf_7, dX7_placeOf_8, trivial⟩ rfl ?_
    refine zw_icmp_ge X (tgt := 28) dX7_placeOf_9 (by decide) (fun h9 => ?_) (fun h9 => ?_)
    · exact kk
    · refine zw_run X (is := [(12, .aload_n 0, 1)]) (t' := (13, [some (.ref (ad 0)), some (.int (nI g)), some (.int (nI k))], [.ref (ad 0)])) ⟨dX7_placeOf_12, trivial⟩ rfl ?_
      refine zw_getf X (i := 0) (by omega) zc_0 (C := RX7) (T := TX7) (Nf := 16) rfl zi_X7 1 (by decide) rfl zm_19 rfl dX7_placeOf_13 ?_
      refine zw_run X (is := [(16, .iload_n 2, 1)]) (t' := (17, [some (.ref (ad 0)), some (.int (nI g)), some (.int (nI k))], [.int (nI k), .ref (ad 2)])) ⟨dX7_placeOf_16, trivial⟩ rfl ?_
      refine zw_iald X (i := 2) (by omega) (len := 8) zc_2 (j := k) rfl (by omega) (by decide) dX7_placeOf_17 ?_
      refine zw_run X (is := [(18, .iload_n 1, 1)]) (t' := (19, [some (.ref (ad 0)), some (.int (nI g)), some (.int (nI k))], [.int (nI g), .int (σ (2) k)])) ⟨dX7_placeOf_18, trivial⟩ rfl ?_
      refine zw_icmp_eq X (tgt := 28) dX7_placeOf_19 (by decide) (fun _ => ?_) (fun h_ => absurd hjg h_)
      exact kk
  | succ d ih =>
    intro k hk
    refine zw_run X (is := [(2, .iload_n 2, 1), (3, .aload_n 0, 1)]) (t' := (4, [some (.ref (ad 0)), some (.int (nI g)), some (.int (nI k))], [.ref (ad 0), .int (nI k)])) ⟨dX7_placeOf_2, dX7_placeOf_3, trivial⟩ rfl ?_
    refine zw_getf X (i := 0) (by omega) zc_0 (C := RX7) (T := TX7) (Nf := 16) rfl zi_X7 11 (by decide) rfl zm_110 rfl dX7_placeOf_4 ?_
    refine zw_run X (is := [(7, .iconst 1, 1), (8, .isub, 1)]) (t' := (9, [some (.ref (ad 0)), some (.int (nI g)), some (.int (nI k))], [.int ((σ (0) 11) - 1), .int (nI k)])) ⟨dX7_placeOf_7, dX7_placeOf_8, trivial⟩ rfl ?_
    refine zw_icmp_ge X (tgt := 28) dX7_placeOf_9 (by decide) (fun h_ => absurd h_ (by rw [e0, show nI gc - 1 = nI (gc - 1) from pk_sub (a := gc) (b := 1) (by omega)]; exact nI_ge (by omega) (by omega))) (fun _ => ?_)
    refine zw_run X (is := [(12, .aload_n 0, 1)]) (t' := (13, [some (.ref (ad 0)), some (.int (nI g)), some (.int (nI k))], [.ref (ad 0)])) ⟨dX7_placeOf_12, trivial⟩ rfl ?_
    refine zw_getf X (i := 0) (by omega) zc_0 (C := RX7) (T := TX7) (Nf := 16) rfl zi_X7 1 (by decide) rfl zm_19 rfl dX7_placeOf_13 ?_
    refine zw_run X (is := [(16, .iload_n 2, 1)]) (t' := (17, [some (.ref (ad 0)), some (.int (nI g)), some (.int (nI k))], [.int (nI k), .ref (ad 2)])) ⟨dX7_placeOf_16, trivial⟩ rfl ?_
    refine zw_iald X (i := 2) (by omega) (len := 8) zc_2 (j := k) rfl (by omega) (by decide) dX7_placeOf_17 ?_
    refine zw_run X (is := [(18, .iload_n 1, 1)]) (t' := (19, [some (.ref (ad 0)), some (.int (nI g)), some (.int (nI k))], [.int (nI g), .int (σ (2) k)])) ⟨dX7_placeOf_18, trivial⟩ rfl ?_
    refine zw_icmp_eq X (tgt := 28) dX7_placeOf_19 (by decide) (fun h_ => absurd h_ (hf k (by omega))) (fun _ => ?_)
    refine zw_run X (is := [(22, .iinc 2 1, 3)]) (t' := (25, [some (.ref (ad 0)), some (.int (nI g)), some (.int (nI k + 1))], [])) ⟨dX7_placeOf_22, trivial⟩ rfl ?_
    refine zw_go X (tgt := 2) dX7_placeOf_25 (by decide) ?_
    rw [nI_1]
    exact ih (k + 1) (by omega)

set_option maxHeartbeats 4000000 in
set_option maxRecDepth 100000 in
theorem c_placeOf {l : Launch} (hls : l.stackTraces = false) {D : va_G} {cy : Nat → ClassId} {wa : Nat → Nat} {N n : Nat} {ad : Nat → Nat} (hD : zD n ad) (hn : 40 ≤ n) (σ : zS) (gc : Nat) (hgc : gc ≤ 8) (e0 : σ 0 11 = nI gc) (g j : Nat) (hj : j < gc) (hjg : σ 2 j = nI g) (hf : ∀ i, i < j → ¬ σ 2 i = nI g)  (sz : Nat) : Met l yX7_placeOf (.code yX7_placeOf cX7_placeOf 3 (some .int) :: zB) (zRm 0) (zPc [.ref (ad 0), .int (nI g)] D cy wa N n ad σ sz) (zQi (nI j) D cy N n ad (σ) sz) 0 0 (zA n ad sz) := by
  refine z_met (by decide) hls (List.forall_mem_cons.mpr ⟨rfl, (List.forall_mem_cons.mpr ⟨rfl, (fun _ h => nomatch h)⟩)⟩) (Nat.le_of_ble_eq_true rfl) (fun p_ e_ s_ m_ below_ meth_ c_ hsz hr X => ?_)
  have X : zX p_ l s_ m_ [.ref (ad 0), .int (nI g)].toArray meth_ c_ cX7_placeOf 3 RX7 D cy wa (zA n ad sz) := X
  have hAd : ∀ i, i < n → zA n ad sz (ad i) := fun i hi => Or.inl ⟨i, hi, rfl⟩
  refine zw_run X (is := [(0, .iconst 0, 1), (1, .istore_n 2, 1)]) (t' := (2, [some (.ref (ad 0)), some (.int (nI g)), some (.int 0)], [])) ⟨dX7_placeOf_0, dX7_placeOf_1, trivial⟩ rfl ?_
  refine lp_placeOf X hD hAd hn σ gc hgc e0 g j hj hjg hf ?_ j 0 (by omega)
  refine zw_run X (is := [(28, .iload_n 2, 1)]) (t' := (29, [some (.ref (ad 0)), some (.int (nI g)), some (.int (nI j))], [.int (nI j)])) ⟨dX7_placeOf_28, trivial⟩ rfl ?_
  exact zw_iret X hr dX7_placeOf_29 rfl rfl rfl

set_option maxHeartbeats 4000000 in
set_option maxRecDepth 100000 in
theorem c_place {l : Launch} (hls : l.stackTraces = false) {D : va_G} {cy : Nat → ClassId} {wa : Nat → Nat} {N n : Nat} {ad : Nat → Nat} (hD : zD n ad) (hn : 40 ≤ n) (σ : zS) (gc : Nat) (hgc : gc ≤ 8) (e0 : σ 0 11 = nI gc) (g : Nat) (hg : g < gc) (j : Nat) (hj : j < gc) (hjg : σ 2 j = nI g) (hf : ∀ i, i < j → ¬ σ 2 i = nI g)  (sz : Nat) : Met l yX7_place (.code yX7_place cX7_place 2 (some .int) :: zB) (zRm 2) (zPc [.ref (ad 0), .int (nI g)] D cy wa N n ad σ sz) (zQi (nI j) D cy N n ad (σ) sz) 0 0 (zA n ad sz) := by
  refine z_met (by decide) hls (List.forall_mem_cons.mpr ⟨rfl, (List.forall_mem_cons.mpr ⟨rfl, (fun _ h => nomatch h)⟩)⟩) (Nat.le_of_ble_eq_true rfl) (fun p_ e_ s_ m_ below_ meth_ c_ hsz hr X => ?_)
  have X : zX p_ l s_ m_ [.ref (ad 0), .int (nI g)].toArray meth_ c_ cX7_place 2 RX7 D cy wa (zA n ad sz) := X
  have hAd : ∀ i, i < n → zA n ad sz (ad i) := fun i hi => Or.inl ⟨i, hi, rfl⟩
  refine zw_run X (is := [(0, .aload_n 0, 1), (1, .iload_n 1, 1)]) (t' := (2, [some (.ref (ad 0)), some (.int (nI g))], [.int (nI g), .ref (ad 0)])) ⟨dX7_place_0, dX7_place_1, trivial⟩ rfl ?_
  refine zw_Vv X hAd (As := [.int (nI g)]) (rest := []) (d := 0) (i := 0) (by omega) zc_0 (q := (RX7, TX7, 16)) rfl ⟨zm_135, zm_136, zm_137, zm_2, zm_138, rfl, by decide, by decide, (show (parseMethodDescriptor yX7_needGuild.desc).map (fun d => d.parameters.length) = some 1 by decide +kernel)⟩ (fun sz => c_needGuild hls hD hn σ gc hgc e0 g hg sz) rfl rfl (Nat.le_of_ble_eq_true rfl) ⟨Nat.le_of_ble_eq_true rfl, Nat.le_of_ble_eq_true rfl⟩ ⟨Nat.zero_le _, Nat.zero_le _⟩ dX7_place_2 ?_
  refine zw_run X (is := [(5, .aload_n 0, 1), (6, .iload_n 1, 1)]) (t' := (7, [some (.ref (ad 0)), some (.int (nI g))], [.int (nI g), .ref (ad 0)])) ⟨dX7_place_5, dX7_place_6, trivial⟩ rfl ?_
  refine zw_Vi X hAd (As := [.int (nI g)]) (rest := []) (d := 0) (i := 0) (by omega) zc_0 (q := (RX7, TX7, 16)) rfl ⟨zm_311, zm_312, zm_313, zm_2, zm_314, rfl, by decide, by decide, (show (parseMethodDescriptor yX7_placeOf.desc).map (fun d => d.parameters.length) = some 1 by decide +kernel)⟩ (fun sz => c_placeOf hls hD hn σ gc hgc e0 g j hj hjg hf sz) rfl rfl (Nat.le_of_ble_eq_true rfl) ⟨Nat.le_of_ble_eq_true rfl, Nat.le_of_ble_eq_true rfl⟩ ⟨Nat.zero_le _, Nat.zero_le _⟩ dX7_place_7 ?_
  exact zw_iret X hr dX7_place_10 rfl rfl rfl

/-- order[k] := order[k+1] for k from a, d times; order[k] := order[k-1] downwards from a, d times -/
def zup (σ : zS) (a : Nat) : Nat → zS
  | 0 => σ
  | d + 1 => zu (zup σ a d) 2 (a + d) (zup σ a d 2 (a + d + 1))
def zdn (σ : zS) (a : Nat) : Nat → zS
  | 0 => σ
  | d + 1 => zu (zdn σ a d) 2 (a - d) (zdn σ a d 2 (a - d - 1))

set_option maxHeartbeats 4000000 in
set_option maxRecDepth 100000 in
theorem lp_putU {p : Program} {l : Launch} {e : Env} {R : Room} {s : State} {m : MethodId} {args : Array Value} {below : List Frame} {meth : Method} {c : Code} {D : va_G} {cy : Nat → ClassId} {wa : Nat → Nat} {N : Nat} {A : Nat → Prop} {n : Nat} {ad : Nat → Nat} {cells slots : Nat} {Q : State → Prop} (X : zX p l s m args meth c cX7_put 5 RX7 D cy wa A) (hD : zD n ad) (hAd : ∀ i, i < n → A (ad i)) (hn : 40 ≤ n) (σ : zS) (gc : Nat) (hgc : gc ≤ 8) (g j q : Nat) (hj : j < gc) (hq : q < gc)  (kk : zW p l e R s m args below meth c D cy N A n ad cells slots Q (53, [some (.ref (ad 0)), some (.int (nI g)), some (.int (nI q)), some (.int (nI j)), some (.int (nI (j + (q - j))))], []) (zup σ j (q - j))) : ∀ (d k : Nat), k + d = q - j → zW p l e R s m args below meth c D cy N A n ad cells slots Q (25, [some (.ref (ad 0)), some (.int (nI g)), some (.int (nI q)), some (.int (nI j)), some (.int (nI (j + k)))], []) (zup σ j k) := by
  intro d
  induction d with
  | zero =>
    intro k hk
    obtain rfl : k = q - j := by omega
    refine zw_run X (is := [(25, .iload 4, 2), (27, .iload_n 2, 1)]) (t' := (28, [some (.ref (ad 0)), some (.int (nI g)), some (.int (nI q)), some (.int (nI j)), some (.int (nI (j + (q - j))))], [.int (nI q), .int (nI (j + (q - j)))])) ⟨dX7_put_25, dX7_put_27, trivial⟩ rfl ?_
    refine zw_icmp_ge X (tgt := 53) dX7_put_28 (by decide) (fun _ => ?_) (fun h_ => absurd (nI_le (by omega) (by omega)) h_)
    exact kk
  | succ d ih =>
    intro k hk
    refine zw_run X (is := [(25, .iload 4, 2), (27, .iload_n 2, 1)]) (t' := (28, [some (.ref (ad 0)), some (.int (nI g)), some (.int (nI q)), some (.int (nI j)), some (.int (nI (j + k)))], [.int (nI q), .int (nI (j + k))])) ⟨dX7_put_25, dX7_put_27, trivial⟩ rfl ?_
    refine zw_icmp_ge X (tgt := 53) dX7_put_28 (by decide) (fun h_ => absurd h_ (nI_ge (by omega) (by omega))) (fun _ => ?_)
    refine zw_run X (is := [(31, .aload_n 0, 1)]) (t' := (32, [some (.ref (ad 0)), some (.int (nI g)), some (.int (nI q)), some (.int (nI j)), some (.int (nI (j + k)))], [.ref (ad 0)])) ⟨dX7_put_31, trivial⟩ rfl ?_
    refine zw_getf X (i := 0) (by omega) zc_0 (C := RX7) (T := TX7) (Nf := 16) rfl zi_X7 1 (by decide) rfl zm_19 rfl dX7_put_32 ?_
    refine zw_run X (is := [(35, .iload 4, 2), (37, .aload_n 0, 1)]) (t' := (38, [some (.ref (ad 0)), some (.int (nI g)), some (.int (nI q)), some (.int (nI j)), some (.int (nI (j + k)))], [.ref (ad 0), .int (nI (j + k)), .ref (ad 2)])) ⟨dX7_put_35, dX7_put_37, trivial⟩ rfl ?_
    refine zw_getf X (i := 0) (by omega) zc_0 (C := RX7) (T := TX7) (Nf := 16) rfl zi_X7 1 (by decide) rfl zm_19 rfl dX7_put_38 ?_
    refine zw_run X (is := [(41, .iload 4, 2), (43, .iconst 1, 1), (44, .iadd, 1)]) (t' := (45, [some (.ref (ad 0)), some (.int (nI g)), some (.int (nI q)), some (.int (nI j)), some (.int (nI (j + k)))], [.int ((nI (j + k)) + 1), .ref (ad 2), .int (nI (j + k)), .ref (ad 2)])) ⟨dX7_put_41, dX7_put_43, dX7_put_44, trivial⟩ rfl ?_
    refine zw_iald X (i := 2) (by omega) (len := 8) zc_2 (j := (j + k + 1)) (nI_1 _) (by omega) (by decide) dX7_put_45 ?_
    refine zw_iast X hD hAd (i := 2) (by omega) (len := 8) (fun _ => zc_2) (j := (j + k)) rfl (by omega) (by decide) dX7_put_46 ?_
    refine zw_run X (is := [(47, .iinc 4 1, 3)]) (t' := (50, [some (.ref (ad 0)), some (.int (nI g)), some (.int (nI q)), some (.int (nI j)), some (.int (nI (j + k) + 1))], [])) ⟨dX7_put_47, trivial⟩ rfl ?_
    refine zw_go X (tgt := 25) dX7_put_50 (by decide) ?_
    rw [nI_1]
    exact ih (k + 1) (by omega)

set_option maxHeartbeats 4000000 in
set_option maxRecDepth 100000 in
theorem lp_putD {p : Program} {l : Launch} {e : Env} {R : Room} {s : State} {m : MethodId} {args : Array Value} {below : List Frame} {meth : Method} {c : Code} {D : va_G} {cy : Nat → ClassId} {wa : Nat → Nat} {N : Nat} {A : Nat → Prop} {n : Nat} {ad : Nat → Nat} {cells slots : Nat} {Q : State → Prop} (X : zX p l s m args meth c cX7_put 5 RX7 D cy wa A) (hD : zD n ad) (hAd : ∀ i, i < n → A (ad i)) (hn : 40 ≤ n) (σ : zS) (gc : Nat) (hgc : gc ≤ 8) (g j q : Nat) (hj : j < gc) (hq : q < gc)  (kk : zW p l e R s m args below meth c D cy N A n ad cells slots Q (84, [some (.ref (ad 0)), some (.int (nI g)), some (.int (nI q)), some (.int (nI j)), some (.int (nI (j - (j - q))))], []) (zdn σ j (j - q))) : ∀ (d k : Nat), k + d = j - q → zW p l e R s m args below meth c D cy N A n ad cells slots Q (56, [some (.ref (ad 0)), some (.int (nI g)), some (.int (nI q)), some (.int (nI j)), some (.int (nI (j - k)))], []) (zdn σ j k) := by
  intro d
  induction d with
  | zero =>
    intro k hk
    obtain rfl : k = j - q := by omega
    refine zw_run X (is := [(56, .iload 4, 2), (58, .iload_n 2, 1)]) (t' := (59, [some (.ref (ad 0)), some (.int (nI g)), some (.int (nI q)), some (.int (nI j)), some (.int (nI (j - (j - q))))], [.int (nI q), .int (nI (j - (j - q)))])) ⟨dX7_put_56, dX7_put_58, trivial⟩ rfl ?_
    refine zw_icmp_le X (tgt := 84) dX7_put_59 (by decide) (fun _ => ?_) (fun h_ => absurd (nI_le (by omega) (by omega)) h_)
    exact kk
  | succ d ih =>
    intro k hk
    refine zw_run X (is := [(56, .iload 4, 2), (58, .iload_n 2, 1)]) (t' := (59, [some (.ref (ad 0)), some (.int (nI g)), some (.int (nI q)), some (.int (nI j)), some (.int (nI (j - k)))], [.int (nI q), .int (nI (j - k))])) ⟨dX7_put_56, dX7_put_58, trivial⟩ rfl ?_
    refine zw_icmp_le X (tgt := 84) dX7_put_59 (by decide) (fun h_ => absurd h_ (nI_ge (a := q) (b := j - k) (by omega) (by omega))) (fun _ => ?_)
    refine zw_run X (is := [(62, .aload_n 0, 1)]) (t' := (63, [some (.ref (ad 0)), some (.int (nI g)), some (.int (nI q)), some (.int (nI j)), some (.int (nI (j - k)))], [.ref (ad 0)])) ⟨dX7_put_62, trivial⟩ rfl ?_
    refine zw_getf X (i := 0) (by omega) zc_0 (C := RX7) (T := TX7) (Nf := 16) rfl zi_X7 1 (by decide) rfl zm_19 rfl dX7_put_63 ?_
    refine zw_run X (is := [(66, .iload 4, 2), (68, .aload_n 0, 1)]) (t' := (69, [some (.ref (ad 0)), some (.int (nI g)), some (.int (nI q)), some (.int (nI j)), some (.int (nI (j - k)))], [.ref (ad 0), .int (nI (j - k)), .ref (ad 2)])) ⟨dX7_put_66, dX7_put_68, trivial⟩ rfl ?_
    refine zw_getf X (i := 0) (by omega) zc_0 (C := RX7) (T := TX7) (Nf := 16) rfl zi_X7 1 (by decide) rfl zm_19 rfl dX7_put_69 ?_
    refine zw_run X (is := [(72, .iload 4, 2), (74, .iconst 1, 1), (75, .isub, 1)]) (t' := (76, [some (.ref (ad 0)), some (.int (nI g)), some (.int (nI q)), some (.int (nI j)), some (.int (nI (j - k)))], [.int ((nI (j - k)) - 1), .ref (ad 2), .int (nI (j - k)), .ref (ad 2)])) ⟨dX7_put_72, dX7_put_74, dX7_put_75, trivial⟩ rfl ?_
    refine zw_iald X (i := 2) (by omega) (len := 8) zc_2 (j := (j - k - 1)) (pk_sub (b := 1) (by omega)) (by omega) (by decide) dX7_put_76 ?_
    refine zw_iast X hD hAd (i := 2) (by omega) (len := 8) (fun _ => zc_2) (j := (j - k)) rfl (by omega) (by decide) dX7_put_77 ?_
    refine zw_run X (is := [(78, .iinc 4 (-1), 3)]) (t' := (81, [some (.ref (ad 0)), some (.int (nI g)), some (.int (nI q)), some (.int (nI j)), some (.int (nI (j - k) + (-1)))], [])) ⟨dX7_put_78, trivial⟩ rfl ?_
    refine zw_go X (tgt := 56) dX7_put_81 (by decide) ?_
    rw [show nI (j - k) + (-1) = nI (j - (k + 1)) from by rw [show j - k = (j - (k + 1)) + 1 by omega]; exact pk_m1 _]
    exact ih (k + 1) (by omega)

set_option maxHeartbeats 4000000 in
set_option maxRecDepth 100000 in
theorem c_put {l : Launch} (hls : l.stackTraces = false) {D : va_G} {cy : Nat → ClassId} {wa : Nat → Nat} {N n : Nat} {ad : Nat → Nat} (hD : zD n ad) (hn : 40 ≤ n) (σ : zS) (gc : Nat) (hgc : gc ≤ 8) (e0 : σ 0 11 = nI gc) (g : Nat) (hg : g < gc) (j : Nat) (hj : j < gc) (hjg : σ 2 j = nI g) (hf : ∀ i, i < j → ¬ σ 2 i = nI g) (q : Nat) (hq : q < gc) (sz : Nat) : Met l yX7_put (.code yX7_put cX7_put 5 (some .int) :: zB) (zRm 2) (zPc [.ref (ad 0), .int (nI g), .int (nI q)] D cy wa N n ad σ sz) (zQi (nI j) D cy N n ad (zu (zdn (zup σ j (q - j)) j (j - q)) (2) q (nI g)) sz) 0 0 (zA n ad sz) := by
  refine z_met (by decide) hls (List.forall_mem_cons.mpr ⟨rfl, (List.forall_mem_cons.mpr ⟨rfl, (List.forall_mem_cons.mpr ⟨rfl, (fun _ h => nomatch h)⟩)⟩)⟩) (Nat.le_of_ble_eq_true rfl) (fun p_ e_ s_ m_ below_ meth_ c_ hsz hr X => ?_)
  have X : zX p_ l s_ m_ [.ref (ad 0), .int (nI g), .int (nI q)].toArray meth_ c_ cX7_put 5 RX7 D cy wa (zA n ad sz) := X
  have hAd : ∀ i, i < n → zA n ad sz (ad i) := fun i hi => Or.inl ⟨i, hi, rfl⟩
  refine zw_run X (is := [(0, .aload_n 0, 1), (1, .iload_n 1, 1)]) (t' := (2, [some (.ref (ad 0)), some (.int (nI g)), some (.int (nI q)), none, none], [.int (nI g), .ref (ad 0)])) ⟨dX7_put_0, dX7_put_1, trivial⟩ rfl ?_
  refine zw_Vv X hAd (As := [.int (nI g)]) (rest := []) (d := 0) (i := 0) (by omega) zc_0 (q := (RX7, TX7, 16)) rfl ⟨zm_135, zm_136, zm_137, zm_2, zm_138, rfl, by decide, by decide, (show (parseMethodDescriptor yX7_needGuild.desc).map (fun d => d.parameters.length) = some 1 by decide +kernel)⟩ (fun sz => c_needGuild hls hD hn σ gc hgc e0 g hg sz) rfl rfl (Nat.le_of_ble_eq_true rfl) ⟨Nat.le_of_ble_eq_true rfl, Nat.le_of_ble_eq_true rfl⟩ ⟨Nat.zero_le _, Nat.zero_le _⟩ dX7_put_2 ?_
  refine zw_run X (is := [(5, .iload_n 2, 1), (6, .iconst 0, 1), (7, .aload_n 0, 1)]) (t' := (8, [some (.ref (ad 0)), some (.int (nI g)), some (.int (nI q)), none, none], [.ref (ad 0), .int 0, .int (nI q)])) ⟨dX7_put_5, dX7_put_6, dX7_put_7, trivial⟩ rfl ?_
  refine zw_getf X (i := 0) (by omega) zc_0 (C := RX7) (T := TX7) (Nf := 16) rfl zi_X7 11 (by decide) rfl zm_110 rfl dX7_put_8 ?_
  refine zw_run X (is := [(11, .iconst 1, 1), (12, .isub, 1)]) (t' := (13, [some (.ref (ad 0)), some (.int (nI g)), some (.int (nI q)), none, none], [.int ((σ (0) 11) - 1), .int 0, .int (nI q)])) ⟨dX7_put_11, dX7_put_12, trivial⟩ rfl ?_
  refine zw_Sv X hAd (As := [.int (nI q), .int 0, .int ((σ (0) 11) - 1)]) (rest := []) (d := 0) ⟨zm_114, zm_115, zm_2, zm_116, by decide, by decide, (show (parseMethodDescriptor yX7_needRange.desc).map (fun d => d.parameters.length) = some 3 by decide +kernel)⟩ (fun sz => c_needRange hls hD hn σ (nI q) 0 (σ 0 11 - 1) (nI_pos (by omega)) (by rw [e0, show nI gc - 1 = nI (gc - 1) from pk_sub (a := gc) (b := 1) (by omega)]; exact nI_le (by omega) (by omega)) sz) rfl rfl (Nat.le_of_ble_eq_true rfl) ⟨Nat.le_of_ble_eq_true rfl, Nat.le_of_ble_eq_true rfl⟩ ⟨Nat.zero_le _, Nat.zero_le _⟩ dX7_put_13 ?_
  refine zw_run X (is := [(16, .aload_n 0, 1), (17, .iload_n 1, 1)]) (t' := (18, [some (.ref (ad 0)), some (.int (nI g)), some (.int (nI q)), none, none], [.int (nI g), .ref (ad 0)])) ⟨dX7_put_16, dX7_put_17, trivial⟩ rfl ?_
  refine zw_Vi X hAd (As := [.int (nI g)]) (rest := []) (d := 0) (i := 0) (by omega) zc_0 (q := (RX7, TX7, 16)) rfl ⟨zm_311, zm_312, zm_313, zm_2, zm_314, rfl, by decide, by decide, (show (parseMethodDescriptor yX7_placeOf.desc).map (fun d => d.parameters.length) = some 1 by decide +kernel)⟩ (fun sz => c_placeOf hls hD hn σ gc hgc e0 g j hj hjg hf sz) rfl rfl (Nat.le_of_ble_eq_true rfl) ⟨Nat.le_of_ble_eq_true rfl, Nat.le_of_ble_eq_true rfl⟩ ⟨Nat.zero_le _, Nat.zero_le _⟩ dX7_put_18 ?_
  refine zw_run X (is := [(21, .istore_n 3, 1), (22, .iload_n 3, 1), (23, .istore 4, 2)]) (t' := (25, [some (.ref (ad 0)), some (.int (nI g)), some (.int (nI q)), some (.int (nI j)), some (.int (nI j))], [])) ⟨dX7_put_21, dX7_put_22, dX7_put_23, trivial⟩ rfl ?_
  refine lp_putU X hD hAd hn σ gc hgc g j q hj hq ?_ (q - j) 0 (by omega)
  refine zw_run X (is := [(53, .iload_n 3, 1), (54, .istore 4, 2)]) (t' := (56, [some (.ref (ad 0)), some (.int (nI g)), some (.int (nI q)), some (.int (nI j)), some (.int (nI j))], [])) ⟨dX7_put_53, dX7_put_54, trivial⟩ rfl ?_
  refine lp_putD X hD hAd hn (zup σ j (q - j)) gc hgc g j q hj hq ?_ (j - q) 0 (by omega)
  refine zw_run X (is := [(84, .aload_n 0, 1)]) (t' := (85, [some (.ref (ad 0)), some (.int (nI g)), some (.int (nI q)), some (.int (nI j)), some (.int (nI (j - (j - q))))], [.ref (ad 0)])) ⟨dX7_put_84, trivial⟩ rfl ?_
  refine zw_getf X (i := 0) (by omega) zc_0 (C := RX7) (T := TX7) (Nf := 16) rfl zi_X7 1 (by decide) rfl zm_19 rfl dX7_put_85 ?_
  refine zw_run X (is := [(88, .iload_n 2, 1), (89, .iload_n 1, 1)]) (t' := (90, [some (.ref (ad 0)), some (.int (nI g)), some (.int (nI q)), some (.int (nI j)), some (.int (nI (j - (j - q))))], [.int (nI g), .int (nI q), .ref (ad 2)])) ⟨dX7_put_88, dX7_put_89, trivial⟩ rfl ?_
  refine zw_iast X hD hAd (i := 2) (by omega) (len := 8) (fun _ => zc_2) (j := q) rfl (by omega) (by decide) dX7_put_90 ?_
  refine zw_run X (is := [(91, .iload_n 3, 1)]) (t' := (92, [some (.ref (ad 0)), some (.int (nI g)), some (.int (nI q)), some (.int (nI j)), some (.int (nI (j - (j - q))))], [.int (nI j)])) ⟨dX7_put_91, trivial⟩ rfl ?_
  exact zw_iret X hr dX7_put_92 rfl rfl rfl

set_option maxHeartbeats 4000000 in
set_option maxRecDepth 100000 in
theorem c_put_bad {l : Launch} (hls : l.stackTraces = false) {D : va_G} {cy : Nat → ClassId} {wa : Nat → Nat} {N n : Nat} {ad : Nat → Nat} (hD : zD n ad) (hn : 40 ≤ n) (σ : zS) (gc : Nat) (hgc : gc ≤ 8) (e0 : σ 0 11 = nI gc) (g : Nat) (hg : g < gc)  (sz : Nat) : vx_Met l yX7_put (.code yX7_put cX7_put 5 (some .int) :: zB) (zRx 2) (zPc [.ref (ad 0), .int (nI g), .int (nI gc)] D cy wa N n ad σ sz) zNo (zXC "java/lang/IllegalArgumentException" D cy N n ad (σ) sz) 1 6 (zA n ad sz) := by
  refine z_metx (by decide) hls (List.forall_mem_cons.mpr ⟨rfl, (List.forall_mem_cons.mpr ⟨rfl, (List.forall_mem_cons.mpr ⟨rfl, (fun _ h => nomatch h)⟩)⟩)⟩) (Nat.le_of_ble_eq_true rfl) (fun p_ e_ s_ m_ below_ meth_ c_ hsz hr hno X => ?_)
  have X : zX p_ l s_ m_ [.ref (ad 0), .int (nI g), .int (nI gc)].toArray meth_ c_ cX7_put 5 RX7 D cy wa (zA n ad sz) := X
  have hAd : ∀ i, i < n → zA n ad sz (ad i) := fun i hi => Or.inl ⟨i, hi, rfl⟩
  refine zw_run X (is := [(0, .aload_n 0, 1), (1, .iload_n 1, 1)]) (t' := (2, [some (.ref (ad 0)), some (.int (nI g)), some (.int (nI gc)), none, none], [.int (nI g), .ref (ad 0)])) ⟨dX7_put_0, dX7_put_1, trivial⟩ rfl ?_
  refine zw_Vv X hAd (As := [.int (nI g)]) (rest := []) (d := 0) (i := 0) (by omega) zc_0 (q := (RX7, TX7, 16)) rfl ⟨zm_135, zm_136, zm_137, zm_2, zm_138, rfl, by decide, by decide, (show (parseMethodDescriptor yX7_needGuild.desc).map (fun d => d.parameters.length) = some 1 by decide +kernel)⟩ (fun sz => c_needGuild hls hD hn σ gc hgc e0 g hg sz) rfl rfl (Nat.le_of_ble_eq_true rfl) ⟨Nat.le_of_ble_eq_true rfl, Nat.le_of_ble_eq_true rfl⟩ ⟨Nat.zero_le _, Nat.zero_le _⟩ dX7_put_2 ?_
  refine zw_run X (is := [(5, .iload_n 2, 1), (6, .iconst 0, 1), (7, .aload_n 0, 1)]) (t' := (8, [some (.ref (ad 0)), some (.int (nI g)), some (.int (nI gc)), none, none], [.ref (ad 0), .int 0, .int (nI gc)])) ⟨dX7_put_5, dX7_put_6, dX7_put_7, trivial⟩ rfl ?_
  refine zw_getf X (i := 0) (by omega) zc_0 (C := RX7) (T := TX7) (Nf := 16) rfl zi_X7 11 (by decide) rfl zm_110 rfl dX7_put_8 ?_
  refine zw_run X (is := [(11, .iconst 1, 1), (12, .isub, 1)]) (t' := (13, [some (.ref (ad 0)), some (.int (nI g)), some (.int (nI gc)), none, none], [.int ((σ (0) 11) - 1), .int 0, .int (nI gc)])) ⟨dX7_put_11, dX7_put_12, trivial⟩ rfl ?_
  exact zw_So X hno hAd rfl (As := [.int (nI gc), .int 0, .int ((σ (0) 11) - 1)]) (rest := []) (d := 0) ⟨zm_114, zm_115, zm_2, zm_116, by decide, by decide, (show (parseMethodDescriptor yX7_needRange.desc).map (fun d => d.parameters.length) = some 3 by decide +kernel)⟩ (fun sz => c_needRange_hi hls hD hn σ (nI gc) 0 (σ 0 11 - 1) (nI_pos (by omega)) (by rw [e0, show nI gc - 1 = nI (gc - 1) from pk_sub (a := gc) (b := 1) (by omega)]; exact nI_ge (by omega) (by omega)) sz) rfl rfl (Nat.le_of_ble_eq_true rfl) ⟨Nat.le_of_ble_eq_true rfl, Nat.le_of_ble_eq_true rfl⟩ ⟨Nat.le_of_ble_eq_true rfl, Nat.le_of_ble_eq_true rfl⟩ dX7_put_13
