set_option maxHeartbeats 4000000 in
set_option maxRecDepth 100000 in
theorem c_X2i {l : Launch} (hls : l.stackTraces = false) {D : va_G} {cy : Nat → ClassId} {wa : Nat → Nat} (a sz : Nat) : Met l yX2_init (.code yX2_init cX2_init 1 none :: zB) (zRi 1 1 10) (zPu a 4 [.null, .int 0] D cy wa sz) (zQu (fun fs1 nw => ∃ q, fs1 = [.ref q, .int 0] ∧ nw = [(q, .inl (cy 2, 10, .inl (fun _ => 0)))]) a 4 D sz) 1 10 (zA1 a sz) := by
  refine z_metU (by decide) rfl hls (Nat.le_of_ble_eq_true rfl) (fun p_ e_ s_ m_ below_ meth_ c_ hsz hr hnm0 X hN => ?_)
  have X : zX p_ l s_ m_ [Value.ref a].toArray meth_ c_ cX2_init 1 RX2 D cy wa (zA1 a sz) := X
  refine zu_run X (is := [(0, .aload_n 0, 1)]) (t' := (1, [some (.ref (a))], [.ref (a)])) ⟨dX2_init_0, trivial⟩ rfl ?_
  refine zu_obj X zm_54 zm_15 zm_16 rfl (Nat.le_of_ble_eq_true rfl) (Nat.le_of_ble_eq_true rfl) dX2_init_1 ?_
  refine zu_run X (is := [(4, .aload_n 0, 1), (5, .bipush 10, 2)]) (t' := (7, [some (.ref (a))], [.int 10, .ref (a)])) ⟨dX2_init_4, dX2_init_5, trivial⟩ rfl ?_
  refine zu_newa X (atype := .char) (ty := .char) rfl (t0 := 2) rfl (fun _ _ h => h) zm_4 (n := 10) (N' := 10) (a0 := (10, .inl (fun _ => 0))) (fun _ => rfl) (by decide) (by decide +kernel) (Nat.le_of_ble_eq_true rfl) (Nat.le_of_ble_eq_true rfl) (Nat.le_of_ble_eq_true rfl) dX2_init_7 (fun q1 => ?_)
  refine zu_putF X hnm0 1 rfl (C := RX2) (T := TX2) (Nf := 2) rfl zi_X2 tyX2 tyX2_ok nmX2 0 (by decide) rfl rfl zm_55 rfl (ty := .array .char) (by decide +kernel) rfl rfl (Nat.le_of_ble_eq_true rfl) dX2_init_9 ?_
  refine zu_perm (List.perm_append_comm (l₁ := [_]) (l₂ := [_])) ?_
  exact zu_vret X hr dX2_init_12 rfl rfl (fun _ => ⟨_, rfl, rfl⟩)

set_option maxHeartbeats 4000000 in
set_option maxRecDepth 100000 in
theorem c_X6i {l : Launch} (hls : l.stackTraces = false) {D : va_G} {cy : Nat → ClassId} {wa : Nat → Nat} (a sz : Nat) : Met l yX6_init (.code yX6_init cX6_init 1 none :: zB) (zRi 1 0 0) (zPu a 8 [.int 0, .int 0, .int 0, .int 0, .int 0, .int 0, .int 0] D cy wa sz) (zQu (fun fs1 nw => nw = []) a 8 D sz) 0 0 (zA1 a sz) := by
  refine z_metU (by decide) rfl hls (Nat.le_of_ble_eq_true rfl) (fun p_ e_ s_ m_ below_ meth_ c_ hsz hr hnm0 X hN => ?_)
  have X : zX p_ l s_ m_ [Value.ref a].toArray meth_ c_ cX6_init 1 RX6 D cy wa (zA1 a sz) := X
  refine zu_run X (is := [(0, .aload_n 0, 1)]) (t' := (1, [some (.ref (a))], [.ref (a)])) ⟨dX6_init_0, trivial⟩ rfl ?_
  refine zu_obj X zm_50 zm_15 zm_16 rfl (Nat.le_of_ble_eq_true rfl) (Nat.le_of_ble_eq_true rfl) dX6_init_1 ?_
  refine zu_run X (is := [(4, .aload_n 0, 1), (5, .iconst (-1), 1)]) (t' := (6, [some (.ref (a))], [.int ((-1)), .ref (a)])) ⟨dX6_init_4, dX6_init_5, trivial⟩ rfl ?_
  refine zu_put X 0 rfl (C := RX6) (T := TX6) (Nf := 7) rfl zi_X6 tyX6 tyX6_ok nmX6 5 (by decide) rfl zm_51 rfl (ty := .int) (by decide +kernel) rfl rfl (Nat.le_of_ble_eq_true rfl) dX6_init_6 ?_
  exact zu_vret X hr dX6_init_9 rfl rfl (fun _ => rfl)

set_option maxHeartbeats 4000000 in
set_option maxRecDepth 100000 in
theorem c_X5i {l : Launch} (hls : l.stackTraces = false) {D : va_G} {cy : Nat → ClassId} {wa : Nat → Nat} (a sz : Nat) : Met l yX5_init (.code yX5_init cX5_init 1 none :: zB) (zRi 1 6 36) (zPu a 7 [.int 0, .int 0, .null, .null, .null, .null, .null, .null] D cy wa sz) (zQu (fun fs1 nw => nw = []) a 7 D sz) 6 36 (zA1 a sz) := by
  refine z_metU (by decide) rfl hls (Nat.le_of_ble_eq_true rfl) (fun p_ e_ s_ m_ below_ meth_ c_ hsz hr hnm0 X hN => ?_)
  have X : zX p_ l s_ m_ [Value.ref a].toArray meth_ c_ cX5_init 1 RX5 D cy wa (zA1 a sz) := X
  refine zu_run X (is := [(0, .aload_n 0, 1)]) (t' := (1, [some (.ref (a))], [.ref (a)])) ⟨dX5_init_0, trivial⟩ rfl ?_
  refine zu_obj X zm_66 zm_15 zm_16 rfl (Nat.le_of_ble_eq_true rfl) (Nat.le_of_ble_eq_true rfl) dX5_init_1 ?_
  refine zu_run X (is := [(4, .aload_n 0, 1), (5, .bipush 6, 2)]) (t' := (7, [some (.ref (a))], [.int 6, .ref (a)])) ⟨dX5_init_4, dX5_init_5, trivial⟩ rfl ?_
  refine zu_newa X (atype := .int) (ty := .int) rfl (t0 := 0) rfl (fun _ _ h => h) zm_3 (n := 6) (N' := 6) (a0 := (6, .inl (fun _ => 0))) (fun _ => rfl) (by decide) (by decide +kernel) (Nat.le_of_ble_eq_true rfl) (Nat.le_of_ble_eq_true rfl) (Nat.le_of_ble_eq_true rfl) dX5_init_7 (fun q1 => ?_)
  refine zu_putF X hnm0 1 rfl (C := RX5) (T := TX5) (Nf := 8) rfl zi_X5 tyX5 tyX5_ok nmX5 2 (by decide) rfl rfl zm_67 rfl (ty := .array .int) (by decide +kernel) rfl rfl (Nat.le_of_ble_eq_true rfl) dX5_init_9 ?_
  refine zu_run X (is := [(12, .aload_n 0, 1), (13, .bipush 6, 2)]) (t' := (15, [some (.ref (a))], [.int 6, .ref (a)])) ⟨dX5_init_12, dX5_init_13, trivial⟩ rfl ?_
  refine zu_newa X (atype := .int) (ty := .int) rfl (t0 := 0) rfl (fun _ _ h => h) zm_3 (n := 6) (N' := 6) (a0 := (6, .inl (fun _ => 0))) (fun _ => rfl) (by decide) (by decide +kernel) (Nat.le_of_ble_eq_true rfl) (Nat.le_of_ble_eq_true rfl) (Nat.le_of_ble_eq_true rfl) dX5_init_15 (fun q2 => ?_)
  refine zu_putF X hnm0 2 rfl (C := RX5) (T := TX5) (Nf := 8) rfl zi_X5 tyX5 tyX5_ok nmX5 3 (by decide) rfl rfl zm_68 rfl (ty := .array .int) (by decide +kernel) rfl rfl (Nat.le_of_ble_eq_true rfl) dX5_init_17 ?_
  refine zu_run X (is := [(20, .aload_n 0, 1), (21, .bipush 6, 2)]) (t' := (23, [some (.ref (a))], [.int 6, .ref (a)])) ⟨dX5_init_20, dX5_init_21, trivial⟩ rfl ?_
  refine zu_newa X (atype := .int) (ty := .int) rfl (t0 := 0) rfl (fun _ _ h => h) zm_3 (n := 6) (N' := 6) (a0 := (6, .inl (fun _ => 0))) (fun _ => rfl) (by decide) (by decide +kernel) (Nat.le_of_ble_eq_true rfl) (Nat.le_of_ble_eq_true rfl) (Nat.le_of_ble_eq_true rfl) dX5_init_23 (fun q3 => ?_)
  refine zu_putF X hnm0 3 rfl (C := RX5) (T := TX5) (Nf := 8) rfl zi_X5 tyX5 tyX5_ok nmX5 4 (by decide) rfl rfl zm_69 rfl (ty := .array .int) (by decide +kernel) rfl rfl (Nat.le_of_ble_eq_true rfl) dX5_init_25 ?_
  refine zu_run X (is := [(28, .aload_n 0, 1), (29, .bipush 6, 2)]) (t' := (31, [some (.ref (a))], [.int 6, .ref (a)])) ⟨dX5_init_28, dX5_init_29, trivial⟩ rfl ?_
  refine zu_newa X (atype := .int) (ty := .int) rfl (t0 := 0) rfl (fun _ _ h => h) zm_3 (n := 6) (N' := 6) (a0 := (6, .inl (fun _ => 0))) (fun _ => rfl) (by decide) (by decide +kernel) (Nat.le_of_ble_eq_true rfl) (Nat.le_of_ble_eq_true rfl) (Nat.le_of_ble_eq_true rfl) dX5_init_31 (fun q4 => ?_)
  refine zu_putF X hnm0 4 rfl (C := RX5) (T := TX5) (Nf := 8) rfl zi_X5 tyX5 tyX5_ok nmX5 5 (by decide) rfl rfl zm_70 rfl (ty := .array .int) (by decide +kernel) rfl rfl (Nat.le_of_ble_eq_true rfl) dX5_init_33 ?_
  refine zu_run X (is := [(36, .aload_n 0, 1), (37, .bipush 6, 2)]) (t' := (39, [some (.ref (a))], [.int 6, .ref (a)])) ⟨dX5_init_36, dX5_init_37, trivial⟩ rfl ?_
  refine zu_newa X (atype := .int) (ty := .int) rfl (t0 := 0) rfl (fun _ _ h => h) zm_3 (n := 6) (N' := 6) (a0 := (6, .inl (fun _ => 0))) (fun _ => rfl) (by decide) (by decide +kernel) (Nat.le_of_ble_eq_true rfl) (Nat.le_of_ble_eq_true rfl) (Nat.le_of_ble_eq_true rfl) dX5_init_39 (fun q5 => ?_)
  refine zu_putF X hnm0 5 rfl (C := RX5) (T := TX5) (Nf := 8) rfl zi_X5 tyX5 tyX5_ok nmX5 6 (by decide) rfl rfl zm_71 rfl (ty := .array .int) (by decide +kernel) rfl rfl (Nat.le_of_ble_eq_true rfl) dX5_init_41 ?_
  refine zu_run X (is := [(44, .aload_n 0, 1), (45, .bipush 6, 2)]) (t' := (47, [some (.ref (a))], [.int 6, .ref (a)])) ⟨dX5_init_44, dX5_init_45, trivial⟩ rfl ?_
  refine zu_newa X (atype := .char) (ty := .char) rfl (t0 := 2) rfl (fun _ _ h => h) zm_4 (n := 6) (N' := 6) (a0 := (6, .inl (fun _ => 0))) (fun _ => rfl) (by decide) (by decide +kernel) (Nat.le_of_ble_eq_true rfl) (Nat.le_of_ble_eq_true rfl) (Nat.le_of_ble_eq_true rfl) dX5_init_47 (fun q6 => ?_)
  refine zu_putF X hnm0 6 rfl (C := RX5) (T := TX5) (Nf := 8) rfl zi_X5 tyX5 tyX5_ok nmX5 7 (by decide) rfl rfl zm_72 rfl (ty := .array .char) (by decide +kernel) rfl rfl (Nat.le_of_ble_eq_true rfl) dX5_init_49 ?_
  refine zu_sub (ws' := [_]) (List.Sublist.cons _ (List.Sublist.cons _ (List.Sublist.cons _ (List.Sublist.cons _ (List.Sublist.cons _ (List.Sublist.cons _ (List.Sublist.refl _))))))) ?_
  exact zu_vret X hr dX5_init_52 rfl rfl (fun _ => rfl)

def zpl (i : Nat) : Nat → Int32 := fun j => if j < i then -1 else 0
theorem zpl_up (i : Nat) : upd (zpl i) i (-1) = zpl (i + 1) := by
  funext j
  unfold upd zpl
  by_cases h : j = i
  · subst h
    simp
  · by_cases h2 : j < i
    · simp [h, h2, Nat.lt_succ_of_lt h2]
    · simp [h, h2, show ¬ j < i + 1 by omega]

set_option maxHeartbeats 4000000 in
set_option maxRecDepth 100000 in
theorem lp_X4i {p : Program} {l : Launch} {e : Env} {R : Room} {s : State} {m : MethodId} {args : Array Value} {below : List Frame} {meth : Method} {c : Code} {D : va_G} {cy : Nat → ClassId} {wa : Nat → Nat} {A : Nat → Prop} {cells slots : Nat} {Q : State → Prop} (X : zX p l s m args meth c cX4_init 2 RX4 D cy wa A) (a q1 q2 : Nat) (kk : zUW p l e R s m args below meth c D A cells slots Q ([(q2, .inl (cy 1, 15, .inl (fun _ => 0))), (q1, .inl (cy 0, 8, .inl (zpl 8))), (a, .inr (6, [.int 0, .int 0, .int 0, .int 0, .int 0, .ref q1, .ref q2]))]) (41, [some (.ref a), some (.int (nI 8))], [])) : ∀ (d i : Nat), i + d = 8 → zUW p l e R s m args below meth c D A cells slots Q ([(q2, .inl (cy 1, 15, .inl (fun _ => 0))), (q1, .inl (cy 0, 8, .inl (zpl i))), (a, .inr (6, [.int 0, .int 0, .int 0, .int 0, .int 0, .ref q1, .ref q2]))]) (22, [some (.ref a), some (.int (nI i))], []) := by
  intro d
  induction d with
  | zero =>
    intro i hi
    obtain rfl : i = 8 := by omega
    refine zu_run X (is := [(22, .iload_n 1, 1), (23, .bipush 8, 2)]) (t' := (25, [some (.ref (a)), some (.int (nI 8))], [.int 8, .int (nI 8)])) ⟨dX4_init_22, dX4_init_23, trivial⟩ rfl ?_
    refine zu_icmp_ge X (tgt := 41) dX4_init_25 (by decide) (fun _ => ?_) (fun h_ => absurd (by decide) h_)
    exact kk
  | succ d ih =>
    intro i hi
    have hlt : i < 8 := by omega
    refine zu_run X (is := [(22, .iload_n 1, 1), (23, .bipush 8, 2)]) (t' := (25, [some (.ref (a)), some (.int (nI i))], [.int 8, .int (nI i)])) ⟨dX4_init_22, dX4_init_23, trivial⟩ rfl ?_
    refine zu_icmp_ge X (tgt := 41) dX4_init_25 (by decide) (fun h_ => absurd h_ (nI_ge (b := 8) hlt (by decide))) (fun _ => ?_)
    refine zu_run X (is := [(28, .aload_n 0, 1)]) (t' := (29, [some (.ref (a)), some (.int (nI i))], [.ref (a)])) ⟨dX4_init_28, trivial⟩ rfl ?_
    refine zu_getf X 2 rfl (C := RX4) (T := TX4) (Nf := 7) rfl zi_X4 5 (by decide) rfl zm_87 rfl dX4_init_29 ?_
    refine zu_run X (is := [(32, .iload_n 1, 1), (33, .iconst (-1), 1)]) (t' := (34, [some (.ref (a)), some (.int (nI i))], [.int ((-1)), .int (nI i), .ref (q1)])) ⟨dX4_init_32, dX4_init_33, trivial⟩ rfl ?_
    refine zu_iast X 1 rfl (vp_in_nI hlt (by decide)) dX4_init_34 ?_
    refine zu_run X (is := [(35, .iinc 1 1, 3)]) (t' := (38, [some (.ref (a)), some (.int (nI i + 1))], [])) ⟨dX4_init_35, trivial⟩ rfl ?_
    refine zu_go X (tgt := 22) dX4_init_38 (by decide) ?_
    rw [nI_clamp (by omega), zpl_up, nI_1]
    exact ih (i + 1) (by omega)

set_option maxHeartbeats 4000000 in
set_option maxRecDepth 100000 in
theorem c_X4i {l : Launch} (hls : l.stackTraces = false) {D : va_G} {cy : Nat → ClassId} {wa : Nat → Nat} (a sz : Nat) : Met l yX4_init (.code yX4_init cX4_init 2 none :: zB) (zRi 1 2 23) (zPu a 6 [.int 0, .int 0, .int 0, .int 0, .int 0, .null, .null] D cy wa sz) (zQu (fun fs1 nw => ∃ q1 q2, fs1 = [.int 0, .int 0, .int 0, .int 0, .int 0, .ref q1, .ref q2] ∧ nw = [(q2, .inl (cy 1, 15, .inl (fun _ => 0))), (q1, .inl (cy 0, 8, .inl (zpl 8)))]) a 6 D sz) 2 23 (zA1 a sz) := by
  refine z_metU (by decide) rfl hls (Nat.le_of_ble_eq_true rfl) (fun p_ e_ s_ m_ below_ meth_ c_ hsz hr hnm0 X hN => ?_)
  have X : zX p_ l s_ m_ [Value.ref a].toArray meth_ c_ cX4_init 2 RX4 D cy wa (zA1 a sz) := X
  refine zu_run X (is := [(0, .aload_n 0, 1)]) (t' := (1, [some (.ref (a)), none], [.ref (a)])) ⟨dX4_init_0, trivial⟩ rfl ?_
  refine zu_obj X zm_86 zm_15 zm_16 rfl (Nat.le_of_ble_eq_true rfl) (Nat.le_of_ble_eq_true rfl) dX4_init_1 ?_
  refine zu_run X (is := [(4, .aload_n 0, 1), (5, .bipush 8, 2)]) (t' := (7, [some (.ref (a)), none], [.int 8, .ref (a)])) ⟨dX4_init_4, dX4_init_5, trivial⟩ rfl ?_
  refine zu_newa X (atype := .int) (ty := .int) rfl (t0 := 0) rfl (fun _ _ h => h) zm_3 (n := 8) (N' := 8) (a0 := (8, .inl (fun _ => 0))) (fun _ => rfl) (by decide) (by decide +kernel) (Nat.le_of_ble_eq_true rfl) (Nat.le_of_ble_eq_true rfl) (Nat.le_of_ble_eq_true rfl) dX4_init_7 (fun q1 => ?_)
  refine zu_putF X hnm0 1 rfl (C := RX4) (T := TX4) (Nf := 7) rfl zi_X4 tyX4 tyX4_ok nmX4 5 (by decide) rfl rfl zm_87 rfl (ty := .array .int) (by decide +kernel) rfl rfl (Nat.le_of_ble_eq_true rfl) dX4_init_9 ?_
  refine zu_run X (is := [(12, .aload_n 0, 1), (13, .bipush 15, 2)]) (t' := (15, [some (.ref (a)), none], [.int 15, .ref (a)])) ⟨dX4_init_12, dX4_init_13, trivial⟩ rfl ?_
  refine zu_newa X (atype := .boolean) (ty := .boolean) rfl (t0 := 1) rfl (fun _ _ h => h) zm_5 (n := 15) (N' := 15) (a0 := (15, .inl (fun _ => 0))) (fun _ => rfl) (by decide) (by decide +kernel) (Nat.le_of_ble_eq_true rfl) (Nat.le_of_ble_eq_true rfl) (Nat.le_of_ble_eq_true rfl) dX4_init_15 (fun q2 => ?_)
  refine zu_putF X hnm0 2 rfl (C := RX4) (T := TX4) (Nf := 7) rfl zi_X4 tyX4 tyX4_ok nmX4 6 (by decide) rfl rfl zm_88 rfl (ty := .array .boolean) (by decide +kernel) rfl rfl (Nat.le_of_ble_eq_true rfl) dX4_init_17 ?_
  refine zu_run X (is := [(20, .iconst 0, 1), (21, .istore_n 1, 1)]) (t' := (22, [some (.ref (a)), some (.int 0)], [])) ⟨dX4_init_20, dX4_init_21, trivial⟩ rfl ?_
  refine lp_X4i X a q1 q2 ?_ 8 0 (by decide)
  refine zu_perm (List.perm_append_comm (l₁ := [_]) (l₂ := [_, _])) ?_
  exact zu_vret X hr dX4_init_41 rfl rfl (fun _ => ⟨q1, q2, rfl, rfl⟩)

set_option maxHeartbeats 4000000 in
set_option maxRecDepth 100000 in
theorem c_X1i {l : Launch} (hls : l.stackTraces = false) {D : va_G} {cy : Nat → ClassId} {wa : Nat → Nat} (a sz : Nat) : Met l yX1_init (.code yX1_init cX1_init 1 none :: zB) (zRi 2 3 30) (zPu a 3 [.int 0, .int 0, .int 0, .int 0, .int 0, .int 0, .null] D cy wa sz) (zQu (fun fs1 nw => ∃ q q1 q2, fs1 = [.int 0, .int 0, .int 0, .int 3, .int 3, .int 5, .ref q] ∧ nw = [(q2, .inl (cy 1, 15, .inl (fun _ => 0))), (q1, .inl (cy 0, 8, .inl (zpl 8))), (q, .inr (6, [.int 0, .int 0, .int 0, .int 0, .int 0, .ref q1, .ref q2]))]) a 3 D sz) 3 30 (zA1 a sz) := by
  refine z_metU (by decide) rfl hls (Nat.le_of_ble_eq_true rfl) (fun p_ e_ s_ m_ below_ meth_ c_ hsz hr hnm0 X hN => ?_)
  have X : zX p_ l s_ m_ [Value.ref a].toArray meth_ c_ cX1_init 1 RX1 D cy wa (zA1 a sz) := X
  refine zu_run X (is := [(0, .aload_n 0, 1)]) (t' := (1, [some (.ref (a))], [.ref (a)])) ⟨dX1_init_0, trivial⟩ rfl ?_
  refine zu_obj X zm_75 zm_15 zm_16 rfl (Nat.le_of_ble_eq_true rfl) (Nat.le_of_ble_eq_true rfl) dX1_init_1 ?_
  refine zu_run X (is := [(4, .aload_n 0, 1), (5, .iconst 3, 1)]) (t' := (6, [some (.ref (a))], [.int 3, .ref (a)])) ⟨dX1_init_4, dX1_init_5, trivial⟩ rfl ?_
  refine zu_put X 0 rfl (C := RX1) (T := TX1) (Nf := 7) rfl zi_X1 tyX1 tyX1_ok nmX1 3 (by decide) rfl zm_76 rfl (ty := .int) (by decide +kernel) rfl rfl (Nat.le_of_ble_eq_true rfl) dX1_init_6 ?_
  refine zu_run X (is := [(9, .aload_n 0, 1), (10, .iconst 3, 1)]) (t' := (11, [some (.ref (a))], [.int 3, .ref (a)])) ⟨dX1_init_9, dX1_init_10, trivial⟩ rfl ?_
  refine zu_put X 0 rfl (C := RX1) (T := TX1) (Nf := 7) rfl zi_X1 tyX1 tyX1_ok nmX1 4 (by decide) rfl zm_77 rfl (ty := .int) (by decide +kernel) rfl rfl (Nat.le_of_ble_eq_true rfl) dX1_init_11 ?_
  refine zu_run X (is := [(14, .aload_n 0, 1), (15, .iconst 5, 1)]) (t' := (16, [some (.ref (a))], [.int 5, .ref (a)])) ⟨dX1_init_14, dX1_init_15, trivial⟩ rfl ?_
  refine zu_put X 0 rfl (C := RX1) (T := TX1) (Nf := 7) rfl zi_X1 tyX1 tyX1_ok nmX1 5 (by decide) rfl zm_78 rfl (ty := .int) (by decide +kernel) rfl rfl (Nat.le_of_ble_eq_true rfl) dX1_init_16 ?_
  refine zu_run X (is := [(19, .aload_n 0, 1)]) (t' := (20, [some (.ref (a))], [.ref (a)])) ⟨dX1_init_19, trivial⟩ rfl ?_
  refine zu_new X (ci := 6) (fs := [.int 0, .int 0, .int 0, .int 0, .int 0, .null, .null]) rfl zi_X4 tyX4 tyX4_ok zm_79 zm_80 zm_81 (by decide +kernel) (Nat.le_of_ble_eq_true rfl) (Nat.le_of_ble_eq_true rfl) dX1_init_20 (fun q1 => ?_)
  refine zu_run X (is := [(23, .dup, 1)]) (t' := (24, [some (.ref (a))], [.ref (q1), .ref (q1), .ref (a)])) ⟨dX1_init_23, trivial⟩ rfl ?_
  refine zu_callI X hN 0 rfl (rm := zRi 1 2 23) ⟨zm_83, zm_84, zm_81, zm_85, rfl, by decide, by decide, (by decide +kernel)⟩ (fun sz => c_X4i hls q1 sz) ⟨rfl, rfl⟩ rfl (Nat.le_of_ble_eq_true rfl) ⟨Nat.le_of_ble_eq_true rfl, Nat.le_of_ble_eq_true rfl⟩ ⟨Nat.le_of_ble_eq_true rfl, Nat.le_of_ble_eq_true rfl⟩ dX1_init_24 (fun fs1 nw hP => ?_)
  obtain ⟨q2, q3, rfl, rfl⟩ := hP
  refine zu_putF X hnm0 3 rfl (C := RX1) (T := TX1) (Nf := 7) rfl zi_X1 tyX1 tyX1_ok nmX1 6 (by decide) rfl rfl zm_82 rfl (ty := .object "Wagonplay$Play") (by decide +kernel) rfl rfl (Nat.le_of_ble_eq_true rfl) dX1_init_27 ?_
  refine zu_perm (List.perm_append_comm (l₁ := [_]) (l₂ := [_, _, _])) ?_
  exact zu_vret X hr dX1_init_30 rfl rfl (fun _ => ⟨_, _, _, rfl, rfl⟩)

set_option maxHeartbeats 4000000 in
set_option maxRecDepth 100000 in
theorem lp_X3i {p : Program} {l : Launch} {e : Env} {R : Room} {s : State} {m : MethodId} {args : Array Value} {below : List Frame} {meth : Method} {c : Code} {D : va_G} {cy : Nat → ClassId} {wa : Nat → Nat} {A : Nat → Prop} {Q : State → Prop} (hls : l.stackTraces = false) (X : zX p l s m args meth c cX3_init 2 RX3 D cy wa A) (hN : zN s) {cA : ClassId} (hK : va_K D vwCl (zt cy ++ [(cA, .object RX5)]) s) (hR : 2 ≤ R.frames ∧ 80 ≤ R.locals) (C1 S1 : Nat) (hC : C1 ≤ R.cells ∧ S1 ≤ R.slots) (a q1 : Nat) (kk : ∀ f, zUW p l e R s m args below meth c D A C1 S1 Q ([(q1, .inl (cA, 8, .inr (.inr (.inr (.inr f))))), (a, .inr (5, [.ref q1, .int 0, .int 0]))]) (40, [some (.ref a), some (.int (nI 8))], [])) : ∀ (d i : Nat) (f : Nat → Option Nat) (cells slots : Nat), i + d = 8 → cells + 7 * d ≤ C1 → slots + 44 * d ≤ S1 → zUW p l e R s m args below meth c D A cells slots Q ([(q1, .inl (cA, 8, .inr (.inr (.inr (.inr f))))), (a, .inr (5, [.ref q1, .int 0, .int 0]))]) (15, [some (.ref a), some (.int (nI i))], []) := by
  intro d
  induction d with
  | zero =>
    intro i f cells slots hi h1 h2
    obtain rfl : i = 8 := by omega
    refine zu_widen (k := C1) (w := S1) (by omega) (by omega) ?_
    refine zu_run X (is := [(15, .iload_n 1, 1), (16, .bipush 8, 2)]) (t' := (18, [some (.ref (a)), some (.int (nI 8))], [.int 8, .int (nI 8)])) ⟨dX3_init_15, dX3_init_16, trivial⟩ rfl ?_
    refine zu_icmp_ge X (tgt := 40) dX3_init_18 (by decide) (fun _ => ?_) (fun h_ => absurd (by decide) h_)
    exact kk f
  | succ d ih =>
    intro i f cells slots hi h1 h2
    have hlt : i < 8 := by omega
    refine zu_run X (is := [(15, .iload_n 1, 1), (16, .bipush 8, 2)]) (t' := (18, [some (.ref (a)), some (.int (nI i))], [.int 8, .int (nI i)])) ⟨dX3_init_15, dX3_init_16, trivial⟩ rfl ?_
    refine zu_icmp_ge X (tgt := 40) dX3_init_18 (by decide) (fun h_ => absurd h_ (nI_ge (b := 8) hlt (by decide))) (fun _ => ?_)
    refine zu_run X (is := [(21, .aload_n 0, 1)]) (t' := (22, [some (.ref (a)), some (.int (nI i))], [.ref (a)])) ⟨dX3_init_21, trivial⟩ rfl ?_
    refine zu_getf X 1 rfl (C := RX3) (T := TX3) (Nf := 3) rfl zi_X3 0 (by decide) rfl zm_61 rfl dX3_init_22 ?_
    refine zu_run X (is := [(25, .iload_n 1, 1)]) (t' := (26, [some (.ref (a)), some (.int (nI i))], [.int (nI i), .ref (q1)])) ⟨dX3_init_25, trivial⟩ rfl ?_
    refine zu_new X (ci := 7) (fs := [.int 0, .int 0, .null, .null, .null, .null, .null, .null]) rfl zi_X5 tyX5 tyX5_ok zm_60 zm_62 zm_63 (by decide +kernel) (by omega) (by omega) dX3_init_26 (fun q11 => ?_)
    refine zu_run X (is := [(29, .dup, 1)]) (t' := (30, [some (.ref (a)), some (.int (nI i))], [.ref (q11), .ref (q11), .int (nI i), .ref (q1)])) ⟨dX3_init_29, trivial⟩ rfl ?_
    refine zu_callN X hN hN.2.2.1 0 rfl (rm := zRi 1 6 36) ⟨zm_64, zm_63, zm_65, rfl, by decide, by decide, (by decide +kernel)⟩ (fun sz => c_X5i hls q11 sz) ⟨rfl, rfl⟩ rfl (Nat.le_of_ble_eq_true rfl) ⟨by show (1 : Nat) + 1 ≤ _; omega, by show 8 + (1 + 11) + 40 * 1 ≤ _; omega⟩ ⟨by omega, by omega⟩ dX3_init_30 (fun fs1 nw hP => ?_)
    subst hP
    refine zu_ast X hK 1 6 0 7 rfl rfl rfl (r := (RX5, TX5, 8)) rfl (vp_in_nI hlt (by decide)) dX3_init_33 ?_
    refine zu_run X (is := [(34, .iinc 1 1, 3)]) (t' := (37, [some (.ref (a)), some (.int (nI i + 1))], [])) ⟨dX3_init_34, trivial⟩ rfl ?_
    refine zu_go X (tgt := 15) dX3_init_37 (by decide) ?_
    refine zu_sub (List.sublist_cons_self _ _) ?_
    rw [nI_1]
    exact ih (i + 1) _ _ _ (by omega) (by omega) (by omega)

set_option maxHeartbeats 4000000 in
set_option maxRecDepth 100000 in
theorem c_X3i {l : Launch} (hls : l.stackTraces = false) {D : va_G} {cy : Nat → ClassId} {wa : Nat → Nat} (a sz : Nat) : Met l yX3_init (.code yX3_init cX3_init 2 none :: zB) (zRi 2 57 360) (zPu a 5 [.null, .int 0, .int 0] D cy wa sz) (zQu (fun fs1 nw => nw = []) a 5 D sz) 57 360 (zA1 a sz) := by
  refine z_metU (by decide) rfl hls (Nat.le_of_ble_eq_true rfl) (fun p_ e_ s_ m_ below_ meth_ c_ hsz hr hnm0 X hN => ?_)
  have X : zX p_ l s_ m_ [Value.ref a].toArray meth_ c_ cX3_init 2 RX3 D cy wa (zA1 a sz) := X
  refine zu_run X (is := [(0, .aload_n 0, 1)]) (t' := (1, [some (.ref (a)), none], [.ref (a)])) ⟨dX3_init_0, trivial⟩ rfl ?_
  refine zu_obj X zm_59 zm_15 zm_16 rfl (Nat.le_of_ble_eq_true rfl) (Nat.le_of_ble_eq_true rfl) dX3_init_1 ?_
  refine zu_run X (is := [(4, .aload_n 0, 1), (5, .bipush 8, 2)]) (t' := (7, [some (.ref (a)), none], [.int 8, .ref (a)])) ⟨dX3_init_4, dX3_init_5, trivial⟩ rfl ?_
  refine zu_newq X (C := RX5) zm_60 hN.2.2.2.2.2.1 (N' := 8) (by decide) (by decide +kernel) (Nat.le_of_ble_eq_true rfl) (Nat.le_of_ble_eq_true rfl) (Nat.le_of_ble_eq_true rfl) dX3_init_7 (fun q1 cA hK => ?_)
  refine zu_putF X hnm0 1 rfl (C := RX3) (T := TX3) (Nf := 3) rfl zi_X3 tyX3 tyX3_ok nmX3 0 (by decide) rfl rfl zm_61 rfl (ty := .array (.object "Wagonplay$Show")) (by decide +kernel) rfl rfl (Nat.le_of_ble_eq_true rfl) dX3_init_10 ?_
  refine zu_run X (is := [(13, .iconst 0, 1), (14, .istore_n 1, 1)]) (t' := (15, [some (.ref (a)), some (.int 0)], [])) ⟨dX3_init_13, dX3_init_14, trivial⟩ rfl ?_
  refine lp_X3i hls X hN hK ⟨Nat.le_of_ble_eq_true rfl, Nat.le_of_ble_eq_true rfl⟩ 57 360 ⟨Nat.le_refl _, Nat.le_refl _⟩ a q1 (fun f => ?_) 8 0 _ _ _ (by decide) (by decide) (by decide)
  refine zu_sub (ws' := [_]) (List.sublist_cons_self _ _) ?_
  exact zu_vret X hr dX3_init_40 rfl rfl (fun _ => rfl)

set_option maxHeartbeats 4000000 in
set_option maxRecDepth 100000 in
theorem lp_X0i {p : Program} {l : Launch} {e : Env} {R : Room} {s : State} {m : MethodId} {args : Array Value} {below : List Frame} {meth : Method} {c : Code} {D : va_G} {cy : Nat → ClassId} {wa : Nat → Nat} {A : Nat → Prop} {Q : State → Prop} (hls : l.stackTraces = false) (X : zX p l s m args meth c cX0_init 2 RX0 D cy wa A) (hN : zN s) {cA : ClassId} (hK : va_K D vwCl (zt cy ++ [(cA, .object RX6)]) s) (hR : 2 ≤ R.frames ∧ 80 ≤ R.locals) (C1 S1 : Nat) (hC : C1 ≤ R.cells ∧ S1 ≤ R.slots) (a q1 q2 : Nat) (kk : ∀ f, zUW p l e R s m args below meth c D A C1 S1 Q ([(q2, .inl (cy 1, 24, .inl (fun _ => 0))), (q1, .inl (cA, 6, .inr (.inr (.inr (.inr f))))), (a, .inr (2, [.ref q1, .ref q2, .int 0]))]) (48, [some (.ref a), some (.int (nI 6))], [])) : ∀ (d i : Nat) (f : Nat → Option Nat) (cells slots : Nat), i + d = 6 → cells + 1 * d ≤ C1 → slots + 7 * d ≤ S1 → zUW p l e R s m args below meth c D A cells slots Q ([(q2, .inl (cy 1, 24, .inl (fun _ => 0))), (q1, .inl (cA, 6, .inr (.inr (.inr (.inr f))))), (a, .inr (2, [.ref q1, .ref q2, .int 0]))]) (23, [some (.ref a), some (.int (nI i))], []) := by
  intro d
  induction d with
  | zero =>
    intro i f cells slots hi h1 h2
    obtain rfl : i = 6 := by omega
    refine zu_widen (k := C1) (w := S1) (by omega) (by omega) ?_
    refine zu_run X (is := [(23, .iload_n 1, 1), (24, .bipush 6, 2)]) (t' := (26, [some (.ref (a)), some (.int (nI 6))], [.int 6, .int (nI 6)])) ⟨dX0_init_23, dX0_init_24, trivial⟩ rfl ?_
    refine zu_icmp_ge X (tgt := 48) dX0_init_26 (by decide) (fun _ => ?_) (fun h_ => absurd (by decide) h_)
    exact kk f
  | succ d ih =>
    intro i f cells slots hi h1 h2
    have hlt : i < 6 := by omega
    refine zu_run X (is := [(23, .iload_n 1, 1), (24, .bipush 6, 2)]) (t' := (26, [some (.ref (a)), some (.int (nI i))], [.int 6, .int (nI i)])) ⟨dX0_init_23, dX0_init_24, trivial⟩ rfl ?_
    refine zu_icmp_ge X (tgt := 48) dX0_init_26 (by decide) (fun h_ => absurd h_ (nI_ge (b := 6) hlt (by decide))) (fun _ => ?_)
    refine zu_run X (is := [(29, .aload_n 0, 1)]) (t' := (30, [some (.ref (a)), some (.int (nI i))], [.ref (a)])) ⟨dX0_init_29, trivial⟩ rfl ?_
    refine zu_getf X 2 rfl (C := RX0) (T := TX0) (Nf := 3) rfl zi_X0 0 (by decide) rfl zm_44 rfl dX0_init_30 ?_
    refine zu_run X (is := [(33, .iload_n 1, 1)]) (t' := (34, [some (.ref (a)), some (.int (nI i))], [.int (nI i), .ref (q1)])) ⟨dX0_init_33, trivial⟩ rfl ?_
    refine zu_new X (ci := 8) (fs := [.int 0, .int 0, .int 0, .int 0, .int 0, .int 0, .int 0]) rfl zi_X6 tyX6 tyX6_ok zm_43 zm_46 zm_47 (by decide +kernel) (by omega) (by omega) dX0_init_34 (fun q11 => ?_)
    refine zu_run X (is := [(37, .dup, 1)]) (t' := (38, [some (.ref (a)), some (.int (nI i))], [.ref (q11), .ref (q11), .int (nI i), .ref (q1)])) ⟨dX0_init_37, trivial⟩ rfl ?_
    refine zu_callN X hN hN.1 0 rfl (rm := zRi 1 0 0) ⟨zm_48, zm_47, zm_49, rfl, by decide, by decide, (by decide +kernel)⟩ (fun sz => c_X6i hls q11 sz) ⟨rfl, rfl⟩ rfl (Nat.le_of_ble_eq_true rfl) ⟨by show (1 : Nat) + 1 ≤ _; omega, by show 8 + (1 + 11) + 40 * 1 ≤ _; omega⟩ ⟨by omega, by omega⟩ dX0_init_38 (fun fs1 nw hP => ?_)
    subst hP
    refine zu_ast X hK 2 6 0 8 rfl rfl rfl (r := (RX6, TX6, 7)) rfl (vp_in_nI hlt (by decide)) dX0_init_41 ?_
    refine zu_run X (is := [(42, .iinc 1 1, 3)]) (t' := (45, [some (.ref (a)), some (.int (nI i + 1))], [])) ⟨dX0_init_42, trivial⟩ rfl ?_
    refine zu_go X (tgt := 23) dX0_init_45 (by decide) ?_
    refine zu_sub (List.sublist_cons_self _ _) ?_
    rw [nI_1]
    exact ih (i + 1) _ _ _ (by omega) (by omega) (by omega)

set_option maxHeartbeats 4000000 in
set_option maxRecDepth 100000 in
theorem c_X0i {l : Launch} (hls : l.stackTraces = false) {D : va_G} {cy : Nat → ClassId} {wa : Nat → Nat} (a sz : Nat) : Met l yX0_init (.code yX0_init cX0_init 2 none :: zB) (zRi 2 8 72) (zPu a 2 [.null, .null, .int 0] D cy wa sz) (zQu (fun fs1 nw => ∃ q1 q2, fs1 = [.ref q1, .ref q2, .int 0] ∧ nw = []) a 2 D sz) 8 72 (zA1 a sz) := by
  refine z_metU (by decide) rfl hls (Nat.le_of_ble_eq_true rfl) (fun p_ e_ s_ m_ below_ meth_ c_ hsz hr hnm0 X hN => ?_)
  have X : zX p_ l s_ m_ [Value.ref a].toArray meth_ c_ cX0_init 2 RX0 D cy wa (zA1 a sz) := X
  refine zu_run X (is := [(0, .aload_n 0, 1)]) (t' := (1, [some (.ref (a)), none], [.ref (a)])) ⟨dX0_init_0, trivial⟩ rfl ?_
  refine zu_obj X zm_42 zm_15 zm_16 rfl (Nat.le_of_ble_eq_true rfl) (Nat.le_of_ble_eq_true rfl) dX0_init_1 ?_
  refine zu_run X (is := [(4, .aload_n 0, 1), (5, .bipush 6, 2)]) (t' := (7, [some (.ref (a)), none], [.int 6, .ref (a)])) ⟨dX0_init_4, dX0_init_5, trivial⟩ rfl ?_
  refine zu_newq X (C := RX6) zm_43 hN.2.2.2.2.2.2 (N' := 6) (by decide) (by decide +kernel) (Nat.le_of_ble_eq_true rfl) (Nat.le_of_ble_eq_true rfl) (Nat.le_of_ble_eq_true rfl) dX0_init_7 (fun q1 cA hK => ?_)
  refine zu_putF X hnm0 1 rfl (C := RX0) (T := TX0) (Nf := 3) rfl zi_X0 tyX0 tyX0_ok nmX0 0 (by decide) rfl rfl zm_44 rfl (ty := .array (.object "Wagonplay$Station")) (by decide +kernel) rfl rfl (Nat.le_of_ble_eq_true rfl) dX0_init_10 ?_
  refine zu_run X (is := [(13, .aload_n 0, 1), (14, .bipush 24, 2)]) (t' := (16, [some (.ref (a)), none], [.int 24, .ref (a)])) ⟨dX0_init_13, dX0_init_14, trivial⟩ rfl ?_
  refine zu_newa X (atype := .boolean) (ty := .boolean) rfl (t0 := 1) rfl (fun _ _ h => h) zm_5 (n := 24) (N' := 24) (a0 := (24, .inl (fun _ => 0))) (fun _ => rfl) (by decide) (by decide +kernel) (Nat.le_of_ble_eq_true rfl) (Nat.le_of_ble_eq_true rfl) (Nat.le_of_ble_eq_true rfl) dX0_init_16 (fun q2 => ?_)
  refine zu_putF X hnm0 2 rfl (C := RX0) (T := TX0) (Nf := 3) rfl zi_X0 tyX0 tyX0_ok nmX0 1 (by decide) rfl rfl zm_45 rfl (ty := .array .boolean) (by decide +kernel) rfl rfl (Nat.le_of_ble_eq_true rfl) dX0_init_18 ?_
  refine zu_run X (is := [(21, .iconst 0, 1), (22, .istore_n 1, 1)]) (t' := (23, [some (.ref (a)), some (.int 0)], [])) ⟨dX0_init_21, dX0_init_22, trivial⟩ rfl ?_
  refine lp_X0i hls X hN hK ⟨Nat.le_of_ble_eq_true rfl, Nat.le_of_ble_eq_true rfl⟩ 8 72 ⟨Nat.le_refl _, Nat.le_refl _⟩ a q1 q2 (fun f => ?_) 6 0 _ _ _ (by decide) (by decide) (by decide)
  refine zu_sub (ws' := [_]) (List.Sublist.cons _ (List.sublist_cons_self _ _)) ?_
  exact zu_vret X hr dX0_init_48 rfl rfl (fun _ => ⟨_, _, rfl, rfl⟩)
