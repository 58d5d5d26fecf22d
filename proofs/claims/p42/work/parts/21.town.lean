/-! Wagonplay's own constructor. -/
def zgp (cy : Nat → ClassId) (r : Nat → Nat) : Nat → va_W
  | 0 => []
  | k + 1 => [(r (4 * k + 3), .inl (cy 1, 15, .inl (fun _ => 0))), (r (4 * k + 2), .inl (cy 0, 8, .inl (zpl 8))), (r (4 * k + 1), .inr (6, [.int 0, .int 0, .int 0, .int 0, .int 0, .ref (r (4 * k + 2)), .ref (r (4 * k + 3))])), (r (4 * k), .inr (3, [.int 0, .int 0, .int 0, .int 3, .int 3, .int 5, .ref (r (4 * k + 1))]))] ++ zgp cy r k
def zga (r : Nat → Nat) (k : Nat) : Nat → Option Nat := fun j => if j < k then some (r (4 * j)) else none
def zrr (r : Nat → Nat) (k g q q1 q2 : Nat) : Nat → Nat := fun t => if t = 4 * k then g else if t = 4 * k + 1 then q else if t = 4 * k + 2 then q1 else if t = 4 * k + 3 then q2 else r t
theorem zrr_lt {r : Nat → Nat} {k g q q1 q2 t : Nat} (h : t < 4 * k) : zrr r k g q q1 q2 t = r t := by
  unfold zrr
  rw [if_neg (by omega), if_neg (by omega), if_neg (by omega), if_neg (by omega)]
theorem zgp_lt (cy : Nat → ClassId) {r r' : Nat → Nat} : ∀ k, (∀ t, t < 4 * k → r' t = r t) → zgp cy r' k = zgp cy r k
  | 0, _ => rfl
  | k + 1, h => by
    unfold zgp
    rw [h (4 * k) (by omega), h (4 * k + 1) (by omega), h (4 * k + 2) (by omega), h (4 * k + 3) (by omega), zgp_lt cy k (fun t ht => h t (by omega))]
theorem zgp_step (cy : Nat → ClassId) (r : Nat → Nat) (k g q q1 q2 : Nat) : zgp cy (zrr r k g q q1 q2) (k + 1) = [(q2, .inl (cy 1, 15, .inl (fun _ => 0))), (q1, .inl (cy 0, 8, .inl (zpl 8))), (q, .inr (6, [.int 0, .int 0, .int 0, .int 0, .int 0, .ref q1, .ref q2])), (g, .inr (3, [.int 0, .int 0, .int 0, .int 3, .int 3, .int 5, .ref q]))] ++ zgp cy r k := by
  have h0 : zrr r k g q q1 q2 (4 * k) = g := by unfold zrr; rw [if_pos rfl]
  have h1 : zrr r k g q q1 q2 (4 * k + 1) = q := by unfold zrr; rw [if_neg (by omega), if_pos rfl]
  have h2 : zrr r k g q q1 q2 (4 * k + 2) = q1 := by unfold zrr; rw [if_neg (by omega), if_neg (by omega), if_pos rfl]
  have h3 : zrr r k g q q1 q2 (4 * k + 3) = q2 := by unfold zrr; rw [if_neg (by omega), if_neg (by omega), if_neg (by omega), if_pos rfl]
  show [_, _, _, _] ++ zgp cy (zrr r k g q q1 q2) k = _
  rw [h0, h1, h2, h3, zgp_lt cy k (fun t ht => zrr_lt ht)]
theorem zga_up (r : Nat → Nat) (k g q q1 q2 : Nat) : va_up (zga r k) k (some g) = zga (zrr r k g q q1 q2) (k + 1) := by
  funext j
  unfold zga
  by_cases h : j = k
  · subst h
    rw [va_up_self, if_pos (by omega)]
    unfold zrr
    rw [if_pos rfl]
  · rw [va_up_ne _ _ h]
    by_cases h2 : j < k
    · rw [if_pos h2, if_pos (by omega), zrr_lt (by omega)]
    · rw [if_neg h2, if_neg (by omega)]

set_option maxHeartbeats 4000000 in
set_option maxRecDepth 100000 in
theorem lp_X7i {p : Program} {l : Launch} {e : Env} {R : Room} {s : State} {m : MethodId} {args : Array Value} {below : List Frame} {meth : Method} {c : Code} {D : va_G} {cy : Nat → ClassId} {wa : Nat → Nat} {A : Nat → Prop} {Q : State → Prop} (hls : l.stackTraces = false) (X : zX p l s m args meth c cX7_init 2 RX7 D cy wa A) (hN : zN s) (hR : 3 ≤ R.frames ∧ 120 ≤ R.locals) (C1 S1 : Nat) (hC : C1 ≤ R.cells ∧ S1 ≤ R.slots) (a h1 h2 h3 h4 h5 h6 h7 t1 t2 t3 t4 u1 u2 : Nat) (kk : ∀ r, zUW p l e R s m args below meth c D A C1 S1 Q ([(h6, .inl (cy 0, 10, .inl (fun _ => 0))), (h7, .inl (cy 1, 5, .inl (fun _ => 0))), (h5, .inl (cy 2, 10, .inl (fun _ => 0))), (h4, .inr (4, [.ref h5, .int 0])), (h3, .inr (2, [.ref u1, .ref u2, .int 0])), (h2, .inl (cy 0, 8, .inl (fun _ => 0))), (h1, .inl (cy 3, 8, .inr (.inr (.inr (.inr (zga r 8)))))), (a, .inr (9, [.ref h1, .ref h2, .ref h3, .ref h4, .ref h7, .ref h6, .ref t1, .ref t2, .ref t3, .ref t4, .int 0, .int 0, .int 0, .int 0, .int 0, .int 0]))] ++ zgp cy r 8) (121, [some (.ref a), some (.int (nI 8))], [])) : ∀ (d k : Nat) (r : Nat → Nat) (cells slots : Nat), k + d = 8 → cells + 4 * d ≤ C1 → slots + 37 * d ≤ S1 → zUW p l e R s m args below meth c D A cells slots Q ([(h6, .inl (cy 0, 10, .inl (fun _ => 0))), (h7, .inl (cy 1, 5, .inl (fun _ => 0))), (h5, .inl (cy 2, 10, .inl (fun _ => 0))), (h4, .inr (4, [.ref h5, .int 0])), (h3, .inr (2, [.ref u1, .ref u2, .int 0])), (h2, .inl (cy 0, 8, .inl (fun _ => 0))), (h1, .inl (cy 3, 8, .inr (.inr (.inr (.inr (zga r k)))))), (a, .inr (9, [.ref h1, .ref h2, .ref h3, .ref h4, .ref h7, .ref h6, .ref t1, .ref t2, .ref t3, .ref t4, .int 0, .int 0, .int 0, .int 0, .int 0, .int 0]))] ++ zgp cy r k) (96, [some (.ref a), some (.int (nI k))], []) := by
  intro d
  induction d with
  | zero =>
    intro k r cells slots hi hz1 hz2
    obtain rfl : k = 8 := by omega
    refine zu_widen (k := C1) (w := S1) (by omega) (by omega) ?_
    refine zu_run X (is := [(96, .iload_n 1, 1), (97, .bipush 8, 2)]) (t' := (99, [some (.ref (a)), some (.int (nI 8))], [.int 8, .int (nI 8)])) ⟨dX7_init_96, dX7_init_97, trivial⟩ rfl ?_
    refine zu_icmp_ge X (tgt := 121) dX7_init_99 (by decide) (fun _ => ?_) (fun h_ => absurd (by decide) h_)
    exact kk r
  | succ d ih =>
    intro k r cells slots hi hz1 hz2
    have hlt : k < 8 := by omega
    have hK := X.2.2.2.2.2.2.1
    refine zu_run X (is := [(96, .iload_n 1, 1), (97, .bipush 8, 2)]) (t' := (99, [some (.ref (a)), some (.int (nI k))], [.int 8, .int (nI k)])) ⟨dX7_init_96, dX7_init_97, trivial⟩ rfl ?_
    refine zu_icmp_ge X (tgt := 121) dX7_init_99 (by decide) (fun h_ => absurd h_ (nI_ge (b := 8) hlt (by decide))) (fun _ => ?_)
    refine zu_run X (is := [(102, .aload_n 0, 1)]) (t' := (103, [some (.ref (a)), some (.int (nI k))], [.ref (a)])) ⟨dX7_init_102, trivial⟩ rfl ?_
    refine zu_getf X 7 rfl (C := RX7) (T := TX7) (Nf := 16) rfl zi_X7 0 (by decide) rfl zm_18 rfl dX7_init_103 ?_
    refine zu_run X (is := [(106, .iload_n 1, 1)]) (t' := (107, [some (.ref (a)), some (.int (nI k))], [.int (nI k), .ref (h1)])) ⟨dX7_init_106, trivial⟩ rfl ?_
    refine zu_new X (ci := 3) (fs := [.int 0, .int 0, .int 0, .int 0, .int 0, .int 0, .null]) rfl zi_X1 tyX1 tyX1_ok zm_17 zm_37 zm_38 (by decide +kernel) (by omega) (by omega) dX7_init_107 (fun q21 => ?_)
    refine zu_run X (is := [(110, .dup, 1)]) (t' := (111, [some (.ref (a)), some (.int (nI k))], [.ref (q21), .ref (q21), .int (nI k), .ref (h1)])) ⟨dX7_init_110, trivial⟩ rfl ?_
    refine zu_callN X hN hN.2.2.2.1 0 rfl (rm := zRi 2 3 30) ⟨zm_73, zm_38, zm_74, rfl, by decide, by decide, (by decide +kernel)⟩ (fun sz => c_X1i hls q21 sz) ⟨rfl, rfl⟩ rfl (Nat.le_of_ble_eq_true rfl) ⟨by show (2 : Nat) + 1 ≤ _; omega, by show 8 + (1 + 11) + 40 * 2 ≤ _; omega⟩ ⟨by omega, by omega⟩ dX7_init_111 (fun fs1 nw hP => ?_)
    obtain ⟨q22, q23, q24, rfl, rfl⟩ := hP
    refine zu_ast X hK 10 3 3 3 rfl rfl rfl (r := (RX1, TX1, 7)) rfl (vp_in_nI hlt (by decide)) dX7_init_114 ?_
    rw [nI_clamp (by omega), zga_up r k q21 q22 q23 q24]
    refine zu_perm (ws' := [(h6, .inl (cy 0, 10, .inl (fun _ => 0))), (h7, .inl (cy 1, 5, .inl (fun _ => 0))), (h5, .inl (cy 2, 10, .inl (fun _ => 0))), (h4, .inr (4, [.ref h5, .int 0])), (h3, .inr (2, [.ref u1, .ref u2, .int 0])), (h2, .inl (cy 0, 8, .inl (fun _ => 0))), (h1, .inl (cy 3, 8, .inr (.inr (.inr (.inr (zga (zrr r k q21 q22 q23 q24) (k + 1))))))), (a, .inr (9, [.ref h1, .ref h2, .ref h3, .ref h4, .ref h7, .ref h6, .ref t1, .ref t2, .ref t3, .ref t4, .int 0, .int 0, .int 0, .int 0, .int 0, .int 0]))] ++ zgp cy (zrr r k q21 q22 q23 q24) (k + 1)) ?_ ?_
    · rw [zgp_step]
      exact List.perm_append_comm_assoc [_, _, _, _, _, _, _, _] [_, _, _, _] (zgp cy r k)
    refine zu_run X (is := [(115, .iinc 1 1, 3)]) (t' := (118, [some (.ref (a)), some (.int (nI k + 1))], [])) ⟨dX7_init_115, trivial⟩ rfl ?_
    refine zu_go X (tgt := 96) dX7_init_118 (by decide) ?_
    rw [nI_1]
    exact ih (k + 1) _ _ _ (by omega) (by omega) (by omega)

set_option maxHeartbeats 4000000 in
set_option maxRecDepth 100000 in
theorem c_X7i {l : Launch} (hls : l.stackTraces = false) {D : va_G} {cy : Nat → ClassId} {wa : Nat → Nat} (a sz : Nat) : Met l yX7_init (.code yX7_init cX7_init 2 none :: zB) (zRi 3 165 1148) (zPu a 9 [.null, .null, .null, .null, .null, .null, .null, .null, .null, .null, .int 0, .int 0, .int 0, .int 0, .int 0, .int 0] D cy wa sz) (zQu (fun fs1 nw => ∃ h1 h2 h3 h4 h5 h6 h7 t1 t2 t3 t4 u1 u2 : Nat, ∃ r : Nat → Nat, fs1 = [.ref h1, .ref h2, .ref h3, .ref h4, .ref h7, .ref h6, .ref t1, .ref t2, .ref t3, .ref t4, .int 0, .int 0, .int 0, .int 0, .int 0, .int 0] ∧ nw = [(h6, .inl (cy 0, 10, .inl (fun _ => 0))), (h7, .inl (cy 1, 5, .inl (fun _ => 0))), (h5, .inl (cy 2, 10, .inl (fun _ => 0))), (h4, .inr (4, [.ref h5, .int 0])), (h3, .inr (2, [.ref u1, .ref u2, .int 0])), (h2, .inl (cy 0, 8, .inl (fun _ => 0))), (h1, .inl (cy 3, 8, .inr (.inr (.inr (.inr (zga r 8))))))] ++ zgp cy r 8) a 9 D sz) 165 1148 (zA1 a sz) := by
  refine z_metU (by decide) rfl hls (Nat.le_of_ble_eq_true rfl) (fun p_ e_ s_ m_ below_ meth_ c_ hsz hr hnm0 X hN => ?_)
  have X : zX p_ l s_ m_ [Value.ref a].toArray meth_ c_ cX7_init 2 RX7 D cy wa (zA1 a sz) := X
  refine zu_run X (is := [(0, .aload_n 0, 1)]) (t' := (1, [some (.ref (a)), none], [.ref (a)])) ⟨dX7_init_0, trivial⟩ rfl ?_
  refine zu_obj X zm_14 zm_15 zm_16 rfl (Nat.le_of_ble_eq_true rfl) (Nat.le_of_ble_eq_true rfl) dX7_init_1 ?_
  refine zu_run X (is := [(4, .aload_n 0, 1), (5, .bipush 8, 2)]) (t' := (7, [some (.ref (a)), none], [.int 8, .ref (a)])) ⟨dX7_init_4, dX7_init_5, trivial⟩ rfl ?_
  refine zu_newq X (C := RX1) zm_17 hN.2.2.2.2.1 (N' := 8) (by decide) (by decide +kernel) (Nat.le_of_ble_eq_true rfl) (Nat.le_of_ble_eq_true rfl) (Nat.le_of_ble_eq_true rfl) dX7_init_7 (fun q1 cA hK => ?_)
  have hcA : cA = cy 3 := by
    obtain ⟨_, _, _, _, _, e1⟩ := (hK.2 6 (cA, .object RX1) rfl).2
    obtain ⟨_, _, _, _, _, e2⟩ := (hK.2 3 (cy 3, .object RX1) rfl).2
    exact Option.some.inj (e1.symm.trans e2)
  subst hcA
  refine zu_putF X hnm0 1 rfl (C := RX7) (T := TX7) (Nf := 16) rfl zi_X7 tyX7 tyX7_ok nmX7 0 (by decide) rfl rfl zm_18 rfl (ty := .array (.object "Wagonplay$Guild")) (by decide +kernel) rfl rfl (Nat.le_of_ble_eq_true rfl) dX7_init_10 ?_
  refine zu_run X (is := [(13, .aload_n 0, 1), (14, .bipush 8, 2)]) (t' := (16, [some (.ref (a)), none], [.int 8, .ref (a)])) ⟨dX7_init_13, dX7_init_14, trivial⟩ rfl ?_
  refine zu_newa X (atype := .int) (ty := .int) rfl (t0 := 0) rfl (fun _ _ h => h) zm_3 (n := 8) (N' := 8) (a0 := (8, .inl (fun _ => 0))) (fun _ => rfl) (by decide) (by decide +kernel) (Nat.le_of_ble_eq_true rfl) (Nat.le_of_ble_eq_true rfl) (Nat.le_of_ble_eq_true rfl) dX7_init_16 (fun q2 => ?_)
  refine zu_putF X hnm0 2 rfl (C := RX7) (T := TX7) (Nf := 16) rfl zi_X7 tyX7 tyX7_ok nmX7 1 (by decide) rfl rfl zm_19 rfl (ty := .array .int) (by decide +kernel) rfl rfl (Nat.le_of_ble_eq_true rfl) dX7_init_18 ?_
  refine zu_run X (is := [(21, .aload_n 0, 1)]) (t' := (22, [some (.ref (a)), none], [.ref (a)])) ⟨dX7_init_21, trivial⟩ rfl ?_
  refine zu_new X (ci := 2) (fs := [.null, .null, .int 0]) rfl zi_X0 tyX0 tyX0_ok zm_20 zm_21 zm_22 (by decide +kernel) (Nat.le_of_ble_eq_true rfl) (Nat.le_of_ble_eq_true rfl) dX7_init_22 (fun q3 => ?_)
  refine zu_run X (is := [(25, .dup, 1)]) (t' := (26, [some (.ref (a)), none], [.ref (q3), .ref (q3), .ref (a)])) ⟨dX7_init_25, trivial⟩ rfl ?_
  refine zu_callI X hN 0 rfl (rm := zRi 2 8 72) ⟨zm_39, zm_40, zm_22, zm_41, rfl, by decide, by decide, (by decide +kernel)⟩ (fun sz => c_X0i hls q3 sz) ⟨rfl, rfl⟩ rfl (Nat.le_of_ble_eq_true rfl) ⟨Nat.le_of_ble_eq_true rfl, Nat.le_of_ble_eq_true rfl⟩ ⟨Nat.le_of_ble_eq_true rfl, Nat.le_of_ble_eq_true rfl⟩ dX7_init_26 (fun fs1 nw hP => ?_)
  obtain ⟨q4, q5, rfl, rfl⟩ := hP
  refine zu_putF X hnm0 3 rfl (C := RX7) (T := TX7) (Nf := 16) rfl zi_X7 tyX7 tyX7_ok nmX7 2 (by decide) rfl rfl zm_23 rfl (ty := .object "Wagonplay$Ground") (by decide +kernel) rfl rfl (Nat.le_of_ble_eq_true rfl) dX7_init_29 ?_
  refine zu_run X (is := [(32, .aload_n 0, 1)]) (t' := (33, [some (.ref (a)), none], [.ref (a)])) ⟨dX7_init_32, trivial⟩ rfl ?_
  refine zu_new X (ci := 4) (fs := [.null, .int 0]) rfl zi_X2 tyX2 tyX2_ok zm_24 zm_25 zm_26 (by decide +kernel) (Nat.le_of_ble_eq_true rfl) (Nat.le_of_ble_eq_true rfl) dX7_init_33 (fun q6 => ?_)
  refine zu_run X (is := [(36, .dup, 1)]) (t' := (37, [some (.ref (a)), none], [.ref (q6), .ref (q6), .ref (a)])) ⟨dX7_init_36, trivial⟩ rfl ?_
  refine zu_callN X hN hN.2.1 0 rfl (rm := zRi 1 1 10) ⟨zm_52, zm_26, zm_53, rfl, by decide, by decide, (by decide +kernel)⟩ (fun sz => c_X2i hls q6 sz) ⟨rfl, rfl⟩ rfl (Nat.le_of_ble_eq_true rfl) ⟨Nat.le_of_ble_eq_true rfl, Nat.le_of_ble_eq_true rfl⟩ ⟨Nat.le_of_ble_eq_true rfl, Nat.le_of_ble_eq_true rfl⟩ dX7_init_37 (fun fs1 nw hP => ?_)
  obtain ⟨q7, rfl, rfl⟩ := hP
  refine zu_putF X hnm0 5 rfl (C := RX7) (T := TX7) (Nf := 16) rfl zi_X7 tyX7 tyX7_ok nmX7 3 (by decide) rfl rfl zm_27 rfl (ty := .object "Wagonplay$Letters") (by decide +kernel) rfl rfl (Nat.le_of_ble_eq_true rfl) dX7_init_40 ?_
  refine zu_run X (is := [(43, .aload_n 0, 1), (44, .iconst 5, 1)]) (t' := (45, [some (.ref (a)), none], [.int 5, .ref (a)])) ⟨dX7_init_43, dX7_init_44, trivial⟩ rfl ?_
  refine zu_newa X (atype := .boolean) (ty := .boolean) rfl (t0 := 1) rfl (fun _ _ h => h) zm_5 (n := 5) (N' := 5) (a0 := (5, .inl (fun _ => 0))) (fun _ => rfl) (by decide) (by decide +kernel) (Nat.le_of_ble_eq_true rfl) (Nat.le_of_ble_eq_true rfl) (Nat.le_of_ble_eq_true rfl) dX7_init_45 (fun q8 => ?_)
  refine zu_putF X hnm0 6 rfl (C := RX7) (T := TX7) (Nf := 16) rfl zi_X7 tyX7 tyX7_ok nmX7 4 (by decide) rfl rfl zm_28 rfl (ty := .array .boolean) (by decide +kernel) rfl rfl (Nat.le_of_ble_eq_true rfl) dX7_init_47 ?_
  refine zu_run X (is := [(50, .aload_n 0, 1), (51, .bipush 10, 2)]) (t' := (53, [some (.ref (a)), none], [.int 10, .ref (a)])) ⟨dX7_init_50, dX7_init_51, trivial⟩ rfl ?_
  refine zu_newa X (atype := .int) (ty := .int) rfl (t0 := 0) rfl (fun _ _ h => h) zm_3 (n := 10) (N' := 10) (a0 := (10, .inl (fun _ => 0))) (fun _ => rfl) (by decide) (by decide +kernel) (Nat.le_of_ble_eq_true rfl) (Nat.le_of_ble_eq_true rfl) (Nat.le_of_ble_eq_true rfl) dX7_init_53 (fun q9 => ?_)
  refine zu_putF X hnm0 7 rfl (C := RX7) (T := TX7) (Nf := 16) rfl zi_X7 tyX7 tyX7_ok nmX7 5 (by decide) rfl rfl zm_29 rfl (ty := .array .int) (by decide +kernel) rfl rfl (Nat.le_of_ble_eq_true rfl) dX7_init_55 ?_
  refine zu_run X (is := [(58, .aload_n 0, 1)]) (t' := (59, [some (.ref (a)), none], [.ref (a)])) ⟨dX7_init_58, trivial⟩ rfl ?_
  refine zu_new X (ci := 5) (fs := [.null, .int 0, .int 0]) rfl zi_X3 tyX3 tyX3_ok zm_30 zm_31 zm_32 (by decide +kernel) (Nat.le_of_ble_eq_true rfl) (Nat.le_of_ble_eq_true rfl) dX7_init_59 (fun q10 => ?_)
  refine zu_run X (is := [(62, .dup, 1)]) (t' := (63, [some (.ref (a)), none], [.ref (q10), .ref (q10), .ref (a)])) ⟨dX7_init_62, trivial⟩ rfl ?_
  refine zu_callI X hN 0 rfl (rm := zRi 2 57 360) ⟨zm_56, zm_57, zm_32, zm_58, rfl, by decide, by decide, (by decide +kernel)⟩ (fun sz => c_X3i hls q10 sz) ⟨rfl, rfl⟩ rfl (Nat.le_of_ble_eq_true rfl) ⟨Nat.le_of_ble_eq_true rfl, Nat.le_of_ble_eq_true rfl⟩ ⟨Nat.le_of_ble_eq_true rfl, Nat.le_of_ble_eq_true rfl⟩ dX7_init_63 (fun fs1 nw hP => ?_)
  subst hP
  refine zu_putF X hnm0 8 rfl (C := RX7) (T := TX7) (Nf := 16) rfl zi_X7 tyX7 tyX7_ok nmX7 6 (by decide) rfl rfl zm_33 rfl (ty := .object "Wagonplay$Plan") (by decide +kernel) rfl rfl (Nat.le_of_ble_eq_true rfl) dX7_init_66 ?_
  refine zu_sub (List.sublist_cons_self _ _) ?_
  refine zu_run X (is := [(69, .aload_n 0, 1)]) (t' := (70, [some (.ref (a)), none], [.ref (a)])) ⟨dX7_init_69, trivial⟩ rfl ?_
  refine zu_new X (ci := 5) (fs := [.null, .int 0, .int 0]) rfl zi_X3 tyX3 tyX3_ok zm_30 zm_31 zm_32 (by decide +kernel) (Nat.le_of_ble_eq_true rfl) (Nat.le_of_ble_eq_true rfl) dX7_init_70 (fun q11 => ?_)
  refine zu_run X (is := [(73, .dup, 1)]) (t' := (74, [some (.ref (a)), none], [.ref (q11), .ref (q11), .ref (a)])) ⟨dX7_init_73, trivial⟩ rfl ?_
  refine zu_callI X hN 0 rfl (rm := zRi 2 57 360) ⟨zm_56, zm_57, zm_32, zm_58, rfl, by decide, by decide, (by decide +kernel)⟩ (fun sz => c_X3i hls q11 sz) ⟨rfl, rfl⟩ rfl (Nat.le_of_ble_eq_true rfl) ⟨Nat.le_of_ble_eq_true rfl, Nat.le_of_ble_eq_true rfl⟩ ⟨Nat.le_of_ble_eq_true rfl, Nat.le_of_ble_eq_true rfl⟩ dX7_init_74 (fun fs1 nw hP => ?_)
  subst hP
  refine zu_putF X hnm0 8 rfl (C := RX7) (T := TX7) (Nf := 16) rfl zi_X7 tyX7 tyX7_ok nmX7 7 (by decide) rfl rfl zm_34 rfl (ty := .object "Wagonplay$Plan") (by decide +kernel) rfl rfl (Nat.le_of_ble_eq_true rfl) dX7_init_77 ?_
  refine zu_sub (List.sublist_cons_self _ _) ?_
  refine zu_run X (is := [(80, .aload_n 0, 1), (81, .iconst 4, 1)]) (t' := (82, [some (.ref (a)), none], [.int 4, .ref (a)])) ⟨dX7_init_80, dX7_init_81, trivial⟩ rfl ?_
  refine zu_newa X (atype := .int) (ty := .int) rfl (t0 := 0) rfl (fun _ _ h => h) zm_3 (n := 4) (N' := 4) (a0 := (4, .inl (fun _ => 0))) (fun _ => rfl) (by decide) (by decide +kernel) (Nat.le_of_ble_eq_true rfl) (Nat.le_of_ble_eq_true rfl) (Nat.le_of_ble_eq_true rfl) dX7_init_82 (fun q12 => ?_)
  refine zu_putF X hnm0 8 rfl (C := RX7) (T := TX7) (Nf := 16) rfl zi_X7 tyX7 tyX7_ok nmX7 8 (by decide) rfl rfl zm_35 rfl (ty := .array .int) (by decide +kernel) rfl rfl (Nat.le_of_ble_eq_true rfl) dX7_init_84 ?_
  refine zu_sub (List.sublist_cons_self _ _) ?_
  refine zu_run X (is := [(87, .aload_n 0, 1), (88, .iconst 4, 1)]) (t' := (89, [some (.ref (a)), none], [.int 4, .ref (a)])) ⟨dX7_init_87, dX7_init_88, trivial⟩ rfl ?_
  refine zu_newa X (atype := .int) (ty := .int) rfl (t0 := 0) rfl (fun _ _ h => h) zm_3 (n := 4) (N' := 4) (a0 := (4, .inl (fun _ => 0))) (fun _ => rfl) (by decide) (by decide +kernel) (Nat.le_of_ble_eq_true rfl) (Nat.le_of_ble_eq_true rfl) (Nat.le_of_ble_eq_true rfl) dX7_init_89 (fun q13 => ?_)
  refine zu_putF X hnm0 8 rfl (C := RX7) (T := TX7) (Nf := 16) rfl zi_X7 tyX7 tyX7_ok nmX7 9 (by decide) rfl rfl zm_36 rfl (ty := .array .int) (by decide +kernel) rfl rfl (Nat.le_of_ble_eq_true rfl) dX7_init_91 ?_
  refine zu_sub (List.sublist_cons_self _ _) ?_
  refine zu_run X (is := [(94, .iconst 0, 1), (95, .istore_n 1, 1)]) (t' := (96, [some (.ref (a)), some (.int 0)], [])) ⟨dX7_init_94, dX7_init_95, trivial⟩ rfl ?_
  rw [show (fun (_ : Nat) => (none : Option Nat)) = zga (fun _ => 0) 0 from by funext j; simp [zga]]
  refine lp_X7i hls X hN ⟨Nat.le_of_ble_eq_true rfl, Nat.le_of_ble_eq_true rfl⟩ 165 1148 ⟨Nat.le_refl _, Nat.le_refl _⟩ a q1 q2 q3 q6 q7 q9 q8 q10 q11 q12 q13 q4 q5 (fun r => ?_) 8 0 (fun _ => 0) _ _ (by decide) (by decide) (by decide)
  refine zu_perm (List.perm_middle (l₁ := [_, _, _, _, _, _, _])).symm ?_
  exact zu_vret X hr dX7_init_121 rfl rfl (fun _ => ⟨_, _, _, _, _, _, _, _, _, _, _, _, _, r, rfl, rfl⟩)
