/-! Spelling. -/
def zlen (k : Nat) : Nat := [8, 5, 5, 7, 4, 6].getD k 0
def zbyt (k : Nat) : List Int32 := [[99, 114, 101, 97, 116, 105, 111, 110], [102, 108, 111, 111, 100], [98, 105, 114, 116, 104], [112, 97, 115, 115, 105, 111, 110], [100, 111, 111, 109], [102, 108, 111, 111, 100, 115]].getD k []
theorem zE_at {wa : Nat → Nat} : ∀ k, k < 6 → ∀ (A : Nat → Prop) (U : State) (H : Heap), zE wa A U H → zG (zlen k) (zbyt k) (wa k) (wa (10 + k)) A U H
  | 0, _, A, U, H, h => h.2.2.2.2.1
  | 1, _, A, U, H, h => h.2.2.2.2.2.1
  | 2, _, A, U, H, h => h.2.2.2.2.2.2.1
  | 3, _, A, U, H, h => h.2.2.2.2.2.2.2.1
  | 4, _, A, U, H, h => h.2.2.2.2.2.2.2.2.1
  | 5, _, A, U, H, h => h.2.2.2.2.2.2.2.2.2
  | k + 6, q, _, _, _, _ => absurd q (by omega)
theorem zch : ∀ k, k < 6 → ∀ j, j < zlen k → (((zbyt k).getD j 0 &&& 255).toUInt32 % 65536).toInt32 = (zbyt k).getD j 0 := by decide +kernel
theorem zlen_le : ∀ k, k < 6 → zlen k ≤ 8 ∧ 4 ≤ zlen k := by decide +kernel

set_option maxHeartbeats 4000000 in
set_option maxRecDepth 100000 in
theorem c_wordOf_0 {l : Launch} (hls : l.stackTraces = false) {D : va_G} {cy : Nat → ClassId} {wa : Nat → Nat} {N n : Nat} {ad : Nat → Nat} (hD : zD n ad) (hn : 40 ≤ n) (σ : zS)  (sz : Nat) : Met l yX2_wordOf (.code yX2_wordOf cX2_wordOf 1 (some (.object "java/lang/String")) :: zB) (zRm 0) (zPc [.int 0] D cy wa N n ad σ sz) (zQa (wa 0) D cy N n ad (σ) sz) 0 0 (zA n ad sz) := by
  refine z_met (by decide) hls (List.forall_mem_cons.mpr ⟨rfl, (fun _ h => nomatch h)⟩) (Nat.le_of_ble_eq_true rfl) (fun p_ e_ s_ m_ below_ meth_ c_ hsz hr X => ?_)
  have X : zX p_ l s_ m_ [.int 0].toArray meth_ c_ cX2_wordOf 1 RX2 D cy wa (zA n ad sz) := X
  have hAd : ∀ i, i < n → zA n ad sz (ad i) := fun i hi => Or.inl ⟨i, hi, rfl⟩
  refine zw_run X (is := [(0, .iload_n 0, 1)]) (t' := (1, [some (.int 0)], [.int 0])) ⟨dX2_wordOf_0, trivial⟩ rfl ?_
  refine zw_tabIn X (off := 31) (tgt := 32) dX2_wordOf_1 (by decide) (by decide) (by decide) (by decide) ?_
  refine zw_lds X (tx := "creation") (q := wa 0) (X.2.2.2.2.2.2.2.2.2.1.2.1 ("Wagonplay$Letters", 37, "creation", 0) (by decide +kernel)) dX2_wordOf_32 ?_
  exact zw_aret X hr dX2_wordOf_34 rfl rfl

set_option maxHeartbeats 4000000 in
set_option maxRecDepth 100000 in
theorem c_wordOf_1 {l : Launch} (hls : l.stackTraces = false) {D : va_G} {cy : Nat → ClassId} {wa : Nat → Nat} {N n : Nat} {ad : Nat → Nat} (hD : zD n ad) (hn : 40 ≤ n) (σ : zS)  (sz : Nat) : Met l yX2_wordOf (.code yX2_wordOf cX2_wordOf 1 (some (.object "java/lang/String")) :: zB) (zRm 0) (zPc [.int 1] D cy wa N n ad σ sz) (zQa (wa 1) D cy N n ad (σ) sz) 0 0 (zA n ad sz) := by
  refine z_met (by decide) hls (List.forall_mem_cons.mpr ⟨rfl, (fun _ h => nomatch h)⟩) (Nat.le_of_ble_eq_true rfl) (fun p_ e_ s_ m_ below_ meth_ c_ hsz hr X => ?_)
  have X : zX p_ l s_ m_ [.int 1].toArray meth_ c_ cX2_wordOf 1 RX2 D cy wa (zA n ad sz) := X
  have hAd : ∀ i, i < n → zA n ad sz (ad i) := fun i hi => Or.inl ⟨i, hi, rfl⟩
  refine zw_run X (is := [(0, .iload_n 0, 1)]) (t' := (1, [some (.int 1)], [.int 1])) ⟨dX2_wordOf_0, trivial⟩ rfl ?_
  refine zw_tabIn X (off := 34) (tgt := 35) dX2_wordOf_1 (by decide) (by decide) (by decide) (by decide) ?_
  refine zw_lds X (tx := "flood") (q := wa 1) (X.2.2.2.2.2.2.2.2.2.1.2.1 ("Wagonplay$Letters", 39, "flood", 1) (by decide +kernel)) dX2_wordOf_35 ?_
  exact zw_aret X hr dX2_wordOf_37 rfl rfl

set_option maxHeartbeats 4000000 in
set_option maxRecDepth 100000 in
theorem c_wordOf_2 {l : Launch} (hls : l.stackTraces = false) {D : va_G} {cy : Nat → ClassId} {wa : Nat → Nat} {N n : Nat} {ad : Nat → Nat} (hD : zD n ad) (hn : 40 ≤ n) (σ : zS)  (sz : Nat) : Met l yX2_wordOf (.code yX2_wordOf cX2_wordOf 1 (some (.object "java/lang/String")) :: zB) (zRm 0) (zPc [.int 2] D cy wa N n ad σ sz) (zQa (wa 2) D cy N n ad (σ) sz) 0 0 (zA n ad sz) := by
  refine z_met (by decide) hls (List.forall_mem_cons.mpr ⟨rfl, (fun _ h => nomatch h)⟩) (Nat.le_of_ble_eq_true rfl) (fun p_ e_ s_ m_ below_ meth_ c_ hsz hr X => ?_)
  have X : zX p_ l s_ m_ [.int 2].toArray meth_ c_ cX2_wordOf 1 RX2 D cy wa (zA n ad sz) := X
  have hAd : ∀ i, i < n → zA n ad sz (ad i) := fun i hi => Or.inl ⟨i, hi, rfl⟩
  refine zw_run X (is := [(0, .iload_n 0, 1)]) (t' := (1, [some (.int 2)], [.int 2])) ⟨dX2_wordOf_0, trivial⟩ rfl ?_
  refine zw_tabIn X (off := 37) (tgt := 38) dX2_wordOf_1 (by decide) (by decide) (by decide) (by decide) ?_
  refine zw_lds X (tx := "birth") (q := wa 2) (X.2.2.2.2.2.2.2.2.2.1.2.1 ("Wagonplay$Letters", 41, "birth", 2) (by decide +kernel)) dX2_wordOf_38 ?_
  exact zw_aret X hr dX2_wordOf_40 rfl rfl

set_option maxHeartbeats 4000000 in
set_option maxRecDepth 100000 in
theorem c_wordOf_3 {l : Launch} (hls : l.stackTraces = false) {D : va_G} {cy : Nat → ClassId} {wa : Nat → Nat} {N n : Nat} {ad : Nat → Nat} (hD : zD n ad) (hn : 40 ≤ n) (σ : zS)  (sz : Nat) : Met l yX2_wordOf (.code yX2_wordOf cX2_wordOf 1 (some (.object "java/lang/String")) :: zB) (zRm 0) (zPc [.int 3] D cy wa N n ad σ sz) (zQa (wa 3) D cy N n ad (σ) sz) 0 0 (zA n ad sz) := by
  refine z_met (by decide) hls (List.forall_mem_cons.mpr ⟨rfl, (fun _ h => nomatch h)⟩) (Nat.le_of_ble_eq_true rfl) (fun p_ e_ s_ m_ below_ meth_ c_ hsz hr X => ?_)
  have X : zX p_ l s_ m_ [.int 3].toArray meth_ c_ cX2_wordOf 1 RX2 D cy wa (zA n ad sz) := X
  have hAd : ∀ i, i < n → zA n ad sz (ad i) := fun i hi => Or.inl ⟨i, hi, rfl⟩
  refine zw_run X (is := [(0, .iload_n 0, 1)]) (t' := (1, [some (.int 3)], [.int 3])) ⟨dX2_wordOf_0, trivial⟩ rfl ?_
  refine zw_tabIn X (off := 40) (tgt := 41) dX2_wordOf_1 (by decide) (by decide) (by decide) (by decide) ?_
  refine zw_lds X (tx := "passion") (q := wa 3) (X.2.2.2.2.2.2.2.2.2.1.2.1 ("Wagonplay$Letters", 43, "passion", 3) (by decide +kernel)) dX2_wordOf_41 ?_
  exact zw_aret X hr dX2_wordOf_43 rfl rfl

set_option maxHeartbeats 4000000 in
set_option maxRecDepth 100000 in
theorem c_wordOf_4 {l : Launch} (hls : l.stackTraces = false) {D : va_G} {cy : Nat → ClassId} {wa : Nat → Nat} {N n : Nat} {ad : Nat → Nat} (hD : zD n ad) (hn : 40 ≤ n) (σ : zS)  (sz : Nat) : Met l yX2_wordOf (.code yX2_wordOf cX2_wordOf 1 (some (.object "java/lang/String")) :: zB) (zRm 0) (zPc [.int 4] D cy wa N n ad σ sz) (zQa (wa 4) D cy N n ad (σ) sz) 0 0 (zA n ad sz) := by
  refine z_met (by decide) hls (List.forall_mem_cons.mpr ⟨rfl, (fun _ h => nomatch h)⟩) (Nat.le_of_ble_eq_true rfl) (fun p_ e_ s_ m_ below_ meth_ c_ hsz hr X => ?_)
  have X : zX p_ l s_ m_ [.int 4].toArray meth_ c_ cX2_wordOf 1 RX2 D cy wa (zA n ad sz) := X
  have hAd : ∀ i, i < n → zA n ad sz (ad i) := fun i hi => Or.inl ⟨i, hi, rfl⟩
  refine zw_run X (is := [(0, .iload_n 0, 1)]) (t' := (1, [some (.int 4)], [.int 4])) ⟨dX2_wordOf_0, trivial⟩ rfl ?_
  refine zw_tabOut X (tgt := 44) dX2_wordOf_1 (Or.inr (by decide)) (by decide) ?_
  refine zw_lds X (tx := "doom") (q := wa 4) (X.2.2.2.2.2.2.2.2.2.1.2.1 ("Wagonplay$Letters", 45, "doom", 4) (by decide +kernel)) dX2_wordOf_44 ?_
  exact zw_aret X hr dX2_wordOf_46 rfl rfl

theorem c_wordOf {l : Launch} (hls : l.stackTraces = false) {D : va_G} {cy : Nat → ClassId} {wa : Nat → Nat} {N n : Nat} {ad : Nat → Nat} (hD : zD n ad) (hn : 40 ≤ n) (σ : zS) : ∀ (k : Nat) (_ : k < 5) (sz : Nat), Met l yX2_wordOf (.code yX2_wordOf cX2_wordOf 1 (some (.object "java/lang/String")) :: zB) (zRm 0) (zPc [.int (nI k)] D cy wa N n ad σ sz) (zQa (wa k) D cy N n ad σ sz) 0 0 (zA n ad sz)
  | 0, _, sz => c_wordOf_0 hls hD hn σ sz
  | 1, _, sz => c_wordOf_1 hls hD hn σ sz
  | 2, _, sz => c_wordOf_2 hls hD hn σ sz
  | 3, _, sz => c_wordOf_3 hls hD hn σ sz
  | 4, _, sz => c_wordOf_4 hls hD hn σ sz
  | k + 5, h, _ => absurd h (by omega)

set_option maxHeartbeats 4000000 in
set_option maxRecDepth 100000 in
theorem c_isTyped_len {l : Launch} (hls : l.stackTraces = false) {D : va_G} {cy : Nat → ClassId} {wa : Nat → Nat} {N n : Nat} {ad : Nat → Nat} (hD : zD n ad) (hn : 40 ≤ n) (σ : zS) (k : Nat) (hk : k < 6) (cnt : Nat) (hc : cnt < 100) (e1 : σ 4 1 = nI cnt) (hne : cnt ≠ zlen k) (sz : Nat) : Met l yX2_isTyped (.code yX2_isTyped cX2_isTyped 3 (some .boolean) :: zB) (zRm 5) (zPc [.ref (ad 4), .ref (wa k)] D cy wa N n ad σ sz) (zQi (0) D cy N n ad (σ) sz) 0 0 (zA n ad sz) := by
  refine z_met (by decide) hls (List.forall_mem_cons.mpr ⟨rfl, (List.forall_mem_cons.mpr ⟨rfl, (fun _ h => nomatch h)⟩)⟩) (Nat.le_of_ble_eq_true rfl) (fun p_ e_ s_ m_ below_ meth_ c_ hsz hr X => ?_)
  have X : zX p_ l s_ m_ [.ref (ad 4), .ref (wa k)].toArray meth_ c_ cX2_isTyped 3 RX2 D cy wa (zA n ad sz) := X
  have hAd : ∀ i, i < n → zA n ad sz (ad i) := fun i hi => Or.inl ⟨i, hi, rfl⟩
  refine zw_run X (is := [(0, .aload_n 1, 1)]) (t' := (1, [some (.ref (ad 4)), some (.ref (wa k)), none], [.ref (wa k)])) ⟨dX2_isTyped_0, trivial⟩ rfl ?_
  refine zw_Gi X hAd (As := []) (rest := []) (d := 1) (zE_at k hk _ _ _ X.2.2.2.2.2.2.2.2.1).1 ⟨zm_167, zm_168, zm_169, zm_170, zm_171, rfl, by decide, by decide, (show (parseMethodDescriptor yJ0_length_8abf5.desc).map (fun d => d.parameters.length) = some 0 by decide +kernel)⟩ (fun sz => c_length hls hD hn σ (wa k) (wa (10 + k)) (zlen k) (zbyt k) (by have := zlen_le k hk; omega) (zE_at k hk) sz) rfl rfl (Nat.le_of_ble_eq_true rfl) ⟨Nat.le_of_ble_eq_true rfl, Nat.le_of_ble_eq_true rfl⟩ ⟨Nat.zero_le _, Nat.zero_le _⟩ dX2_isTyped_1 ?_
  refine zw_run X (is := [(4, .aload_n 0, 1)]) (t' := (5, [some (.ref (ad 4)), some (.ref (wa k)), none], [.ref (ad 4), .int (nI (zlen k))])) ⟨dX2_isTyped_4, trivial⟩ rfl ?_
  refine zw_getf X (i := 4) (by omega) zc_4 (C := RX2) (T := TX2) (Nf := 2) rfl zi_X2 1 (by decide) rfl zm_166 rfl dX2_isTyped_5 ?_
  refine zw_icmp_eq X (tgt := 13) dX2_isTyped_8 (by decide) (fun h_ => absurd h_ (by rw [e1]; exact fun q => hne ((nI_eq (by have := zlen_le k hk; omega) (by omega)).mp q).symm)) (fun _ => ?_)
  refine zw_run X (is := [(11, .iconst 0, 1)]) (t' := (12, [some (.ref (ad 4)), some (.ref (wa k)), none], [.int 0])) ⟨dX2_isTyped_11, trivial⟩ rfl ?_
  exact zw_zret X hr dX2_isTyped_12 rfl rfl rfl rfl

set_option maxHeartbeats 4000000 in
set_option maxRecDepth 100000 in
theorem c_isTyped_first {l : Launch} (hls : l.stackTraces = false) {D : va_G} {cy : Nat → ClassId} {wa : Nat → Nat} {N n : Nat} {ad : Nat → Nat} (hD : zD n ad) (hn : 40 ≤ n) (σ : zS) (k : Nat) (hk : k < 6) (e1 : σ 4 1 = nI (zlen k)) (hne : ¬ (zbyt k).getD 0 0 = σ 5 0) (sz : Nat) : Met l yX2_isTyped (.code yX2_isTyped cX2_isTyped 3 (some .boolean) :: zB) (zRm 5) (zPc [.ref (ad 4), .ref (wa k)] D cy wa N n ad σ sz) (zQi (0) D cy N n ad (σ) sz) 0 0 (zA n ad sz) := by
  refine z_met (by decide) hls (List.forall_mem_cons.mpr ⟨rfl, (List.forall_mem_cons.mpr ⟨rfl, (fun _ h => nomatch h)⟩)⟩) (Nat.le_of_ble_eq_true rfl) (fun p_ e_ s_ m_ below_ meth_ c_ hsz hr X => ?_)
  have X : zX p_ l s_ m_ [.ref (ad 4), .ref (wa k)].toArray meth_ c_ cX2_isTyped 3 RX2 D cy wa (zA n ad sz) := X
  have hAd : ∀ i, i < n → zA n ad sz (ad i) := fun i hi => Or.inl ⟨i, hi, rfl⟩
  refine zw_run X (is := [(0, .aload_n 1, 1)]) (t' := (1, [some (.ref (ad 4)), some (.ref (wa k)), none], [.ref (wa k)])) ⟨dX2_isTyped_0, trivial⟩ rfl ?_
  refine zw_Gi X hAd (As := []) (rest := []) (d := 1) (zE_at k hk _ _ _ X.2.2.2.2.2.2.2.2.1).1 ⟨zm_167, zm_168, zm_169, zm_170, zm_171, rfl, by decide, by decide, (show (parseMethodDescriptor yJ0_length_8abf5.desc).map (fun d => d.parameters.length) = some 0 by decide +kernel)⟩ (fun sz => c_length hls hD hn σ (wa k) (wa (10 + k)) (zlen k) (zbyt k) (by have := zlen_le k hk; omega) (zE_at k hk) sz) rfl rfl (Nat.le_of_ble_eq_true rfl) ⟨Nat.le_of_ble_eq_true rfl, Nat.le_of_ble_eq_true rfl⟩ ⟨Nat.zero_le _, Nat.zero_le _⟩ dX2_isTyped_1 ?_
  refine zw_run X (is := [(4, .aload_n 0, 1)]) (t' := (5, [some (.ref (ad 4)), some (.ref (wa k)), none], [.ref (ad 4), .int (nI (zlen k))])) ⟨dX2_isTyped_4, trivial⟩ rfl ?_
  refine zw_getf X (i := 4) (by omega) zc_4 (C := RX2) (T := TX2) (Nf := 2) rfl zi_X2 1 (by decide) rfl zm_166 rfl dX2_isTyped_5 ?_
  refine zw_icmp_eq X (tgt := 13) dX2_isTyped_8 (by decide) (fun _ => ?_) (fun h_ => absurd e1.symm h_)
  refine zw_run X (is := [(13, .iconst 0, 1)]) (t' := (14, [some (.ref (ad 4)), some (.ref (wa k)), none], [.int 0])) ⟨dX2_isTyped_13, trivial⟩ rfl ?_
  rw [show (0 : Int32) = nI 0 from rfl]
  refine zw_run X (is := [(14, .istore_n 2, 1), (15, .iload_n 2, 1), (16, .aload_n 0, 1)]) (t' := (17, [some (.ref (ad 4)), some (.ref (wa k)), some (.int (nI 0))], [.ref (ad 4), .int (nI 0)])) ⟨dX2_isTyped_14, dX2_isTyped_15, dX2_isTyped_16, trivial⟩ rfl ?_
  refine zw_getf X (i := 4) (by omega) zc_4 (C := RX2) (T := TX2) (Nf := 2) rfl zi_X2 1 (by decide) rfl zm_166 rfl dX2_isTyped_17 ?_
  refine zw_icmp_ge X (tgt := 45) dX2_isTyped_20 (by decide) (fun h_ => absurd h_ (by rw [e1]; exact nI_ge (by have := zlen_le k hk; omega) (by have := zlen_le k hk; omega))) (fun _ => ?_)
  refine zw_run X (is := [(23, .aload_n 1, 1), (24, .iload_n 2, 1)]) (t' := (25, [some (.ref (ad 4)), some (.ref (wa k)), some (.int (nI 0))], [.int (nI 0), .ref (wa k)])) ⟨dX2_isTyped_23, dX2_isTyped_24, trivial⟩ rfl ?_
  refine zw_Gi X hAd (As := [.int (nI 0)]) (rest := []) (d := 3) (zE_at k hk _ _ _ X.2.2.2.2.2.2.2.2.1).1 ⟨zm_179, zm_180, zm_181, zm_170, zm_182, rfl, by decide, by decide, (show (parseMethodDescriptor yJ0_charAt_5068e.desc).map (fun d => d.parameters.length) = some 1 by decide +kernel)⟩ (fun sz => c_charAt hls hD hn σ (wa k) (wa (10 + k)) (zlen k) (zbyt k) (by have := zlen_le k hk; omega) (zE_at k hk) 0 (by have := zlen_le k hk; omega) (zch k hk 0 (by have := zlen_le k hk; omega)) sz) rfl rfl (Nat.le_of_ble_eq_true rfl) ⟨Nat.le_of_ble_eq_true rfl, Nat.le_of_ble_eq_true rfl⟩ ⟨Nat.zero_le _, Nat.zero_le _⟩ dX2_isTyped_25 ?_
  refine zw_run X (is := [(28, .aload_n 0, 1)]) (t' := (29, [some (.ref (ad 4)), some (.ref (wa k)), some (.int (nI 0))], [.ref (ad 4), .int ((zbyt k).getD 0 0)])) ⟨dX2_isTyped_28, trivial⟩ rfl ?_
  refine zw_getf X (i := 4) (by omega) zc_4 (C := RX2) (T := TX2) (Nf := 2) rfl zi_X2 0 (by decide) rfl zm_55 rfl dX2_isTyped_29 ?_
  refine zw_run X (is := [(32, .iload_n 2, 1)]) (t' := (33, [some (.ref (ad 4)), some (.ref (wa k)), some (.int (nI 0))], [.int (nI 0), .ref (ad 5), .int ((zbyt k).getD 0 0)])) ⟨dX2_isTyped_32, trivial⟩ rfl ?_
  refine zw_cald X (i := 5) (by omega) (len := 10) zc_5 (j := 0) rfl (by omega) (by decide) dX2_isTyped_33 ?_
  refine zw_icmp_eq X (tgt := 39) dX2_isTyped_34 (by decide) (fun h_ => absurd h_ hne) (fun _ => ?_)
  refine zw_run X (is := [(37, .iconst 0, 1)]) (t' := (38, [some (.ref (ad 4)), some (.ref (wa k)), some (.int (nI 0))], [.int 0])) ⟨dX2_isTyped_37, trivial⟩ rfl ?_
  exact zw_zret X hr dX2_isTyped_38 rfl rfl rfl rfl

set_option maxHeartbeats 4000000 in
set_option maxRecDepth 100000 in
theorem lp_isTyped {p : Program} {l : Launch} {e : Env} {R : Room} {s : State} {m : MethodId} {args : Array Value} {below : List Frame} {meth : Method} {c : Code} {D : va_G} {cy : Nat → ClassId} {wa : Nat → Nat} {N : Nat} {A : Nat → Prop} {n : Nat} {ad : Nat → Nat} {cells slots : Nat} {Q : State → Prop} (X : zX p l s m args meth c cX2_isTyped 3 RX2 D cy wa A) (hD : zD n ad) (hAd : ∀ i, i < n → A (ad i)) (hn : 40 ≤ n) (σ : zS) (hls : l.stackTraces = false) (hR : 5 ≤ R.frames ∧ 200 ≤ R.locals ∧ cells ≤ R.cells ∧ slots ≤ R.slots) (k : Nat) (hk : k < 6) (e1 : σ 4 1 = nI (zlen k)) (heq : ∀ j, j < zlen k → (zbyt k).getD j 0 = σ 5 j)  (kk : zW p l e R s m args below meth c D cy N A n ad cells slots Q (45, [some (.ref (ad 4)), some (.ref (wa k)), some (.int (nI (zlen k)))], []) (σ)) : ∀ (d j : Nat), j + d = zlen k → zW p l e R s m args below meth c D cy N A n ad cells slots Q (15, [some (.ref (ad 4)), some (.ref (wa k)), some (.int (nI j))], []) (σ) := by
  have h48 := zlen_le k hk
  intro d
  induction d with
  | zero =>
    intro j hj
    obtain rfl : j = zlen k := by omega
    refine zw_run X (is := [(15, .iload_n 2, 1), (16, .aload_n 0, 1)]) (t' := (17, [some (.ref (ad 4)), some (.ref (wa k)), some (.int (nI (zlen k)))], [.ref (ad 4), .int (nI (zlen k))])) ⟨dX2_isTyped_15, dX2_isTyped_16, trivial⟩ rfl ?_
    refine zw_getf X (i := 4) (by omega) zc_4 (C := RX2) (T := TX2) (Nf := 2) rfl zi_X2 1 (by decide) rfl zm_166 rfl dX2_isTyped_17 ?_
    refine zw_icmp_ge X (tgt := 45) dX2_isTyped_20 (by decide) (fun _ => ?_) (fun h_ => absurd (by rw [e1]; exact nI_le (Nat.le_refl _) (by omega)) h_)
    exact kk
  | succ d ih =>
    intro j hj
    refine zw_run X (is := [(15, .iload_n 2, 1), (16, .aload_n 0, 1)]) (t' := (17, [some (.ref (ad 4)), some (.ref (wa k)), some (.int (nI j))], [.ref (ad 4), .int (nI j)])) ⟨dX2_isTyped_15, dX2_isTyped_16, trivial⟩ rfl ?_
    refine zw_getf X (i := 4) (by omega) zc_4 (C := RX2) (T := TX2) (Nf := 2) rfl zi_X2 1 (by decide) rfl zm_166 rfl dX2_isTyped_17 ?_
    refine zw_icmp_ge X (tgt := 45) dX2_isTyped_20 (by decide) (fun h_ => absurd h_ (by rw [e1]; exact nI_ge (by omega) (by omega))) (fun _ => ?_)
    refine zw_run X (is := [(23, .aload_n 1, 1), (24, .iload_n 2, 1)]) (t' := (25, [some (.ref (ad 4)), some (.ref (wa k)), some (.int (nI j))], [.int (nI j), .ref (wa k)])) ⟨dX2_isTyped_23, dX2_isTyped_24, trivial⟩ rfl ?_
    refine zw_Gi X hAd (As := [.int (nI j)]) (rest := []) (d := 3) (zE_at k hk _ _ _ X.2.2.2.2.2.2.2.2.1).1 ⟨zm_179, zm_180, zm_181, zm_170, zm_182, rfl, by decide, by decide, (show (parseMethodDescriptor yJ0_charAt_5068e.desc).map (fun d => d.parameters.length) = some 1 by decide +kernel)⟩ (fun sz => c_charAt hls hD hn σ (wa k) (wa (10 + k)) (zlen k) (zbyt k) (by have := zlen_le k hk; omega) (zE_at k hk) j (by have := zlen_le k hk; omega) (zch k hk j (by have := zlen_le k hk; omega)) sz) rfl rfl (Nat.le_of_ble_eq_true rfl) ⟨by omega, by omega⟩ ⟨hR.2.2.1, hR.2.2.2⟩ dX2_isTyped_25 ?_
    refine zw_run X (is := [(28, .aload_n 0, 1)]) (t' := (29, [some (.ref (ad 4)), some (.ref (wa k)), some (.int (nI j))], [.ref (ad 4), .int ((zbyt k).getD j 0)])) ⟨dX2_isTyped_28, trivial⟩ rfl ?_
    refine zw_getf X (i := 4) (by omega) zc_4 (C := RX2) (T := TX2) (Nf := 2) rfl zi_X2 0 (by decide) rfl zm_55 rfl dX2_isTyped_29 ?_
    refine zw_run X (is := [(32, .iload_n 2, 1)]) (t' := (33, [some (.ref (ad 4)), some (.ref (wa k)), some (.int (nI j))], [.int (nI j), .ref (ad 5), .int ((zbyt k).getD j 0)])) ⟨dX2_isTyped_32, trivial⟩ rfl ?_
    refine zw_cald X (i := 5) (by omega) (len := 10) zc_5 (j := j) rfl (by omega) (by decide) dX2_isTyped_33 ?_
    refine zw_icmp_eq X (tgt := 39) dX2_isTyped_34 (by decide) (fun _ => ?_) (fun h_ => absurd (heq j (by omega)) h_)
    refine zw_run X (is := [(39, .iinc 2 1, 3)]) (t' := (42, [some (.ref (ad 4)), some (.ref (wa k)), some (.int (nI j + 1))], [])) ⟨dX2_isTyped_39, trivial⟩ rfl ?_
    refine zw_go X (tgt := 15) dX2_isTyped_42 (by decide) ?_
    rw [nI_1]
    exact ih (j + 1) (by omega)

set_option maxHeartbeats 4000000 in
set_option maxRecDepth 100000 in
theorem c_isTyped_yes {l : Launch} (hls : l.stackTraces = false) {D : va_G} {cy : Nat → ClassId} {wa : Nat → Nat} {N n : Nat} {ad : Nat → Nat} (hD : zD n ad) (hn : 40 ≤ n) (σ : zS) (k : Nat) (hk : k < 6) (e1 : σ 4 1 = nI (zlen k)) (heq : ∀ j, j < zlen k → (zbyt k).getD j 0 = σ 5 j)  (sz : Nat) : Met l yX2_isTyped (.code yX2_isTyped cX2_isTyped 3 (some .boolean) :: zB) (zRm 5) (zPc [.ref (ad 4), .ref (wa k)] D cy wa N n ad σ sz) (zQi (1) D cy N n ad (σ) sz) 0 0 (zA n ad sz) := by
  refine z_met (by decide) hls (List.forall_mem_cons.mpr ⟨rfl, (List.forall_mem_cons.mpr ⟨rfl, (fun _ h => nomatch h)⟩)⟩) (Nat.le_of_ble_eq_true rfl) (fun p_ e_ s_ m_ below_ meth_ c_ hsz hr X => ?_)
  have X : zX p_ l s_ m_ [.ref (ad 4), .ref (wa k)].toArray meth_ c_ cX2_isTyped 3 RX2 D cy wa (zA n ad sz) := X
  have hAd : ∀ i, i < n → zA n ad sz (ad i) := fun i hi => Or.inl ⟨i, hi, rfl⟩
  refine zw_run X (is := [(0, .aload_n 1, 1)]) (t' := (1, [some (.ref (ad 4)), some (.ref (wa k)), none], [.ref (wa k)])) ⟨dX2_isTyped_0, trivial⟩ rfl ?_
  refine zw_Gi X hAd (As := []) (rest := []) (d := 1) (zE_at k hk _ _ _ X.2.2.2.2.2.2.2.2.1).1 ⟨zm_167, zm_168, zm_169, zm_170, zm_171, rfl, by decide, by decide, (show (parseMethodDescriptor yJ0_length_8abf5.desc).map (fun d => d.parameters.length) = some 0 by decide +kernel)⟩ (fun sz => c_length hls hD hn σ (wa k) (wa (10 + k)) (zlen k) (zbyt k) (by have := zlen_le k hk; omega) (zE_at k hk) sz) rfl rfl (Nat.le_of_ble_eq_true rfl) ⟨Nat.le_of_ble_eq_true rfl, Nat.le_of_ble_eq_true rfl⟩ ⟨Nat.zero_le _, Nat.zero_le _⟩ dX2_isTyped_1 ?_
  refine zw_run X (is := [(4, .aload_n 0, 1)]) (t' := (5, [some (.ref (ad 4)), some (.ref (wa k)), none], [.ref (ad 4), .int (nI (zlen k))])) ⟨dX2_isTyped_4, trivial⟩ rfl ?_
  refine zw_getf X (i := 4) (by omega) zc_4 (C := RX2) (T := TX2) (Nf := 2) rfl zi_X2 1 (by decide) rfl zm_166 rfl dX2_isTyped_5 ?_
  refine zw_icmp_eq X (tgt := 13) dX2_isTyped_8 (by decide) (fun _ => ?_) (fun h_ => absurd e1.symm h_)
  refine zw_run X (is := [(13, .iconst 0, 1), (14, .istore_n 2, 1)]) (t' := (15, [some (.ref (ad 4)), some (.ref (wa k)), some (.int 0)], [])) ⟨dX2_isTyped_13, dX2_isTyped_14, trivial⟩ rfl ?_
  refine lp_isTyped X hD hAd hn σ hls ⟨Nat.le_of_ble_eq_true rfl, Nat.le_of_ble_eq_true rfl, Nat.zero_le _, Nat.zero_le _⟩ k hk e1 heq ?_ (zlen k) 0 (by omega)
  refine zw_run X (is := [(45, .iconst 1, 1)]) (t' := (46, [some (.ref (ad 4)), some (.ref (wa k)), some (.int (nI (zlen k)))], [.int 1])) ⟨dX2_isTyped_45, trivial⟩ rfl ?_
  exact zw_zret X hr dX2_isTyped_46 rfl rfl rfl rfl

set_option maxHeartbeats 4000000 in
set_option maxRecDepth 100000 in
theorem c_spelt_0 {l : Launch} (hls : l.stackTraces = false) {D : va_G} {cy : Nat → ClassId} {wa : Nat → Nat} {N n : Nat} {ad : Nat → Nat} (hD : zD n ad) (hn : 40 ≤ n) (σ : zS) (e1 : σ 4 1 = nI (zlen 0)) (heq : ∀ j, j < zlen 0 → (zbyt 0).getD j 0 = σ 5 j) (sz : Nat) : Met l yX2_spelt (.code yX2_spelt cX2_spelt 2 (some .int) :: zB) (zRm 7) (zPc [.ref (ad 4)] D cy wa N n ad σ sz) (zQi (0) D cy N n ad (σ) sz) 0 0 (zA n ad sz) := by
  refine z_met (by decide) hls (List.forall_mem_cons.mpr ⟨rfl, (fun _ h => nomatch h)⟩) (Nat.le_of_ble_eq_true rfl) (fun p_ e_ s_ m_ below_ meth_ c_ hsz hr X => ?_)
  have X : zX p_ l s_ m_ [.ref (ad 4)].toArray meth_ c_ cX2_spelt 2 RX2 D cy wa (zA n ad sz) := X
  have hAd : ∀ i, i < n → zA n ad sz (ad i) := fun i hi => Or.inl ⟨i, hi, rfl⟩
  refine zw_run X (is := [(0, .iconst 0, 1), (1, .istore_n 1, 1)]) (t' := (2, [some (.ref (ad 4)), some (.int 0)], [])) ⟨dX2_spelt_0, dX2_spelt_1, trivial⟩ rfl ?_
  refine zw_run X (is := [(2, .iload_n 1, 1), (3, .iconst 5, 1)]) (t' := (4, [some (.ref (ad 4)), some (.int 0)], [.int 5, .int 0])) ⟨dX2_spelt_2, dX2_spelt_3, trivial⟩ rfl ?_
  refine zw_icmp_ge X (tgt := 26) dX2_spelt_4 (by decide) (fun h_ => absurd h_ (by decide)) (fun _ => ?_)
  refine zw_run X (is := [(7, .aload_n 0, 1), (8, .iload_n 1, 1)]) (t' := (9, [some (.ref (ad 4)), some (.int 0)], [.int 0, .ref (ad 4)])) ⟨dX2_spelt_7, dX2_spelt_8, trivial⟩ rfl ?_
  refine zw_Sa X hAd (As := [.int 0]) (rest := [.ref (ad 4)]) (d := 0) ⟨zm_159, zm_160, zm_26, zm_161, by decide, by decide, (show (parseMethodDescriptor yX2_wordOf.desc).map (fun d => d.parameters.length) = some 1 by decide +kernel)⟩ (fun sz => c_wordOf_0 hls hD hn σ sz) rfl rfl (Nat.le_of_ble_eq_true rfl) ⟨Nat.le_of_ble_eq_true rfl, Nat.le_of_ble_eq_true rfl⟩ ⟨Nat.zero_le _, Nat.zero_le _⟩ dX2_spelt_9 ?_
  refine zw_Vi X hAd (As := [.ref (wa 0)]) (rest := []) (d := 5) (i := 4) (by omega) zc_4 (q := (RX2, TX2, 2)) rfl ⟨zm_162, zm_163, zm_164, zm_26, zm_165, rfl, by decide, by decide, (show (parseMethodDescriptor yX2_isTyped.desc).map (fun d => d.parameters.length) = some 1 by decide +kernel)⟩ (fun sz => c_isTyped_yes hls hD hn σ 0 (by decide) e1 heq sz) rfl rfl (Nat.le_of_ble_eq_true rfl) ⟨Nat.le_of_ble_eq_true rfl, Nat.le_of_ble_eq_true rfl⟩ ⟨Nat.zero_le _, Nat.zero_le _⟩ dX2_spelt_12 ?_
  refine zw_if_eq X (tgt := 20) dX2_spelt_15 (by decide) (fun h_ => absurd h_ (by decide)) (fun _ => ?_)
  refine zw_run X (is := [(18, .iload_n 1, 1)]) (t' := (19, [some (.ref (ad 4)), some (.int 0)], [.int 0])) ⟨dX2_spelt_18, trivial⟩ rfl ?_
  exact zw_iret X hr dX2_spelt_19 rfl rfl rfl

set_option maxHeartbeats 4000000 in
set_option maxRecDepth 100000 in
theorem c_spelt_1 {l : Launch} (hls : l.stackTraces = false) {D : va_G} {cy : Nat → ClassId} {wa : Nat → Nat} {N n : Nat} {ad : Nat → Nat} (hD : zD n ad) (hn : 40 ≤ n) (σ : zS) (e1 : σ 4 1 = nI (zlen 1)) (heq : ∀ j, j < zlen 1 → (zbyt 1).getD j 0 = σ 5 j) (sz : Nat) : Met l yX2_spelt (.code yX2_spelt cX2_spelt 2 (some .int) :: zB) (zRm 7) (zPc [.ref (ad 4)] D cy wa N n ad σ sz) (zQi (1) D cy N n ad (σ) sz) 0 0 (zA n ad sz) := by
  refine z_met (by decide) hls (List.forall_mem_cons.mpr ⟨rfl, (fun _ h => nomatch h)⟩) (Nat.le_of_ble_eq_true rfl) (fun p_ e_ s_ m_ below_ meth_ c_ hsz hr X => ?_)
  have X : zX p_ l s_ m_ [.ref (ad 4)].toArray meth_ c_ cX2_spelt 2 RX2 D cy wa (zA n ad sz) := X
  have hAd : ∀ i, i < n → zA n ad sz (ad i) := fun i hi => Or.inl ⟨i, hi, rfl⟩
  refine zw_run X (is := [(0, .iconst 0, 1), (1, .istore_n 1, 1)]) (t' := (2, [some (.ref (ad 4)), some (.int 0)], [])) ⟨dX2_spelt_0, dX2_spelt_1, trivial⟩ rfl ?_
  refine zw_run X (is := [(2, .iload_n 1, 1), (3, .iconst 5, 1)]) (t' := (4, [some (.ref (ad 4)), some (.int 0)], [.int 5, .int 0])) ⟨dX2_spelt_2, dX2_spelt_3, trivial⟩ rfl ?_
  refine zw_icmp_ge X (tgt := 26) dX2_spelt_4 (by decide) (fun h_ => absurd h_ (by decide)) (fun _ => ?_)
  refine zw_run X (is := [(7, .aload_n 0, 1), (8, .iload_n 1, 1)]) (t' := (9, [some (.ref (ad 4)), some (.int 0)], [.int 0, .ref (ad 4)])) ⟨dX2_spelt_7, dX2_spelt_8, trivial⟩ rfl ?_
  refine zw_Sa X hAd (As := [.int 0]) (rest := [.ref (ad 4)]) (d := 0) ⟨zm_159, zm_160, zm_26, zm_161, by decide, by decide, (show (parseMethodDescriptor yX2_wordOf.desc).map (fun d => d.parameters.length) = some 1 by decide +kernel)⟩ (fun sz => c_wordOf_0 hls hD hn σ sz) rfl rfl (Nat.le_of_ble_eq_true rfl) ⟨Nat.le_of_ble_eq_true rfl, Nat.le_of_ble_eq_true rfl⟩ ⟨Nat.zero_le _, Nat.zero_le _⟩ dX2_spelt_9 ?_
  refine zw_Vi X hAd (As := [.ref (wa 0)]) (rest := []) (d := 5) (i := 4) (by omega) zc_4 (q := (RX2, TX2, 2)) rfl ⟨zm_162, zm_163, zm_164, zm_26, zm_165, rfl, by decide, by decide, (show (parseMethodDescriptor yX2_isTyped.desc).map (fun d => d.parameters.length) = some 1 by decide +kernel)⟩ (fun sz => c_isTyped_len hls hD hn σ 0 (by decide) (zlen 1) (by decide) e1 (by decide) sz) rfl rfl (Nat.le_of_ble_eq_true rfl) ⟨Nat.le_of_ble_eq_true rfl, Nat.le_of_ble_eq_true rfl⟩ ⟨Nat.zero_le _, Nat.zero_le _⟩ dX2_spelt_12 ?_
  refine zw_if_eq X (tgt := 20) dX2_spelt_15 (by decide) (fun _ => ?_) (fun h_ => absurd rfl h_)
  refine zw_run X (is := [(20, .iinc 1 1, 3)]) (t' := (23, [some (.ref (ad 4)), some (.int (0 + 1))], [])) ⟨dX2_spelt_20, trivial⟩ rfl ?_
  rw [show (0 : Int32) + 1 = 1 from rfl]
  refine zw_go X (tgt := 2) dX2_spelt_23 (by decide) ?_
  refine zw_run X (is := [(2, .iload_n 1, 1), (3, .iconst 5, 1)]) (t' := (4, [some (.ref (ad 4)), some (.int 1)], [.int 5, .int 1])) ⟨dX2_spelt_2, dX2_spelt_3, trivial⟩ rfl ?_
  refine zw_icmp_ge X (tgt := 26) dX2_spelt_4 (by decide) (fun h_ => absurd h_ (by decide)) (fun _ => ?_)
  refine zw_run X (is := [(7, .aload_n 0, 1), (8, .iload_n 1, 1)]) (t' := (9, [some (.ref (ad 4)), some (.int 1)], [.int 1, .ref (ad 4)])) ⟨dX2_spelt_7, dX2_spelt_8, trivial⟩ rfl ?_
  refine zw_Sa X hAd (As := [.int 1]) (rest := [.ref (ad 4)]) (d := 0) ⟨zm_159, zm_160, zm_26, zm_161, by decide, by decide, (show (parseMethodDescriptor yX2_wordOf.desc).map (fun d => d.parameters.length) = some 1 by decide +kernel)⟩ (fun sz => c_wordOf_1 hls hD hn σ sz) rfl rfl (Nat.le_of_ble_eq_true rfl) ⟨Nat.le_of_ble_eq_true rfl, Nat.le_of_ble_eq_true rfl⟩ ⟨Nat.zero_le _, Nat.zero_le _⟩ dX2_spelt_9 ?_
  refine zw_Vi X hAd (As := [.ref (wa 1)]) (rest := []) (d := 5) (i := 4) (by omega) zc_4 (q := (RX2, TX2, 2)) rfl ⟨zm_162, zm_163, zm_164, zm_26, zm_165, rfl, by decide, by decide, (show (parseMethodDescriptor yX2_isTyped.desc).map (fun d => d.parameters.length) = some 1 by decide +kernel)⟩ (fun sz => c_isTyped_yes hls hD hn σ 1 (by decide) e1 heq sz) rfl rfl (Nat.le_of_ble_eq_true rfl) ⟨Nat.le_of_ble_eq_true rfl, Nat.le_of_ble_eq_true rfl⟩ ⟨Nat.zero_le _, Nat.zero_le _⟩ dX2_spelt_12 ?_
  refine zw_if_eq X (tgt := 20) dX2_spelt_15 (by decide) (fun h_ => absurd h_ (by decide)) (fun _ => ?_)
  refine zw_run X (is := [(18, .iload_n 1, 1)]) (t' := (19, [some (.ref (ad 4)), some (.int 1)], [.int 1])) ⟨dX2_spelt_18, trivial⟩ rfl ?_
  exact zw_iret X hr dX2_spelt_19 rfl rfl rfl

set_option maxHeartbeats 4000000 in
set_option maxRecDepth 100000 in
theorem c_spelt_2 {l : Launch} (hls : l.stackTraces = false) {D : va_G} {cy : Nat → ClassId} {wa : Nat → Nat} {N n : Nat} {ad : Nat → Nat} (hD : zD n ad) (hn : 40 ≤ n) (σ : zS) (e1 : σ 4 1 = nI (zlen 2)) (heq : ∀ j, j < zlen 2 → (zbyt 2).getD j 0 = σ 5 j) (sz : Nat) : Met l yX2_spelt (.code yX2_spelt cX2_spelt 2 (some .int) :: zB) (zRm 7) (zPc [.ref (ad 4)] D cy wa N n ad σ sz) (zQi (2) D cy N n ad (σ) sz) 0 0 (zA n ad sz) := by
  refine z_met (by decide) hls (List.forall_mem_cons.mpr ⟨rfl, (fun _ h => nomatch h)⟩) (Nat.le_of_ble_eq_true rfl) (fun p_ e_ s_ m_ below_ meth_ c_ hsz hr X => ?_)
  have X : zX p_ l s_ m_ [.ref (ad 4)].toArray meth_ c_ cX2_spelt 2 RX2 D cy wa (zA n ad sz) := X
  have hAd : ∀ i, i < n → zA n ad sz (ad i) := fun i hi => Or.inl ⟨i, hi, rfl⟩
  refine zw_run X (is := [(0, .iconst 0, 1), (1, .istore_n 1, 1)]) (t' := (2, [some (.ref (ad 4)), some (.int 0)], [])) ⟨dX2_spelt_0, dX2_spelt_1, trivial⟩ rfl ?_
  refine zw_run X (is := [(2, .iload_n 1, 1), (3, .iconst 5, 1)]) (t' := (4, [some (.ref (ad 4)), some (.int 0)], [.int 5, .int 0])) ⟨dX2_spelt_2, dX2_spelt_3, trivial⟩ rfl ?_
  refine zw_icmp_ge X (tgt := 26) dX2_spelt_4 (by decide) (fun h_ => absurd h_ (by decide)) (fun _ => ?_)
  refine zw_run X (is := [(7, .aload_n 0, 1), (8, .iload_n 1, 1)]) (t' := (9, [some (.ref (ad 4)), some (.int 0)], [.int 0, .ref (ad 4)])) ⟨dX2_spelt_7, dX2_spelt_8, trivial⟩ rfl ?_
  refine zw_Sa X hAd (As := [.int 0]) (rest := [.ref (ad 4)]) (d := 0) ⟨zm_159, zm_160, zm_26, zm_161, by decide, by decide, (show (parseMethodDescriptor yX2_wordOf.desc).map (fun d => d.parameters.length) = some 1 by decide +kernel)⟩ (fun sz => c_wordOf_0 hls hD hn σ sz) rfl rfl (Nat.le_of_ble_eq_true rfl) ⟨Nat.le_of_ble_eq_true rfl, Nat.le_of_ble_eq_true rfl⟩ ⟨Nat.zero_le _, Nat.zero_le _⟩ dX2_spelt_9 ?_
  refine zw_Vi X hAd (As := [.ref (wa 0)]) (rest := []) (d := 5) (i := 4) (by omega) zc_4 (q := (RX2, TX2, 2)) rfl ⟨zm_162, zm_163, zm_164, zm_26, zm_165, rfl, by decide, by decide, (show (parseMethodDescriptor yX2_isTyped.desc).map (fun d => d.parameters.length) = some 1 by decide +kernel)⟩ (fun sz => c_isTyped_len hls hD hn σ 0 (by decide) (zlen 2) (by decide) e1 (by decide) sz) rfl rfl (Nat.le_of_ble_eq_true rfl) ⟨Nat.le_of_ble_eq_true rfl, Nat.le_of_ble_eq_true rfl⟩ ⟨Nat.zero_le _, Nat.zero_le _⟩ dX2_spelt_12 ?_
  refine zw_if_eq X (tgt := 20) dX2_spelt_15 (by decide) (fun _ => ?_) (fun h_ => absurd rfl h_)
  refine zw_run X (is := [(20, .iinc 1 1, 3)]) (t' := (23, [some (.ref (ad 4)), some (.int (0 + 1))], [])) ⟨dX2_spelt_20, trivial⟩ rfl ?_
  rw [show (0 : Int32) + 1 = 1 from rfl]
  refine zw_go X (tgt := 2) dX2_spelt_23 (by decide) ?_
  refine zw_run X (is := [(2, .iload_n 1, 1), (3, .iconst 5, 1)]) (t' := (4, [some (.ref (ad 4)), some (.int 1)], [.int 5, .int 1])) ⟨dX2_spelt_2, dX2_spelt_3, trivial⟩ rfl ?_
  refine zw_icmp_ge X (tgt := 26) dX2_spelt_4 (by decide) (fun h_ => absurd h_ (by decide)) (fun _ => ?_)
  refine zw_run X (is := [(7, .aload_n 0, 1), (8, .iload_n 1, 1)]) (t' := (9, [some (.ref (ad 4)), some (.int 1)], [.int 1, .ref (ad 4)])) ⟨dX2_spelt_7, dX2_spelt_8, trivial⟩ rfl ?_
  refine zw_Sa X hAd (As := [.int 1]) (rest := [.ref (ad 4)]) (d := 0) ⟨zm_159, zm_160, zm_26, zm_161, by decide, by decide, (show (parseMethodDescriptor yX2_wordOf.desc).map (fun d => d.parameters.length) = some 1 by decide +kernel)⟩ (fun sz => c_wordOf_1 hls hD hn σ sz) rfl rfl (Nat.le_of_ble_eq_true rfl) ⟨Nat.le_of_ble_eq_true rfl, Nat.le_of_ble_eq_true rfl⟩ ⟨Nat.zero_le _, Nat.zero_le _⟩ dX2_spelt_9 ?_
  refine zw_Vi X hAd (As := [.ref (wa 1)]) (rest := []) (d := 5) (i := 4) (by omega) zc_4 (q := (RX2, TX2, 2)) rfl ⟨zm_162, zm_163, zm_164, zm_26, zm_165, rfl, by decide, by decide, (show (parseMethodDescriptor yX2_isTyped.desc).map (fun d => d.parameters.length) = some 1 by decide +kernel)⟩ (fun sz => c_isTyped_first hls hD hn σ 1 (by decide) e1 (by rw [← heq 0 (by decide)]; decide) sz) rfl rfl (Nat.le_of_ble_eq_true rfl) ⟨Nat.le_of_ble_eq_true rfl, Nat.le_of_ble_eq_true rfl⟩ ⟨Nat.zero_le _, Nat.zero_le _⟩ dX2_spelt_12 ?_
  refine zw_if_eq X (tgt := 20) dX2_spelt_15 (by decide) (fun _ => ?_) (fun h_ => absurd rfl h_)
  refine zw_run X (is := [(20, .iinc 1 1, 3)]) (t' := (23, [some (.ref (ad 4)), some (.int (1 + 1))], [])) ⟨dX2_spelt_20, trivial⟩ rfl ?_
  rw [show (1 : Int32) + 1 = 2 from rfl]
  refine zw_go X (tgt := 2) dX2_spelt_23 (by decide) ?_
  refine zw_run X (is := [(2, .iload_n 1, 1), (3, .iconst 5, 1)]) (t' := (4, [some (.ref (ad 4)), some (.int 2)], [.int 5, .int 2])) ⟨dX2_spelt_2, dX2_spelt_3, trivial⟩ rfl ?_
  refine zw_icmp_ge X (tgt := 26) dX2_spelt_4 (by decide) (fun h_ => absurd h_ (by decide)) (fun _ => ?_)
  refine zw_run X (is := [(7, .aload_n 0, 1), (8, .iload_n 1, 1)]) (t' := (9, [some (.ref (ad 4)), some (.int 2)], [.int 2, .ref (ad 4)])) ⟨dX2_spelt_7, dX2_spelt_8, trivial⟩ rfl ?_
  refine zw_Sa X hAd (As := [.int 2]) (rest := [.ref (ad 4)]) (d := 0) ⟨zm_159, zm_160, zm_26, zm_161, by decide, by decide, (show (parseMethodDescriptor yX2_wordOf.desc).map (fun d => d.parameters.length) = some 1 by decide +kernel)⟩ (fun sz => c_wordOf_2 hls hD hn σ sz) rfl rfl (Nat.le_of_ble_eq_true rfl) ⟨Nat.le_of_ble_eq_true rfl, Nat.le_of_ble_eq_true rfl⟩ ⟨Nat.zero_le _, Nat.zero_le _⟩ dX2_spelt_9 ?_
  refine zw_Vi X hAd (As := [.ref (wa 2)]) (rest := []) (d := 5) (i := 4) (by omega) zc_4 (q := (RX2, TX2, 2)) rfl ⟨zm_162, zm_163, zm_164, zm_26, zm_165, rfl, by decide, by decide, (show (parseMethodDescriptor yX2_isTyped.desc).map (fun d => d.parameters.length) = some 1 by decide +kernel)⟩ (fun sz => c_isTyped_yes hls hD hn σ 2 (by decide) e1 heq sz) rfl rfl (Nat.le_of_ble_eq_true rfl) ⟨Nat.le_of_ble_eq_true rfl, Nat.le_of_ble_eq_true rfl⟩ ⟨Nat.zero_le _, Nat.zero_le _⟩ dX2_spelt_12 ?_
  refine zw_if_eq X (tgt := 20) dX2_spelt_15 (by decide) (fun h_ => absurd h_ (by decide)) (fun _ => ?_)
  refine zw_run X (is := [(18, .iload_n 1, 1)]) (t' := (19, [some (.ref (ad 4)), some (.int 2)], [.int 2])) ⟨dX2_spelt_18, trivial⟩ rfl ?_
  exact zw_iret X hr dX2_spelt_19 rfl rfl rfl

set_option maxHeartbeats 4000000 in
set_option maxRecDepth 100000 in
theorem c_spelt_3 {l : Launch} (hls : l.stackTraces = false) {D : va_G} {cy : Nat → ClassId} {wa : Nat → Nat} {N n : Nat} {ad : Nat → Nat} (hD : zD n ad) (hn : 40 ≤ n) (σ : zS) (e1 : σ 4 1 = nI (zlen 3)) (heq : ∀ j, j < zlen 3 → (zbyt 3).getD j 0 = σ 5 j) (sz : Nat) : Met l yX2_spelt (.code yX2_spelt cX2_spelt 2 (some .int) :: zB) (zRm 7) (zPc [.ref (ad 4)] D cy wa N n ad σ sz) (zQi (3) D cy N n ad (σ) sz) 0 0 (zA n ad sz) := by
  refine z_met (by decide) hls (List.forall_mem_cons.mpr ⟨rfl, (fun _ h => nomatch h)⟩) (Nat.le_of_ble_eq_true rfl) (fun p_ e_ s_ m_ below_ meth_ c_ hsz hr X => ?_)
  have X : zX p_ l s_ m_ [.ref (ad 4)].toArray meth_ c_ cX2_spelt 2 RX2 D cy wa (zA n ad sz) := X
  have hAd : ∀ i, i < n → zA n ad sz (ad i) := fun i hi => Or.inl ⟨i, hi, rfl⟩
  refine zw_run X (is := [(0, .iconst 0, 1), (1, .istore_n 1, 1)]) (t' := (2, [some (.ref (ad 4)), some (.int 0)], [])) ⟨dX2_spelt_0, dX2_spelt_1, trivial⟩ rfl ?_
  refine zw_run X (is := [(2, .iload_n 1, 1), (3, .iconst 5, 1)]) (t' := (4, [some (.ref (ad 4)), some (.int 0)], [.int 5, .int 0])) ⟨dX2_spelt_2, dX2_spelt_3, trivial⟩ rfl ?_
  refine zw_icmp_ge X (tgt := 26) dX2_spelt_4 (by decide) (fun h_ => absurd h_ (by decide)) (fun _ => ?_)
  refine zw_run X (is := [(7, .aload_n 0, 1), (8, .iload_n 1, 1)]) (t' := (9, [some (.ref (ad 4)), some (.int 0)], [.int 0, .ref (ad 4)])) ⟨dX2_spelt_7, dX2_spelt_8, trivial⟩ rfl ?_
  refine zw_Sa X hAd (As := [.int 0]) (rest := [.ref (ad 4)]) (d := 0) ⟨zm_159, zm_160, zm_26, zm_161, by decide, by decide, (show (parseMethodDescriptor yX2_wordOf.desc).map (fun d => d.parameters.length) = some 1 by decide +kernel)⟩ (fun sz => c_wordOf_0 hls hD hn σ sz) rfl rfl (Nat.le_of_ble_eq_true rfl) ⟨Nat.le_of_ble_eq_true rfl, Nat.le_of_ble_eq_true rfl⟩ ⟨Nat.zero_le _, Nat.zero_le _⟩ dX2_spelt_9 ?_
  refine zw_Vi X hAd (As := [.ref (wa 0)]) (rest := []) (d := 5) (i := 4) (by omega) zc_4 (q := (RX2, TX2, 2)) rfl ⟨zm_162, zm_163, zm_164, zm_26, zm_165, rfl, by decide, by decide, (show (parseMethodDescriptor yX2_isTyped.desc).map (fun d => d.parameters.length) = some 1 by decide +kernel)⟩ (fun sz => c_isTyped_len hls hD hn σ 0 (by decide) (zlen 3) (by decide) e1 (by decide) sz) rfl rfl (Nat.le_of_ble_eq_true rfl) ⟨Nat.le_of_ble_eq_true rfl, Nat.le_of_ble_eq_true rfl⟩ ⟨Nat.zero_le _, Nat.zero_le _⟩ dX2_spelt_12 ?_
  refine zw_if_eq X (tgt := 20) dX2_spelt_15 (by decide) (fun _ => ?_) (fun h_ => absurd rfl h_)
  refine zw_run X (is := [(20, .iinc 1 1, 3)]) (t' := (23, [some (.ref (ad 4)), some (.int (0 + 1))], [])) ⟨dX2_spelt_20, trivial⟩ rfl ?_
  rw [show (0 : Int32) + 1 = 1 from rfl]
  refine zw_go X (tgt := 2) dX2_spelt_23 (by decide) ?_
  refine zw_run X (is := [(2, .iload_n 1, 1), (3, .iconst 5, 1)]) (t' := (4, [some (.ref (ad 4)), some (.int 1)], [.int 5, .int 1])) ⟨dX2_spelt_2, dX2_spelt_3, trivial⟩ rfl ?_
  refine zw_icmp_ge X (tgt := 26) dX2_spelt_4 (by decide) (fun h_ => absurd h_ (by decide)) (fun _ => ?_)
  refine zw_run X (is := [(7, .aload_n 0, 1), (8, .iload_n 1, 1)]) (t' := (9, [some (.ref (ad 4)), some (.int 1)], [.int 1, .ref (ad 4)])) ⟨dX2_spelt_7, dX2_spelt_8, trivial⟩ rfl ?_
  refine zw_Sa X hAd (As := [.int 1]) (rest := [.ref (ad 4)]) (d := 0) ⟨zm_159, zm_160, zm_26, zm_161, by decide, by decide, (show (parseMethodDescriptor yX2_wordOf.desc).map (fun d => d.parameters.length) = some 1 by decide +kernel)⟩ (fun sz => c_wordOf_1 hls hD hn σ sz) rfl rfl (Nat.le_of_ble_eq_true rfl) ⟨Nat.le_of_ble_eq_true rfl, Nat.le_of_ble_eq_true rfl⟩ ⟨Nat.zero_le _, Nat.zero_le _⟩ dX2_spelt_9 ?_
  refine zw_Vi X hAd (As := [.ref (wa 1)]) (rest := []) (d := 5) (i := 4) (by omega) zc_4 (q := (RX2, TX2, 2)) rfl ⟨zm_162, zm_163, zm_164, zm_26, zm_165, rfl, by decide, by decide, (show (parseMethodDescriptor yX2_isTyped.desc).map (fun d => d.parameters.length) = some 1 by decide +kernel)⟩ (fun sz => c_isTyped_len hls hD hn σ 1 (by decide) (zlen 3) (by decide) e1 (by decide) sz) rfl rfl (Nat.le_of_ble_eq_true rfl) ⟨Nat.le_of_ble_eq_true rfl, Nat.le_of_ble_eq_true rfl⟩ ⟨Nat.zero_le _, Nat.zero_le _⟩ dX2_spelt_12 ?_
  refine zw_if_eq X (tgt := 20) dX2_spelt_15 (by decide) (fun _ => ?_) (fun h_ => absurd rfl h_)
  refine zw_run X (is := [(20, .iinc 1 1, 3)]) (t' := (23, [some (.ref (ad 4)), some (.int (1 + 1))], [])) ⟨dX2_spelt_20, trivial⟩ rfl ?_
  rw [show (1 : Int32) + 1 = 2 from rfl]
  refine zw_go X (tgt := 2) dX2_spelt_23 (by decide) ?_
  refine zw_run X (is := [(2, .iload_n 1, 1), (3, .iconst 5, 1)]) (t' := (4, [some (.ref (ad 4)), some (.int 2)], [.int 5, .int 2])) ⟨dX2_spelt_2, dX2_spelt_3, trivial⟩ rfl ?_
  refine zw_icmp_ge X (tgt := 26) dX2_spelt_4 (by decide) (fun h_ => absurd h_ (by decide)) (fun _ => ?_)
  refine zw_run X (is := [(7, .aload_n 0, 1), (8, .iload_n 1, 1)]) (t' := (9, [some (.ref (ad 4)), some (.int 2)], [.int 2, .ref (ad 4)])) ⟨dX2_spelt_7, dX2_spelt_8, trivial⟩ rfl ?_
  refine zw_Sa X hAd (As := [.int 2]) (rest := [.ref (ad 4)]) (d := 0) ⟨zm_159, zm_160, zm_26, zm_161, by decide, by decide, (show (parseMethodDescriptor yX2_wordOf.desc).map (fun d => d.parameters.length) = some 1 by decide +kernel)⟩ (fun sz => c_wordOf_2 hls hD hn σ sz) rfl rfl (Nat.le_of_ble_eq_true rfl) ⟨Nat.le_of_ble_eq_true rfl, Nat.le_of_ble_eq_true rfl⟩ ⟨Nat.zero_le _, Nat.zero_le _⟩ dX2_spelt_9 ?_
  refine zw_Vi X hAd (As := [.ref (wa 2)]) (rest := []) (d := 5) (i := 4) (by omega) zc_4 (q := (RX2, TX2, 2)) rfl ⟨zm_162, zm_163, zm_164, zm_26, zm_165, rfl, by decide, by decide, (show (parseMethodDescriptor yX2_isTyped.desc).map (fun d => d.parameters.length) = some 1 by decide +kernel)⟩ (fun sz => c_isTyped_len hls hD hn σ 2 (by decide) (zlen 3) (by decide) e1 (by decide) sz) rfl rfl (Nat.le_of_ble_eq_true rfl) ⟨Nat.le_of_ble_eq_true rfl, Nat.le_of_ble_eq_true rfl⟩ ⟨Nat.zero_le _, Nat.zero_le _⟩ dX2_spelt_12 ?_
  refine zw_if_eq X (tgt := 20) dX2_spelt_15 (by decide) (fun _ => ?_) (fun h_ => absurd rfl h_)
  refine zw_run X (is := [(20, .iinc 1 1, 3)]) (t' := (23, [some (.ref (ad 4)), some (.int (2 + 1))], [])) ⟨dX2_spelt_20, trivial⟩ rfl ?_
  rw [show (2 : Int32) + 1 = 3 from rfl]
  refine zw_go X (tgt := 2) dX2_spelt_23 (by decide) ?_
  refine zw_run X (is := [(2, .iload_n 1, 1), (3, .iconst 5, 1)]) (t' := (4, [some (.ref (ad 4)), some (.int 3)], [.int 5, .int 3])) ⟨dX2_spelt_2, dX2_spelt_3, trivial⟩ rfl ?_
  refine zw_icmp_ge X (tgt := 26) dX2_spelt_4 (by decide) (fun h_ => absurd h_ (by decide)) (fun _ => ?_)
  refine zw_run X (is := [(7, .aload_n 0, 1), (8, .iload_n 1, 1)]) (t' := (9, [some (.ref (ad 4)), some (.int 3)], [.int 3, .ref (ad 4)])) ⟨dX2_spelt_7, dX2_spelt_8, trivial⟩ rfl ?_
  refine zw_Sa X hAd (As := [.int 3]) (rest := [.ref (ad 4)]) (d := 0) ⟨zm_159, zm_160, zm_26, zm_161, by decide, by decide, (show (parseMethodDescriptor yX2_wordOf.desc).map (fun d => d.parameters.length) = some 1 by decide +kernel)⟩ (fun sz => c_wordOf_3 hls hD hn σ sz) rfl rfl (Nat.le_of_ble_eq_true rfl) ⟨Nat.le_of_ble_eq_true rfl, Nat.le_of_ble_eq_true rfl⟩ ⟨Nat.zero_le _, Nat.zero_le _⟩ dX2_spelt_9 ?_
  refine zw_Vi X hAd (As := [.ref (wa 3)]) (rest := []) (d := 5) (i := 4) (by omega) zc_4 (q := (RX2, TX2, 2)) rfl ⟨zm_162, zm_163, zm_164, zm_26, zm_165, rfl, by decide, by decide, (show (parseMethodDescriptor yX2_isTyped.desc).map (fun d => d.parameters.length) = some 1 by decide +kernel)⟩ (fun sz => c_isTyped_yes hls hD hn σ 3 (by decide) e1 heq sz) rfl rfl (Nat.le_of_ble_eq_true rfl) ⟨Nat.le_of_ble_eq_true rfl, Nat.le_of_ble_eq_true rfl⟩ ⟨Nat.zero_le _, Nat.zero_le _⟩ dX2_spelt_12 ?_
  refine zw_if_eq X (tgt := 20) dX2_spelt_15 (by decide) (fun h_ => absurd h_ (by decide)) (fun _ => ?_)
  refine zw_run X (is := [(18, .iload_n 1, 1)]) (t' := (19, [some (.ref (ad 4)), some (.int 3)], [.int 3])) ⟨dX2_spelt_18, trivial⟩ rfl ?_
  exact zw_iret X hr dX2_spelt_19 rfl rfl rfl

set_option maxHeartbeats 4000000 in
set_option maxRecDepth 100000 in
theorem c_spelt_4 {l : Launch} (hls : l.stackTraces = false) {D : va_G} {cy : Nat → ClassId} {wa : Nat → Nat} {N n : Nat} {ad : Nat → Nat} (hD : zD n ad) (hn : 40 ≤ n) (σ : zS) (e1 : σ 4 1 = nI (zlen 4)) (heq : ∀ j, j < zlen 4 → (zbyt 4).getD j 0 = σ 5 j) (sz : Nat) : Met l yX2_spelt (.code yX2_spelt cX2_spelt 2 (some .int) :: zB) (zRm 7) (zPc [.ref (ad 4)] D cy wa N n ad σ sz) (zQi (4) D cy N n ad (σ) sz) 0 0 (zA n ad sz) := by
  refine z_met (by decide) hls (List.forall_mem_cons.mpr ⟨rfl, (fun _ h => nomatch h)⟩) (Nat.le_of_ble_eq_true rfl) (fun p_ e_ s_ m_ below_ meth_ c_ hsz hr X => ?_)
  have X : zX p_ l s_ m_ [.ref (ad 4)].toArray meth_ c_ cX2_spelt 2 RX2 D cy wa (zA n ad sz) := X
  have hAd : ∀ i, i < n → zA n ad sz (ad i) := fun i hi => Or.inl ⟨i, hi, rfl⟩
  refine zw_run X (is := [(0, .iconst 0, 1), (1, .istore_n 1, 1)]) (t' := (2, [some (.ref (ad 4)), some (.int 0)], [])) ⟨dX2_spelt_0, dX2_spelt_1, trivial⟩ rfl ?_
  refine zw_run X (is := [(2, .iload_n 1, 1), (3, .iconst 5, 1)]) (t' := (4, [some (.ref (ad 4)), some (.int 0)], [.int 5, .int 0])) ⟨dX2_spelt_2, dX2_spelt_3, trivial⟩ rfl ?_
  refine zw_icmp_ge X (tgt := 26) dX2_spelt_4 (by decide) (fun h_ => absurd h_ (by decide)) (fun _ => ?_)
  refine zw_run X (is := [(7, .aload_n 0, 1), (8, .iload_n 1, 1)]) (t' := (9, [some (.ref (ad 4)), some (.int 0)], [.int 0, .ref (ad 4)])) ⟨dX2_spelt_7, dX2_spelt_8, trivial⟩ rfl ?_
  refine zw_Sa X hAd (As := [.int 0]) (rest := [.ref (ad 4)]) (d := 0) ⟨zm_159, zm_160, zm_26, zm_161, by decide, by decide, (show (parseMethodDescriptor yX2_wordOf.desc).map (fun d => d.parameters.length) = some 1 by decide +kernel)⟩ (fun sz => c_wordOf_0 hls hD hn σ sz) rfl rfl (Nat.le_of_ble_eq_true rfl) ⟨Nat.le_of_ble_eq_true rfl, Nat.le_of_ble_eq_true rfl⟩ ⟨Nat.zero_le _, Nat.zero_le _⟩ dX2_spelt_9 ?_
  refine zw_Vi X hAd (As := [.ref (wa 0)]) (rest := []) (d := 5) (i := 4) (by omega) zc_4 (q := (RX2, TX2, 2)) rfl ⟨zm_162, zm_163, zm_164, zm_26, zm_165, rfl, by decide, by decide, (show (parseMethodDescriptor yX2_isTyped.desc).map (fun d => d.parameters.length) = some 1 by decide +kernel)⟩ (fun sz => c_isTyped_len hls hD hn σ 0 (by decide) (zlen 4) (by decide) e1 (by decide) sz) rfl rfl (Nat.le_of_ble_eq_true rfl) ⟨Nat.le_of_ble_eq_true rfl, Nat.le_of_ble_eq_true rfl⟩ ⟨Nat.zero_le _, Nat.zero_le _⟩ dX2_spelt_12 ?_
  refine zw_if_eq X (tgt := 20) dX2_spelt_15 (by decide) (fun _ => ?_) (fun h_ => absurd rfl h_)
  refine zw_run X (is := [(20, .iinc 1 1, 3)]) (t' := (23, [some (.ref (ad 4)), some (.int (0 + 1))], [])) ⟨dX2_spelt_20, trivial⟩ rfl ?_
  rw [show (0 : Int32) + 1 = 1 from rfl]
  refine zw_go X (tgt := 2) dX2_spelt_23 (by decide) ?_
  refine zw_run X (is := [(2, .iload_n 1, 1), (3, .iconst 5, 1)]) (t' := (4, [some (.ref (ad 4)), some (.int 1)], [.int 5, .int 1])) ⟨dX2_spelt_2, dX2_spelt_3, trivial⟩ rfl ?_
  refine zw_icmp_ge X (tgt := 26) dX2_spelt_4 (by decide) (fun h_ => absurd h_ (by decide)) (fun _ => ?_)
  refine zw_run X (is := [(7, .aload_n 0, 1), (8, .iload_n 1, 1)]) (t' := (9, [some (.ref (ad 4)), some (.int 1)], [.int 1, .ref (ad 4)])) ⟨dX2_spelt_7, dX2_spelt_8, trivial⟩ rfl ?_
  refine zw_Sa X hAd (As := [.int 1]) (rest := [.ref (ad 4)]) (d := 0) ⟨zm_159, zm_160, zm_26, zm_161, by decide, by decide, (show (parseMethodDescriptor yX2_wordOf.desc).map (fun d => d.parameters.length) = some 1 by decide +kernel)⟩ (fun sz => c_wordOf_1 hls hD hn σ sz) rfl rfl (Nat.le_of_ble_eq_true rfl) ⟨Nat.le_of_ble_eq_true rfl, Nat.le_of_ble_eq_true rfl⟩ ⟨Nat.zero_le _, Nat.zero_le _⟩ dX2_spelt_9 ?_
  refine zw_Vi X hAd (As := [.ref (wa 1)]) (rest := []) (d := 5) (i := 4) (by omega) zc_4 (q := (RX2, TX2, 2)) rfl ⟨zm_162, zm_163, zm_164, zm_26, zm_165, rfl, by decide, by decide, (show (parseMethodDescriptor yX2_isTyped.desc).map (fun d => d.parameters.length) = some 1 by decide +kernel)⟩ (fun sz => c_isTyped_len hls hD hn σ 1 (by decide) (zlen 4) (by decide) e1 (by decide) sz) rfl rfl (Nat.le_of_ble_eq_true rfl) ⟨Nat.le_of_ble_eq_true rfl, Nat.le_of_ble_eq_true rfl⟩ ⟨Nat.zero_le _, Nat.zero_le _⟩ dX2_spelt_12 ?_
  refine zw_if_eq X (tgt := 20) dX2_spelt_15 (by decide) (fun _ => ?_) (fun h_ => absurd rfl h_)
  refine zw_run X (is := [(20, .iinc 1 1, 3)]) (t' := (23, [some (.ref (ad 4)), some (.int (1 + 1))], [])) ⟨dX2_spelt_20, trivial⟩ rfl ?_
  rw [show (1 : Int32) + 1 = 2 from rfl]
  refine zw_go X (tgt := 2) dX2_spelt_23 (by decide) ?_
  refine zw_run X (is := [(2, .iload_n 1, 1), (3, .iconst 5, 1)]) (t' := (4, [some (.ref (ad 4)), some (.int 2)], [.int 5, .int 2])) ⟨dX2_spelt_2, dX2_spelt_3, trivial⟩ rfl ?_
  refine zw_icmp_ge X (tgt := 26) dX2_spelt_4 (by decide) (fun h_ => absurd h_ (by decide)) (fun _ => ?_)
  refine zw_run X (is := [(7, .aload_n 0, 1), (8, .iload_n 1, 1)]) (t' := (9, [some (.ref (ad 4)), some (.int 2)], [.int 2, .ref (ad 4)])) ⟨dX2_spelt_7, dX2_spelt_8, trivial⟩ rfl ?_
  refine zw_Sa X hAd (As := [.int 2]) (rest := [.ref (ad 4)]) (d := 0) ⟨zm_159, zm_160, zm_26, zm_161, by decide, by decide, (show (parseMethodDescriptor yX2_wordOf.desc).map (fun d => d.parameters.length) = some 1 by decide +kernel)⟩ (fun sz => c_wordOf_2 hls hD hn σ sz) rfl rfl (Nat.le_of_ble_eq_true rfl) ⟨Nat.le_of_ble_eq_true rfl, Nat.le_of_ble_eq_true rfl⟩ ⟨Nat.zero_le _, Nat.zero_le _⟩ dX2_spelt_9 ?_
  refine zw_Vi X hAd (As := [.ref (wa 2)]) (rest := []) (d := 5) (i := 4) (by omega) zc_4 (q := (RX2, TX2, 2)) rfl ⟨zm_162, zm_163, zm_164, zm_26, zm_165, rfl, by decide, by decide, (show (parseMethodDescriptor yX2_isTyped.desc).map (fun d => d.parameters.length) = some 1 by decide +kernel)⟩ (fun sz => c_isTyped_len hls hD hn σ 2 (by decide) (zlen 4) (by decide) e1 (by decide) sz) rfl rfl (Nat.le_of_ble_eq_true rfl) ⟨Nat.le_of_ble_eq_true rfl, Nat.le_of_ble_eq_true rfl⟩ ⟨Nat.zero_le _, Nat.zero_le _⟩ dX2_spelt_12 ?_
  refine zw_if_eq X (tgt := 20) dX2_spelt_15 (by decide) (fun _ => ?_) (fun h_ => absurd rfl h_)
  refine zw_run X (is := [(20, .iinc 1 1, 3)]) (t' := (23, [some (.ref (ad 4)), some (.int (2 + 1))], [])) ⟨dX2_spelt_20, trivial⟩ rfl ?_
  rw [show (2 : Int32) + 1 = 3 from rfl]
  refine zw_go X (tgt := 2) dX2_spelt_23 (by decide) ?_
  refine zw_run X (is := [(2, .iload_n 1, 1), (3, .iconst 5, 1)]) (t' := (4, [some (.ref (ad 4)), some (.int 3)], [.int 5, .int 3])) ⟨dX2_spelt_2, dX2_spelt_3, trivial⟩ rfl ?_
  refine zw_icmp_ge X (tgt := 26) dX2_spelt_4 (by decide) (fun h_ => absurd h_ (by decide)) (fun _ => ?_)
  refine zw_run X (is := [(7, .aload_n 0, 1), (8, .iload_n 1, 1)]) (t' := (9, [some (.ref (ad 4)), some (.int 3)], [.int 3, .ref (ad 4)])) ⟨dX2_spelt_7, dX2_spelt_8, trivial⟩ rfl ?_
  refine zw_Sa X hAd (As := [.int 3]) (rest := [.ref (ad 4)]) (d := 0) ⟨zm_159, zm_160, zm_26, zm_161, by decide, by decide, (show (parseMethodDescriptor yX2_wordOf.desc).map (fun d => d.parameters.length) = some 1 by decide +kernel)⟩ (fun sz => c_wordOf_3 hls hD hn σ sz) rfl rfl (Nat.le_of_ble_eq_true rfl) ⟨Nat.le_of_ble_eq_true rfl, Nat.le_of_ble_eq_true rfl⟩ ⟨Nat.zero_le _, Nat.zero_le _⟩ dX2_spelt_9 ?_
  refine zw_Vi X hAd (As := [.ref (wa 3)]) (rest := []) (d := 5) (i := 4) (by omega) zc_4 (q := (RX2, TX2, 2)) rfl ⟨zm_162, zm_163, zm_164, zm_26, zm_165, rfl, by decide, by decide, (show (parseMethodDescriptor yX2_isTyped.desc).map (fun d => d.parameters.length) = some 1 by decide +kernel)⟩ (fun sz => c_isTyped_len hls hD hn σ 3 (by decide) (zlen 4) (by decide) e1 (by decide) sz) rfl rfl (Nat.le_of_ble_eq_true rfl) ⟨Nat.le_of_ble_eq_true rfl, Nat.le_of_ble_eq_true rfl⟩ ⟨Nat.zero_le _, Nat.zero_le _⟩ dX2_spelt_12 ?_
  refine zw_if_eq X (tgt := 20) dX2_spelt_15 (by decide) (fun _ => ?_) (fun h_ => absurd rfl h_)
  refine zw_run X (is := [(20, .iinc 1 1, 3)]) (t' := (23, [some (.ref (ad 4)), some (.int (3 + 1))], [])) ⟨dX2_spelt_20, trivial⟩ rfl ?_
  rw [show (3 : Int32) + 1 = 4 from rfl]
  refine zw_go X (tgt := 2) dX2_spelt_23 (by decide) ?_
  refine zw_run X (is := [(2, .iload_n 1, 1), (3, .iconst 5, 1)]) (t' := (4, [some (.ref (ad 4)), some (.int 4)], [.int 5, .int 4])) ⟨dX2_spelt_2, dX2_spelt_3, trivial⟩ rfl ?_
  refine zw_icmp_ge X (tgt := 26) dX2_spelt_4 (by decide) (fun h_ => absurd h_ (by decide)) (fun _ => ?_)
  refine zw_run X (is := [(7, .aload_n 0, 1), (8, .iload_n 1, 1)]) (t' := (9, [some (.ref (ad 4)), some (.int 4)], [.int 4, .ref (ad 4)])) ⟨dX2_spelt_7, dX2_spelt_8, trivial⟩ rfl ?_
  refine zw_Sa X hAd (As := [.int 4]) (rest := [.ref (ad 4)]) (d := 0) ⟨zm_159, zm_160, zm_26, zm_161, by decide, by decide, (show (parseMethodDescriptor yX2_wordOf.desc).map (fun d => d.parameters.length) = some 1 by decide +kernel)⟩ (fun sz => c_wordOf_4 hls hD hn σ sz) rfl rfl (Nat.le_of_ble_eq_true rfl) ⟨Nat.le_of_ble_eq_true rfl, Nat.le_of_ble_eq_true rfl⟩ ⟨Nat.zero_le _, Nat.zero_le _⟩ dX2_spelt_9 ?_
  refine zw_Vi X hAd (As := [.ref (wa 4)]) (rest := []) (d := 5) (i := 4) (by omega) zc_4 (q := (RX2, TX2, 2)) rfl ⟨zm_162, zm_163, zm_164, zm_26, zm_165, rfl, by decide, by decide, (show (parseMethodDescriptor yX2_isTyped.desc).map (fun d => d.parameters.length) = some 1 by decide +kernel)⟩ (fun sz => c_isTyped_yes hls hD hn σ 4 (by decide) e1 heq sz) rfl rfl (Nat.le_of_ble_eq_true rfl) ⟨Nat.le_of_ble_eq_true rfl, Nat.le_of_ble_eq_true rfl⟩ ⟨Nat.zero_le _, Nat.zero_le _⟩ dX2_spelt_12 ?_
  refine zw_if_eq X (tgt := 20) dX2_spelt_15 (by decide) (fun h_ => absurd h_ (by decide)) (fun _ => ?_)
  refine zw_run X (is := [(18, .iload_n 1, 1)]) (t' := (19, [some (.ref (ad 4)), some (.int 4)], [.int 4])) ⟨dX2_spelt_18, trivial⟩ rfl ?_
  exact zw_iret X hr dX2_spelt_19 rfl rfl rfl

set_option maxHeartbeats 4000000 in
set_option maxRecDepth 100000 in
theorem c_spelt_none {l : Launch} (hls : l.stackTraces = false) {D : va_G} {cy : Nat → ClassId} {wa : Nat → Nat} {N n : Nat} {ad : Nat → Nat} (hD : zD n ad) (hn : 40 ≤ n) (σ : zS) (cnt : Nat) (hc : cnt = 0 ∨ cnt = 6) (e1 : σ 4 1 = nI cnt) (sz : Nat) : Met l yX2_spelt (.code yX2_spelt cX2_spelt 2 (some .int) :: zB) (zRm 7) (zPc [.ref (ad 4)] D cy wa N n ad σ sz) (zQi (-1) D cy N n ad (σ) sz) 0 0 (zA n ad sz) := by
  refine z_met (by decide) hls (List.forall_mem_cons.mpr ⟨rfl, (fun _ h => nomatch h)⟩) (Nat.le_of_ble_eq_true rfl) (fun p_ e_ s_ m_ below_ meth_ c_ hsz hr X => ?_)
  have X : zX p_ l s_ m_ [.ref (ad 4)].toArray meth_ c_ cX2_spelt 2 RX2 D cy wa (zA n ad sz) := X
  have hAd : ∀ i, i < n → zA n ad sz (ad i) := fun i hi => Or.inl ⟨i, hi, rfl⟩
  refine zw_run X (is := [(0, .iconst 0, 1), (1, .istore_n 1, 1)]) (t' := (2, [some (.ref (ad 4)), some (.int 0)], [])) ⟨dX2_spelt_0, dX2_spelt_1, trivial⟩ rfl ?_
  refine zw_run X (is := [(2, .iload_n 1, 1), (3, .iconst 5, 1)]) (t' := (4, [some (.ref (ad 4)), some (.int 0)], [.int 5, .int 0])) ⟨dX2_spelt_2, dX2_spelt_3, trivial⟩ rfl ?_
  refine zw_icmp_ge X (tgt := 26) dX2_spelt_4 (by decide) (fun h_ => absurd h_ (by decide)) (fun _ => ?_)
  refine zw_run X (is := [(7, .aload_n 0, 1), (8, .iload_n 1, 1)]) (t' := (9, [some (.ref (ad 4)), some (.int 0)], [.int 0, .ref (ad 4)])) ⟨dX2_spelt_7, dX2_spelt_8, trivial⟩ rfl ?_
  refine zw_Sa X hAd (As := [.int 0]) (rest := [.ref (ad 4)]) (d := 0) ⟨zm_159, zm_160, zm_26, zm_161, by decide, by decide, (show (parseMethodDescriptor yX2_wordOf.desc).map (fun d => d.parameters.length) = some 1 by decide +kernel)⟩ (fun sz => c_wordOf_0 hls hD hn σ sz) rfl rfl (Nat.le_of_ble_eq_true rfl) ⟨Nat.le_of_ble_eq_true rfl, Nat.le_of_ble_eq_true rfl⟩ ⟨Nat.zero_le _, Nat.zero_le _⟩ dX2_spelt_9 ?_
  refine zw_Vi X hAd (As := [.ref (wa 0)]) (rest := []) (d := 5) (i := 4) (by omega) zc_4 (q := (RX2, TX2, 2)) rfl ⟨zm_162, zm_163, zm_164, zm_26, zm_165, rfl, by decide, by decide, (show (parseMethodDescriptor yX2_isTyped.desc).map (fun d => d.parameters.length) = some 1 by decide +kernel)⟩ (fun sz => c_isTyped_len hls hD hn σ 0 (by decide) cnt (by omega) e1 (by show cnt ≠ 8; omega) sz) rfl rfl (Nat.le_of_ble_eq_true rfl) ⟨Nat.le_of_ble_eq_true rfl, Nat.le_of_ble_eq_true rfl⟩ ⟨Nat.zero_le _, Nat.zero_le _⟩ dX2_spelt_12 ?_
  refine zw_if_eq X (tgt := 20) dX2_spelt_15 (by decide) (fun _ => ?_) (fun h_ => absurd rfl h_)
  refine zw_run X (is := [(20, .iinc 1 1, 3)]) (t' := (23, [some (.ref (ad 4)), some (.int (0 + 1))], [])) ⟨dX2_spelt_20, trivial⟩ rfl ?_
  rw [show (0 : Int32) + 1 = 1 from rfl]
  refine zw_go X (tgt := 2) dX2_spelt_23 (by decide) ?_
  refine zw_run X (is := [(2, .iload_n 1, 1), (3, .iconst 5, 1)]) (t' := (4, [some (.ref (ad 4)), some (.int 1)], [.int 5, .int 1])) ⟨dX2_spelt_2, dX2_spelt_3, trivial⟩ rfl ?_
  refine zw_icmp_ge X (tgt := 26) dX2_spelt_4 (by decide) (fun h_ => absurd h_ (by decide)) (fun _ => ?_)
  refine zw_run X (is := [(7, .aload_n 0, 1), (8, .iload_n 1, 1)]) (t' := (9, [some (.ref (ad 4)), some (.int 1)], [.int 1, .ref (ad 4)])) ⟨dX2_spelt_7, dX2_spelt_8, trivial⟩ rfl ?_
  refine zw_Sa X hAd (As := [.int 1]) (rest := [.ref (ad 4)]) (d := 0) ⟨zm_159, zm_160, zm_26, zm_161, by decide, by decide, (show (parseMethodDescriptor yX2_wordOf.desc).map (fun d => d.parameters.length) = some 1 by decide +kernel)⟩ (fun sz => c_wordOf_1 hls hD hn σ sz) rfl rfl (Nat.le_of_ble_eq_true rfl) ⟨Nat.le_of_ble_eq_true rfl, Nat.le_of_ble_eq_true rfl⟩ ⟨Nat.zero_le _, Nat.zero_le _⟩ dX2_spelt_9 ?_
  refine zw_Vi X hAd (As := [.ref (wa 1)]) (rest := []) (d := 5) (i := 4) (by omega) zc_4 (q := (RX2, TX2, 2)) rfl ⟨zm_162, zm_163, zm_164, zm_26, zm_165, rfl, by decide, by decide, (show (parseMethodDescriptor yX2_isTyped.desc).map (fun d => d.parameters.length) = some 1 by decide +kernel)⟩ (fun sz => c_isTyped_len hls hD hn σ 1 (by decide) cnt (by omega) e1 (by show cnt ≠ 5; omega) sz) rfl rfl (Nat.le_of_ble_eq_true rfl) ⟨Nat.le_of_ble_eq_true rfl, Nat.le_of_ble_eq_true rfl⟩ ⟨Nat.zero_le _, Nat.zero_le _⟩ dX2_spelt_12 ?_
  refine zw_if_eq X (tgt := 20) dX2_spelt_15 (by decide) (fun _ => ?_) (fun h_ => absurd rfl h_)
  refine zw_run X (is := [(20, .iinc 1 1, 3)]) (t' := (23, [some (.ref (ad 4)), some (.int (1 + 1))], [])) ⟨dX2_spelt_20, trivial⟩ rfl ?_
  rw [show (1 : Int32) + 1 = 2 from rfl]
  refine zw_go X (tgt := 2) dX2_spelt_23 (by decide) ?_
  refine zw_run X (is := [(2, .iload_n 1, 1), (3, .iconst 5, 1)]) (t' := (4, [some (.ref (ad 4)), some (.int 2)], [.int 5, .int 2])) ⟨dX2_spelt_2, dX2_spelt_3, trivial⟩ rfl ?_
  refine zw_icmp_ge X (tgt := 26) dX2_spelt_4 (by decide) (fun h_ => absurd h_ (by decide)) (fun _ => ?_)
  refine zw_run X (is := [(7, .aload_n 0, 1), (8, .iload_n 1, 1)]) (t' := (9, [some (.ref (ad 4)), some (.int 2)], [.int 2, .ref (ad 4)])) ⟨dX2_spelt_7, dX2_spelt_8, trivial⟩ rfl ?_
  refine zw_Sa X hAd (As := [.int 2]) (rest := [.ref (ad 4)]) (d := 0) ⟨zm_159, zm_160, zm_26, zm_161, by decide, by decide, (show (parseMethodDescriptor yX2_wordOf.desc).map (fun d => d.parameters.length) = some 1 by decide +kernel)⟩ (fun sz => c_wordOf_2 hls hD hn σ sz) rfl rfl (Nat.le_of_ble_eq_true rfl) ⟨Nat.le_of_ble_eq_true rfl, Nat.le_of_ble_eq_true rfl⟩ ⟨Nat.zero_le _, Nat.zero_le _⟩ dX2_spelt_9 ?_
  refine zw_Vi X hAd (As := [.ref (wa 2)]) (rest := []) (d := 5) (i := 4) (by omega) zc_4 (q := (RX2, TX2, 2)) rfl ⟨zm_162, zm_163, zm_164, zm_26, zm_165, rfl, by decide, by decide, (show (parseMethodDescriptor yX2_isTyped.desc).map (fun d => d.parameters.length) = some 1 by decide +kernel)⟩ (fun sz => c_isTyped_len hls hD hn σ 2 (by decide) cnt (by omega) e1 (by show cnt ≠ 5; omega) sz) rfl rfl (Nat.le_of_ble_eq_true rfl) ⟨Nat.le_of_ble_eq_true rfl, Nat.le_of_ble_eq_true rfl⟩ ⟨Nat.zero_le _, Nat.zero_le _⟩ dX2_spelt_12 ?_
  refine zw_if_eq X (tgt := 20) dX2_spelt_15 (by decide) (fun _ => ?_) (fun h_ => absurd rfl h_)
  refine zw_run X (is := [(20, .iinc 1 1, 3)]) (t' := (23, [some (.ref (ad 4)), some (.int (2 + 1))], [])) ⟨dX2_spelt_20, trivial⟩ rfl ?_
  rw [show (2 : Int32) + 1 = 3 from rfl]
  refine zw_go X (tgt := 2) dX2_spelt_23 (by decide) ?_
  refine zw_run X (is := [(2, .iload_n 1, 1), (3, .iconst 5, 1)]) (t' := (4, [some (.ref (ad 4)), some (.int 3)], [.int 5, .int 3])) ⟨dX2_spelt_2, dX2_spelt_3, trivial⟩ rfl ?_
  refine zw_icmp_ge X (tgt := 26) dX2_spelt_4 (by decide) (fun h_ => absurd h_ (by decide)) (fun _ => ?_)
  refine zw_run X (is := [(7, .aload_n 0, 1), (8, .iload_n 1, 1)]) (t' := (9, [some (.ref (ad 4)), some (.int 3)], [.int 3, .ref (ad 4)])) ⟨dX2_spelt_7, dX2_spelt_8, trivial⟩ rfl ?_
  refine zw_Sa X hAd (As := [.int 3]) (rest := [.ref (ad 4)]) (d := 0) ⟨zm_159, zm_160, zm_26, zm_161, by decide, by decide, (show (parseMethodDescriptor yX2_wordOf.desc).map (fun d => d.parameters.length) = some 1 by decide +kernel)⟩ (fun sz => c_wordOf_3 hls hD hn σ sz) rfl rfl (Nat.le_of_ble_eq_true rfl) ⟨Nat.le_of_ble_eq_true rfl, Nat.le_of_ble_eq_true rfl⟩ ⟨Nat.zero_le _, Nat.zero_le _⟩ dX2_spelt_9 ?_
  refine zw_Vi X hAd (As := [.ref (wa 3)]) (rest := []) (d := 5) (i := 4) (by omega) zc_4 (q := (RX2, TX2, 2)) rfl ⟨zm_162, zm_163, zm_164, zm_26, zm_165, rfl, by decide, by decide, (show (parseMethodDescriptor yX2_isTyped.desc).map (fun d => d.parameters.length) = some 1 by decide +kernel)⟩ (fun sz => c_isTyped_len hls hD hn σ 3 (by decide) cnt (by omega) e1 (by show cnt ≠ 7; omega) sz) rfl rfl (Nat.le_of_ble_eq_true rfl) ⟨Nat.le_of_ble_eq_true rfl, Nat.le_of_ble_eq_true rfl⟩ ⟨Nat.zero_le _, Nat.zero_le _⟩ dX2_spelt_12 ?_
  refine zw_if_eq X (tgt := 20) dX2_spelt_15 (by decide) (fun _ => ?_) (fun h_ => absurd rfl h_)
  refine zw_run X (is := [(20, .iinc 1 1, 3)]) (t' := (23, [some (.ref (ad 4)), some (.int (3 + 1))], [])) ⟨dX2_spelt_20, trivial⟩ rfl ?_
  rw [show (3 : Int32) + 1 = 4 from rfl]
  refine zw_go X (tgt := 2) dX2_spelt_23 (by decide) ?_
  refine zw_run X (is := [(2, .iload_n 1, 1), (3, .iconst 5, 1)]) (t' := (4, [some (.ref (ad 4)), some (.int 4)], [.int 5, .int 4])) ⟨dX2_spelt_2, dX2_spelt_3, trivial⟩ rfl ?_
  refine zw_icmp_ge X (tgt := 26) dX2_spelt_4 (by decide) (fun h_ => absurd h_ (by decide)) (fun _ => ?_)
  refine zw_run X (is := [(7, .aload_n 0, 1), (8, .iload_n 1, 1)]) (t' := (9, [some (.ref (ad 4)), some (.int 4)], [.int 4, .ref (ad 4)])) ⟨dX2_spelt_7, dX2_spelt_8, trivial⟩ rfl ?_
  refine zw_Sa X hAd (As := [.int 4]) (rest := [.ref (ad 4)]) (d := 0) ⟨zm_159, zm_160, zm_26, zm_161, by decide, by decide, (show (parseMethodDescriptor yX2_wordOf.desc).map (fun d => d.parameters.length) = some 1 by decide +kernel)⟩ (fun sz => c_wordOf_4 hls hD hn σ sz) rfl rfl (Nat.le_of_ble_eq_true rfl) ⟨Nat.le_of_ble_eq_true rfl, Nat.le_of_ble_eq_true rfl⟩ ⟨Nat.zero_le _, Nat.zero_le _⟩ dX2_spelt_9 ?_
  refine zw_Vi X hAd (As := [.ref (wa 4)]) (rest := []) (d := 5) (i := 4) (by omega) zc_4 (q := (RX2, TX2, 2)) rfl ⟨zm_162, zm_163, zm_164, zm_26, zm_165, rfl, by decide, by decide, (show (parseMethodDescriptor yX2_isTyped.desc).map (fun d => d.parameters.length) = some 1 by decide +kernel)⟩ (fun sz => c_isTyped_len hls hD hn σ 4 (by decide) cnt (by omega) e1 (by show cnt ≠ 4; omega) sz) rfl rfl (Nat.le_of_ble_eq_true rfl) ⟨Nat.le_of_ble_eq_true rfl, Nat.le_of_ble_eq_true rfl⟩ ⟨Nat.zero_le _, Nat.zero_le _⟩ dX2_spelt_12 ?_
  refine zw_if_eq X (tgt := 20) dX2_spelt_15 (by decide) (fun _ => ?_) (fun h_ => absurd rfl h_)
  refine zw_run X (is := [(20, .iinc 1 1, 3)]) (t' := (23, [some (.ref (ad 4)), some (.int (4 + 1))], [])) ⟨dX2_spelt_20, trivial⟩ rfl ?_
  rw [show (4 : Int32) + 1 = 5 from rfl]
  refine zw_go X (tgt := 2) dX2_spelt_23 (by decide) ?_
  refine zw_run X (is := [(2, .iload_n 1, 1), (3, .iconst 5, 1)]) (t' := (4, [some (.ref (ad 4)), some (.int 5)], [.int 5, .int 5])) ⟨dX2_spelt_2, dX2_spelt_3, trivial⟩ rfl ?_
  refine zw_icmp_ge X (tgt := 26) dX2_spelt_4 (by decide) (fun _ => ?_) (fun h_ => absurd (by decide) h_)
  refine zw_run X (is := [(26, .iconst (-1), 1)]) (t' := (27, [some (.ref (ad 4)), some (.int 5)], [.int ((-1))])) ⟨dX2_spelt_26, trivial⟩ rfl ?_
  exact zw_iret X hr dX2_spelt_27 rfl rfl rfl

theorem c_spelt {l : Launch} (hls : l.stackTraces = false) {D : va_G} {cy : Nat → ClassId} {wa : Nat → Nat} {N n : Nat} {ad : Nat → Nat} (hD : zD n ad) (hn : 40 ≤ n) (σ : zS) : ∀ (k : Nat) (_ : k < 5) (_ : σ 4 1 = nI (zlen k)) (_ : ∀ j, j < zlen k → (zbyt k).getD j 0 = σ 5 j) (sz : Nat), Met l yX2_spelt (.code yX2_spelt cX2_spelt 2 (some .int) :: zB) (zRm 7) (zPc [.ref (ad 4)] D cy wa N n ad σ sz) (zQi (nI k) D cy N n ad σ sz) 0 0 (zA n ad sz)
  | 0, _, e1, heq, sz => c_spelt_0 hls hD hn σ e1 heq sz
  | 1, _, e1, heq, sz => c_spelt_1 hls hD hn σ e1 heq sz
  | 2, _, e1, heq, sz => c_spelt_2 hls hD hn σ e1 heq sz
  | 3, _, e1, heq, sz => c_spelt_3 hls hD hn σ e1 heq sz
  | 4, _, e1, heq, sz => c_spelt_4 hls hD hn σ e1 heq sz
  | k + 5, h, _, _, _ => absurd h (by omega)

set_option maxHeartbeats 4000000 in
set_option maxRecDepth 100000 in
theorem c_typed {l : Launch} (hls : l.stackTraces = false) {D : va_G} {cy : Nat → ClassId} {wa : Nat → Nat} {N n : Nat} {ad : Nat → Nat} (hD : zD n ad) (hn : 40 ≤ n) (σ : zS) (k : Nat) (hk : k < 5) (e1 : σ 4 1 = nI (zlen k)) (heq : ∀ j, j < zlen k → (zbyt k).getD j 0 = σ 5 j)  (sz : Nat) : Met l yX7_typedSubject (.code yX7_typedSubject cX7_typedSubject 2 (some .int) :: zB) (zRm 9) (zPc [.ref (ad 0)] D cy wa N n ad σ sz) (zQi (nI k) D cy N n ad (σ) sz) 0 0 (zA n ad sz) := by
  refine z_met (by decide) hls (List.forall_mem_cons.mpr ⟨rfl, (fun _ h => nomatch h)⟩) (Nat.le_of_ble_eq_true rfl) (fun p_ e_ s_ m_ below_ meth_ c_ hsz hr X => ?_)
  have X : zX p_ l s_ m_ [.ref (ad 0)].toArray meth_ c_ cX7_typedSubject 2 RX7 D cy wa (zA n ad sz) := X
  have hAd : ∀ i, i < n → zA n ad sz (ad i) := fun i hi => Or.inl ⟨i, hi, rfl⟩
  refine zw_run X (is := [(0, .aload_n 0, 1)]) (t' := (1, [some (.ref (ad 0)), none], [.ref (ad 0)])) ⟨dX7_typedSubject_0, trivial⟩ rfl ?_
  refine zw_getf X (i := 0) (by omega) zc_0 (C := RX7) (T := TX7) (Nf := 16) rfl zi_X7 3 (by decide) rfl zm_27 rfl dX7_typedSubject_1 ?_
  refine zw_Vi X hAd (As := []) (rest := []) (d := 7) (i := 4) (by omega) zc_4 (q := (RX2, TX2, 2)) rfl ⟨zm_155, zm_156, zm_157, zm_26, zm_158, rfl, by decide, by decide, (show (parseMethodDescriptor yX2_spelt.desc).map (fun d => d.parameters.length) = some 0 by decide +kernel)⟩ (fun sz => c_spelt hls hD hn σ k hk e1 heq sz) rfl rfl (Nat.le_of_ble_eq_true rfl) ⟨Nat.le_of_ble_eq_true rfl, Nat.le_of_ble_eq_true rfl⟩ ⟨Nat.zero_le _, Nat.zero_le _⟩ dX7_typedSubject_4 ?_
  refine zw_run X (is := [(7, .istore_n 1, 1), (8, .iload_n 1, 1), (9, .iconst (-1), 1)]) (t' := (10, [some (.ref (ad 0)), some (.int (nI k))], [.int ((-1)), .int (nI k)])) ⟨dX7_typedSubject_7, dX7_typedSubject_8, dX7_typedSubject_9, trivial⟩ rfl ?_
  refine zw_icmp_ne X (tgt := 24) dX7_typedSubject_10 (by decide) (fun h_ => ?_) (fun h_ => absurd h_ (by rcases (show k = 0 ∨ k = 1 ∨ k = 2 ∨ k = 3 ∨ k = 4 by omega) with rfl | rfl | rfl | rfl | rfl <;> decide))
  refine zw_run X (is := [(24, .iload_n 1, 1)]) (t' := (25, [some (.ref (ad 0)), some (.int (nI k))], [.int (nI k)])) ⟨dX7_typedSubject_24, trivial⟩ rfl ?_
  exact zw_iret X hr dX7_typedSubject_25 rfl rfl rfl

set_option maxHeartbeats 4000000 in
set_option maxRecDepth 100000 in
theorem c_typed_x {l : Launch} (hls : l.stackTraces = false) {D : va_G} {cy : Nat → ClassId} {wa : Nat → Nat} {N n : Nat} {ad : Nat → Nat} (hD : zD n ad) (hn : 40 ≤ n) (σ : zS) (cnt : Nat) (hc : cnt = 0 ∨ cnt = 6) (e1 : σ 4 1 = nI cnt)  (sz : Nat) : vx_Met l yX7_typedSubject (.code yX7_typedSubject cX7_typedSubject 2 (some .int) :: zB) (zRx 9) (zPc [.ref (ad 0)] D cy wa N n ad σ sz) zNo (zXC "java/lang/UnsupportedOperationException" D cy N n ad (σ) sz) 1 6 (zA n ad sz) := by
  refine z_metx (by decide) hls (List.forall_mem_cons.mpr ⟨rfl, (fun _ h => nomatch h)⟩) (Nat.le_of_ble_eq_true rfl) (fun p_ e_ s_ m_ below_ meth_ c_ hsz hr hno X => ?_)
  have X : zX p_ l s_ m_ [.ref (ad 0)].toArray meth_ c_ cX7_typedSubject 2 RX7 D cy wa (zA n ad sz) := X
  have hAd : ∀ i, i < n → zA n ad sz (ad i) := fun i hi => Or.inl ⟨i, hi, rfl⟩
  refine zw_run X (is := [(0, .aload_n 0, 1)]) (t' := (1, [some (.ref (ad 0)), none], [.ref (ad 0)])) ⟨dX7_typedSubject_0, trivial⟩ rfl ?_
  refine zw_getf X (i := 0) (by omega) zc_0 (C := RX7) (T := TX7) (Nf := 16) rfl zi_X7 3 (by decide) rfl zm_27 rfl dX7_typedSubject_1 ?_
  refine zw_Vi X hAd (As := []) (rest := []) (d := 7) (i := 4) (by omega) zc_4 (q := (RX2, TX2, 2)) rfl ⟨zm_155, zm_156, zm_157, zm_26, zm_158, rfl, by decide, by decide, (show (parseMethodDescriptor yX2_spelt.desc).map (fun d => d.parameters.length) = some 0 by decide +kernel)⟩ (fun sz => c_spelt_none hls hD hn σ cnt hc e1 sz) rfl rfl (Nat.le_of_ble_eq_true rfl) ⟨Nat.le_of_ble_eq_true rfl, Nat.le_of_ble_eq_true rfl⟩ ⟨Nat.zero_le _, Nat.zero_le _⟩ dX7_typedSubject_4 ?_
  refine zw_run X (is := [(7, .istore_n 1, 1), (8, .iload_n 1, 1), (9, .iconst (-1), 1)]) (t' := (10, [some (.ref (ad 0)), some (.int ((-1)))], [.int ((-1)), .int ((-1))])) ⟨dX7_typedSubject_7, dX7_typedSubject_8, dX7_typedSubject_9, trivial⟩ rfl ?_
  refine zw_icmp_ne X (tgt := 24) dX7_typedSubject_10 (by decide) (fun h_ => absurd rfl h_) (fun h_ => ?_)
  exact zw_throwW X hno zTh_uoe (is := 374) (text := "no subject is typed") (by decide +kernel) rfl rfl dX7_typedSubject_13 dX7_typedSubject_16 dX7_typedSubject_17 dX7_typedSubject_20 dX7_typedSubject_23 ⟨Nat.le_of_ble_eq_true rfl, Nat.le_of_ble_eq_true rfl, Nat.le_of_ble_eq_true rfl, Nat.le_of_ble_eq_true rfl⟩ ⟨rfl, rfl⟩

set_option maxHeartbeats 4000000 in
set_option maxRecDepth 100000 in
theorem c_strike_x {l : Launch} (hls : l.stackTraces = false) {D : va_G} {cy : Nat → ClassId} {wa : Nat → Nat} {N n : Nat} {ad : Nat → Nat} (hD : zD n ad) (hn : 40 ≤ n) (σ : zS) (cnt : Nat) (hc : cnt = 0 ∨ cnt = 6) (e1 : σ 4 1 = nI cnt) (w : Int32) (sz : Nat) : vx_Met l yX7_strike (.code yX7_strike cX7_strike 4 (some .boolean) :: zB) (zRx 10) (zPc [.ref (ad 0), .int w] D cy wa N n ad σ sz) zNo (zXC "java/lang/UnsupportedOperationException" D cy N n ad (σ) sz) 1 6 (zA n ad sz) := by
  refine z_metx (by decide) hls (List.forall_mem_cons.mpr ⟨rfl, (List.forall_mem_cons.mpr ⟨rfl, (fun _ h => nomatch h)⟩)⟩) (Nat.le_of_ble_eq_true rfl) (fun p_ e_ s_ m_ below_ meth_ c_ hsz hr hno X => ?_)
  have X : zX p_ l s_ m_ [.ref (ad 0), .int w].toArray meth_ c_ cX7_strike 4 RX7 D cy wa (zA n ad sz) := X
  have hAd : ∀ i, i < n → zA n ad sz (ad i) := fun i hi => Or.inl ⟨i, hi, rfl⟩
  refine zw_run X (is := [(0, .aload_n 0, 1)]) (t' := (1, [some (.ref (ad 0)), some (.int w), none, none], [.ref (ad 0)])) ⟨dX7_strike_0, trivial⟩ rfl ?_
  exact zw_Vo X hno hAd rfl (As := []) (rest := []) (d := 9) (i := 0) (by omega) zc_0 (q := (RX7, TX7, 16)) rfl ⟨zm_149, zm_150, zm_151, zm_2, zm_152, rfl, by decide, by decide, (show (parseMethodDescriptor yX7_typedSubject.desc).map (fun d => d.parameters.length) = some 0 by decide +kernel)⟩ (fun sz => c_typed_x hls hD hn σ cnt hc e1 sz) rfl rfl (Nat.le_of_ble_eq_true rfl) ⟨Nat.le_of_ble_eq_true rfl, Nat.le_of_ble_eq_true rfl⟩ ⟨Nat.le_of_ble_eq_true rfl, Nat.le_of_ble_eq_true rfl⟩ dX7_strike_1

set_option maxHeartbeats 4000000 in
set_option maxRecDepth 100000 in
theorem c_subject_none {l : Launch} (hls : l.stackTraces = false) {D : va_G} {cy : Nat → ClassId} {wa : Nat → Nat} {N n : Nat} {ad : Nat → Nat} (hD : zD n ad) (hn : 40 ≤ n) (σ : zS) (gc : Nat) (hgc : gc ≤ 8) (e0 : σ 0 11 = nI gc) (g : Nat) (hg : g < gc) (cnt : Nat) (hc : cnt = 0 ∨ cnt = 6) (e1 : σ 4 1 = nI cnt)  (sz : Nat) : vx_Met l yX7_subject (.code yX7_subject cX7_subject 5 (some .char) :: zB) (zRx 10) (zPc [.ref (ad 0), .int (nI g)] D cy wa N n ad σ sz) zNo (zXC "java/lang/UnsupportedOperationException" D cy N n ad (σ) sz) 1 6 (zA n ad sz) := by
  refine z_metx (by decide) hls (List.forall_mem_cons.mpr ⟨rfl, (List.forall_mem_cons.mpr ⟨rfl, (fun _ h => nomatch h)⟩)⟩) (Nat.le_of_ble_eq_true rfl) (fun p_ e_ s_ m_ below_ meth_ c_ hsz hr hno X => ?_)
  have X : zX p_ l s_ m_ [.ref (ad 0), .int (nI g)].toArray meth_ c_ cX7_subject 5 RX7 D cy wa (zA n ad sz) := X
  have hAd : ∀ i, i < n → zA n ad sz (ad i) := fun i hi => Or.inl ⟨i, hi, rfl⟩
  have hg8 : g < 8 := by omega
  refine zw_run X (is := [(0, .aload_n 0, 1), (1, .iload_n 1, 1)]) (t' := (2, [some (.ref (ad 0)), some (.int (nI g)), none, none, none], [.int (nI g), .ref (ad 0)])) ⟨dX7_subject_0, dX7_subject_1, trivial⟩ rfl ?_
  refine zw_Vv X hAd (As := [.int (nI g)]) (rest := []) (d := 0) (i := 0) (by omega) zc_0 (q := (RX7, TX7, 16)) rfl ⟨zm_135, zm_136, zm_137, zm_2, zm_138, rfl, by decide, by decide, (show (parseMethodDescriptor yX7_needGuild.desc).map (fun d => d.parameters.length) = some 1 by decide +kernel)⟩ (fun sz => c_needGuild hls hD hn σ gc hgc e0 g hg sz) rfl rfl (Nat.le_of_ble_eq_true rfl) ⟨Nat.le_of_ble_eq_true rfl, Nat.le_of_ble_eq_true rfl⟩ ⟨Nat.zero_le _, Nat.zero_le _⟩ dX7_subject_2 ?_
  refine zw_run X (is := [(5, .aload_n 0, 1)]) (t' := (6, [some (.ref (ad 0)), some (.int (nI g)), none, none, none], [.ref (ad 0)])) ⟨dX7_subject_5, trivial⟩ rfl ?_
  exact zw_Vo X hno hAd rfl (As := []) (rest := []) (d := 9) (i := 0) (by omega) zc_0 (q := (RX7, TX7, 16)) rfl ⟨zm_149, zm_150, zm_151, zm_2, zm_152, rfl, by decide, by decide, (show (parseMethodDescriptor yX7_typedSubject.desc).map (fun d => d.parameters.length) = some 0 by decide +kernel)⟩ (fun sz => c_typed_x hls hD hn σ cnt hc e1 sz) rfl rfl (Nat.le_of_ble_eq_true rfl) ⟨Nat.le_of_ble_eq_true rfl, Nat.le_of_ble_eq_true rfl⟩ ⟨Nat.le_of_ble_eq_true rfl, Nat.le_of_ble_eq_true rfl⟩ dX7_subject_6

set_option maxHeartbeats 4000000 in
set_option maxRecDepth 100000 in
theorem c_subject_over {l : Launch} (hls : l.stackTraces = false) {D : va_G} {cy : Nat → ClassId} {wa : Nat → Nat} {N n : Nat} {ad : Nat → Nat} (hD : zD n ad) (hn : 40 ≤ n) (σ : zS) (gc : Nat) (hgc : gc ≤ 8) (e0 : σ 0 11 = nI gc) (g : Nat) (hg : g < gc) (k : Nat) (hk : k < 5) (e1 : σ 4 1 = nI (zlen k)) (heq : ∀ j, j < zlen k → (zbyt k).getD j 0 = σ 5 j) (ho : ¬ σ (8 + g) 2 = 0) (sz : Nat) : vx_Met l yX7_subject (.code yX7_subject cX7_subject 5 (some .char) :: zB) (zRx 10) (zPc [.ref (ad 0), .int (nI g)] D cy wa N n ad σ sz) zNo (zXC "java/lang/UnsupportedOperationException" D cy N n ad (σ) sz) 1 6 (zA n ad sz) := by
  refine z_metx (by decide) hls (List.forall_mem_cons.mpr ⟨rfl, (List.forall_mem_cons.mpr ⟨rfl, (fun _ h => nomatch h)⟩)⟩) (Nat.le_of_ble_eq_true rfl) (fun p_ e_ s_ m_ below_ meth_ c_ hsz hr hno X => ?_)
  have X : zX p_ l s_ m_ [.ref (ad 0), .int (nI g)].toArray meth_ c_ cX7_subject 5 RX7 D cy wa (zA n ad sz) := X
  have hAd : ∀ i, i < n → zA n ad sz (ad i) := fun i hi => Or.inl ⟨i, hi, rfl⟩
  have hg8 : g < 8 := by omega
  refine zw_run X (is := [(0, .aload_n 0, 1), (1, .iload_n 1, 1)]) (t' := (2, [some (.ref (ad 0)), some (.int (nI g)), none, none, none], [.int (nI g), .ref (ad 0)])) ⟨dX7_subject_0, dX7_subject_1, trivial⟩ rfl ?_
  refine zw_Vv X hAd (As := [.int (nI g)]) (rest := []) (d := 0) (i := 0) (by omega) zc_0 (q := (RX7, TX7, 16)) rfl ⟨zm_135, zm_136, zm_137, zm_2, zm_138, rfl, by decide, by decide, (show (parseMethodDescriptor yX7_needGuild.desc).map (fun d => d.parameters.length) = some 1 by decide +kernel)⟩ (fun sz => c_needGuild hls hD hn σ gc hgc e0 g hg sz) rfl rfl (Nat.le_of_ble_eq_true rfl) ⟨Nat.le_of_ble_eq_true rfl, Nat.le_of_ble_eq_true rfl⟩ ⟨Nat.zero_le _, Nat.zero_le _⟩ dX7_subject_2 ?_
  refine zw_run X (is := [(5, .aload_n 0, 1)]) (t' := (6, [some (.ref (ad 0)), some (.int (nI g)), none, none, none], [.ref (ad 0)])) ⟨dX7_subject_5, trivial⟩ rfl ?_
  refine zw_Vi X hAd (As := []) (rest := []) (d := 9) (i := 0) (by omega) zc_0 (q := (RX7, TX7, 16)) rfl ⟨zm_149, zm_150, zm_151, zm_2, zm_152, rfl, by decide, by decide, (show (parseMethodDescriptor yX7_typedSubject.desc).map (fun d => d.parameters.length) = some 0 by decide +kernel)⟩ (fun sz => c_typed hls hD hn σ k hk e1 heq sz) rfl rfl (Nat.le_of_ble_eq_true rfl) ⟨Nat.le_of_ble_eq_true rfl, Nat.le_of_ble_eq_true rfl⟩ ⟨Nat.zero_le _, Nat.zero_le _⟩ dX7_subject_6 ?_
  refine zw_run X (is := [(9, .istore_n 2, 1), (10, .aload_n 0, 1), (11, .iload_n 1, 1)]) (t' := (12, [some (.ref (ad 0)), some (.int (nI g)), some (.int (nI k)), none, none], [.int (nI g), .ref (ad 0)])) ⟨dX7_subject_9, dX7_subject_10, dX7_subject_11, trivial⟩ rfl ?_
  exact zw_Vo X hno hAd rfl (As := [.int (nI g)]) (rest := []) (d := 0) (i := 0) (by omega) zc_0 (q := (RX7, TX7, 16)) rfl ⟨zm_240, zm_241, zm_242, zm_2, zm_243, rfl, by decide, by decide, (show (parseMethodDescriptor yX7_needNotOver.desc).map (fun d => d.parameters.length) = some 1 by decide +kernel)⟩ (fun sz => c_needNotOver_x hls hD hn σ g hg8 ho sz) rfl rfl (Nat.le_of_ble_eq_true rfl) ⟨Nat.le_of_ble_eq_true rfl, Nat.le_of_ble_eq_true rfl⟩ ⟨Nat.le_of_ble_eq_true rfl, Nat.le_of_ble_eq_true rfl⟩ dX7_subject_12

set_option maxHeartbeats 4000000 in
set_option maxRecDepth 100000 in
theorem c_subject {l : Launch} (hls : l.stackTraces = false) {D : va_G} {cy : Nat → ClassId} {wa : Nat → Nat} {N n : Nat} {ad : Nat → Nat} (hD : zD n ad) (hn : 40 ≤ n) (σ : zS) (gc : Nat) (hgc : gc ≤ 8) (e0 : σ 0 11 = nI gc) (g : Nat) (hg : g < gc) (k : Nat) (hk : k < 5) (e1 : σ 4 1 = nI (zlen k)) (heq : ∀ j, j < zlen k → (zbyt k).getD j 0 = σ 5 j) (ho : σ (8 + g) 2 = 0) (tp : Nat) (htp : tp < 5) (et : σ (16 + g) 2 = nI tp) (sz : Nat) : Met l yX7_subject (.code yX7_subject cX7_subject 5 (some .char) :: zB) (zRm 10) (zPc [.ref (ad 0), .int (nI g)] D cy wa N n ad σ sz) (zQi ((zbyt tp).getD 0 0) D cy N n ad (zu σ (16 + g) 2 (nI k)) sz) 0 0 (zA n ad sz) := by
  refine z_met (by decide) hls (List.forall_mem_cons.mpr ⟨rfl, (List.forall_mem_cons.mpr ⟨rfl, (fun _ h => nomatch h)⟩)⟩) (Nat.le_of_ble_eq_true rfl) (fun p_ e_ s_ m_ below_ meth_ c_ hsz hr X => ?_)
  have X : zX p_ l s_ m_ [.ref (ad 0), .int (nI g)].toArray meth_ c_ cX7_subject 5 RX7 D cy wa (zA n ad sz) := X
  have hAd : ∀ i, i < n → zA n ad sz (ad i) := fun i hi => Or.inl ⟨i, hi, rfl⟩
  have hg8 : g < 8 := by omega
  have hnr : narrow .char (.int ((zbyt tp).getD 0 0)) = .int ((zbyt tp).getD 0 0) := by rw [← zch tp (by omega) 0 (by have := zlen_le tp (by omega); omega)]; exact pk_nc _
  refine zw_run X (is := [(0, .aload_n 0, 1), (1, .iload_n 1, 1)]) (t' := (2, [some (.ref (ad 0)), some (.int (nI g)), none, none, none], [.int (nI g), .ref (ad 0)])) ⟨dX7_subject_0, dX7_subject_1, trivial⟩ rfl ?_
  refine zw_Vv X hAd (As := [.int (nI g)]) (rest := []) (d := 0) (i := 0) (by omega) zc_0 (q := (RX7, TX7, 16)) rfl ⟨zm_135, zm_136, zm_137, zm_2, zm_138, rfl, by decide, by decide, (show (parseMethodDescriptor yX7_needGuild.desc).map (fun d => d.parameters.length) = some 1 by decide +kernel)⟩ (fun sz => c_needGuild hls hD hn σ gc hgc e0 g hg sz) rfl rfl (Nat.le_of_ble_eq_true rfl) ⟨Nat.le_of_ble_eq_true rfl, Nat.le_of_ble_eq_true rfl⟩ ⟨Nat.zero_le _, Nat.zero_le _⟩ dX7_subject_2 ?_
  refine zw_run X (is := [(5, .aload_n 0, 1)]) (t' := (6, [some (.ref (ad 0)), some (.int (nI g)), none, none, none], [.ref (ad 0)])) ⟨dX7_subject_5, trivial⟩ rfl ?_
  refine zw_Vi X hAd (As := []) (rest := []) (d := 9) (i := 0) (by omega) zc_0 (q := (RX7, TX7, 16)) rfl ⟨zm_149, zm_150, zm_151, zm_2, zm_152, rfl, by decide, by decide, (show (parseMethodDescriptor yX7_typedSubject.desc).map (fun d => d.parameters.length) = some 0 by decide +kernel)⟩ (fun sz => c_typed hls hD hn σ k hk e1 heq sz) rfl rfl (Nat.le_of_ble_eq_true rfl) ⟨Nat.le_of_ble_eq_true rfl, Nat.le_of_ble_eq_true rfl⟩ ⟨Nat.zero_le _, Nat.zero_le _⟩ dX7_subject_6 ?_
  refine zw_run X (is := [(9, .istore_n 2, 1), (10, .aload_n 0, 1), (11, .iload_n 1, 1)]) (t' := (12, [some (.ref (ad 0)), some (.int (nI g)), some (.int (nI k)), none, none], [.int (nI g), .ref (ad 0)])) ⟨dX7_subject_9, dX7_subject_10, dX7_subject_11, trivial⟩ rfl ?_
  refine zw_Vv X hAd (As := [.int (nI g)]) (rest := []) (d := 0) (i := 0) (by omega) zc_0 (q := (RX7, TX7, 16)) rfl ⟨zm_240, zm_241, zm_242, zm_2, zm_243, rfl, by decide, by decide, (show (parseMethodDescriptor yX7_needNotOver.desc).map (fun d => d.parameters.length) = some 1 by decide +kernel)⟩ (fun sz => c_needNotOver hls hD hn σ g hg8 ho sz) rfl rfl (Nat.le_of_ble_eq_true rfl) ⟨Nat.le_of_ble_eq_true rfl, Nat.le_of_ble_eq_true rfl⟩ ⟨Nat.zero_le _, Nat.zero_le _⟩ dX7_subject_12 ?_
  refine zw_run X (is := [(15, .aload_n 0, 1)]) (t' := (16, [some (.ref (ad 0)), some (.int (nI g)), some (.int (nI k)), none, none], [.ref (ad 0)])) ⟨dX7_subject_15, trivial⟩ rfl ?_
  refine zw_getf X (i := 0) (by omega) zc_0 (C := RX7) (T := TX7) (Nf := 16) rfl zi_X7 0 (by decide) rfl zm_18 rfl dX7_subject_16 ?_
  refine zw_run X (is := [(19, .iload_n 1, 1)]) (t' := (20, [some (.ref (ad 0)), some (.int (nI g)), some (.int (nI k)), none, none], [.int (nI g), .ref (ad 1)])) ⟨dX7_subject_19, trivial⟩ rfl ?_
  refine zw_guild X (by omega) (g := g) rfl hg8 dX7_subject_20 ?_
  refine zw_getf X (i := 8 + g) (by omega) (zc_G hg8) (C := RX1) (T := TX1) (Nf := 7) rfl zi_X1 6 (by decide) rfl zm_112 rfl dX7_subject_21 ?_
  refine zw_run X (is := [(24, .astore_n 3, 1), (25, .aload_n 3, 1)]) (t' := (26, [some (.ref (ad 0)), some (.int (nI g)), some (.int (nI k)), some (.ref (ad (16 + g))), none], [.ref (ad (16 + g))])) ⟨dX7_subject_24, dX7_subject_25, trivial⟩ rfl ?_
  refine zw_getf X (i := 16 + g) (by omega) (zc_P hg8) (C := RX4) (T := TX4) (Nf := 7) rfl zi_X4 2 (by decide) rfl zm_334 rfl dX7_subject_26 ?_
  rw [et]
  refine zw_Sa X hAd (As := [.int (nI tp)]) (rest := []) (d := 0) ⟨zm_335, zm_160, zm_26, zm_161, by decide, by decide, (show (parseMethodDescriptor yX2_wordOf.desc).map (fun d => d.parameters.length) = some 1 by decide +kernel)⟩ (fun sz => c_wordOf hls hD hn σ tp htp sz) rfl rfl (Nat.le_of_ble_eq_true rfl) ⟨Nat.le_of_ble_eq_true rfl, Nat.le_of_ble_eq_true rfl⟩ ⟨Nat.zero_le _, Nat.zero_le _⟩ dX7_subject_29 ?_
  refine zw_run X (is := [(32, .iconst 0, 1)]) (t' := (33, [some (.ref (ad 0)), some (.int (nI g)), some (.int (nI k)), some (.ref (ad (16 + g))), none], [.int 0, .ref (wa tp)])) ⟨dX7_subject_32, trivial⟩ rfl ?_
  rw [show (0 : Int32) = nI 0 from rfl]
  refine zw_Gi X hAd (As := [.int (nI 0)]) (rest := []) (d := 3) (zE_at tp (by omega) _ _ _ X.2.2.2.2.2.2.2.2.1).1 ⟨zm_336, zm_180, zm_181, zm_170, zm_182, rfl, by decide, by decide, (show (parseMethodDescriptor yJ0_charAt_5068e.desc).map (fun d => d.parameters.length) = some 1 by decide +kernel)⟩ (fun sz => c_charAt hls hD hn σ (wa tp) (wa (10 + tp)) (zlen tp) (zbyt tp) (by have := zlen_le tp (by omega); omega) (zE_at tp (by omega)) 0 (by have := zlen_le tp (by omega); omega) (zch tp (by omega) 0 (by have := zlen_le tp (by omega); omega)) sz) rfl rfl (Nat.le_of_ble_eq_true rfl) ⟨Nat.le_of_ble_eq_true rfl, Nat.le_of_ble_eq_true rfl⟩ ⟨Nat.zero_le _, Nat.zero_le _⟩ dX7_subject_33 ?_
  refine zw_run X (is := [(36, .istore 4, 2), (38, .aload_n 3, 1), (39, .iload_n 2, 1)]) (t' := (40, [some (.ref (ad 0)), some (.int (nI g)), some (.int (nI k)), some (.ref (ad (16 + g))), some (.int ((zbyt tp).getD 0 0))], [.int (nI k), .ref (ad (16 + g))])) ⟨dX7_subject_36, dX7_subject_38, dX7_subject_39, trivial⟩ rfl ?_
  refine zw_put X hD hAd (i := 16 + g) (by omega) (zc_P hg8) (C := RX4) (T := TX4) (Nf := 7) rfl zi_X4 tyX4 tyX4_ok nmX4 2 (by decide) rfl rfl zm_334 (ty := .int) (by decide +kernel) rfl rfl (Nat.le_of_ble_eq_true rfl) (zc_P hg8) dX7_subject_40 ?_
  refine zw_run X (is := [(43, .iload 4, 2)]) (t' := (45, [some (.ref (ad 0)), some (.int (nI g)), some (.int (nI k)), some (.ref (ad (16 + g))), some (.int ((zbyt tp).getD 0 0))], [.int ((zbyt tp).getD 0 0)])) ⟨dX7_subject_43, trivial⟩ rfl ?_
  exact zw_zret X hr dX7_subject_45 hnr rfl rfl rfl
