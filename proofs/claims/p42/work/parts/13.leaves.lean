theorem z_leaf {b : Nat} (hb : b ≤ 600) : (nI b + 40 - 1) / 40 = nI ((b + 39) / 40) := by
  rw [show (40 : Int32) = nI 40 from rfl, nI_add, show (1 : Int32) = nI 1 from rfl, pk_sub (by omega), show b + 40 - 1 = b + 39 by omega]
  exact pk_div (by omega) (by omega) (by omega)
theorem z_last {b k : Nat} (hb : b ≤ 600) (hk : k < 15) : (if (nI k + 1) * 40 < nI b then (nI k + 1) * 40 else nI b) = nI (min b ((k + 1) * 40)) := by
  rw [nI_1, show (40 : Int32) = nI 40 from rfl, pk_mul]
  by_cases h : (k + 1) * 40 < b
  · rw [if_pos ((nI_ltI (by omega) (by omega)).mpr h), Nat.min_eq_right (by omega)]
  · rw [if_neg (fun q => h ((nI_ltI (by omega) (by omega)).mp q)), Nat.min_eq_left (by omega)]
/-- the lines that are known of the first k leaves -/
def zkn (lo : Nat → Int32) (b : Nat) : Nat → Nat
  | 0 => 0
  | k + 1 => zkn lo b k + (if lo k = 0 then min b ((k + 1) * 40) - k * 40 else 0)
def zcl (σ : zS) (i : Nat) : Nat → zS
  | 0 => σ
  | k + 1 => zu (zcl σ i k) i k 0
theorem zcl_off {σ : zS} {i a : Nat} (h : a ≠ i) : ∀ k, zcl σ i k a = σ a
  | 0 => rfl
  | k + 1 => by
    show zu (zcl σ i k) i k 0 a = σ a
    rw [zu_off h, zcl_off h k]

set_option maxHeartbeats 4000000 in
set_option maxRecDepth 100000 in
theorem c_leafN {l : Launch} (hls : l.stackTraces = false) {D : va_G} {cy : Nat → ClassId} {wa : Nat → Nat} {N n : Nat} {ad : Nat → Nat} (hD : zD n ad) (hn : 40 ≤ n) (σ : zS) (g : Nat) (hg8 : g < 8) (b : Nat) (hb : b ≤ 600) (eb : σ (16 + g) 4 = nI b)  (sz : Nat) : Met l yX4_leafCount (.code yX4_leafCount cX4_leafCount 1 (some .int) :: zB) (zRm 0) (zPc [.ref (ad (16 + g))] D cy wa N n ad σ sz) (zQi (nI ((b + 39) / 40)) D cy N n ad (σ) sz) 0 0 (zA n ad sz) := by
  refine z_met (by decide) hls (List.forall_mem_cons.mpr ⟨rfl, (fun _ h => nomatch h)⟩) (Nat.le_of_ble_eq_true rfl) (fun p_ e_ s_ m_ below_ meth_ c_ hsz hr X => ?_)
  have X : zX p_ l s_ m_ [.ref (ad (16 + g))].toArray meth_ c_ cX4_leafCount 1 RX4 D cy wa (zA n ad sz) := X
  have hAd : ∀ i, i < n → zA n ad sz (ad i) := fun i hi => Or.inl ⟨i, hi, rfl⟩
  refine zw_run X (is := [(0, .aload_n 0, 1)]) (t' := (1, [some (.ref (ad (16 + g)))], [.ref (ad (16 + g))])) ⟨dX4_leafCount_0, trivial⟩ rfl ?_
  refine zw_getf X (i := 16 + g) (by omega) (zc_P hg8) (C := RX4) (T := TX4) (Nf := 7) rfl zi_X4 4 (by decide) rfl zm_124 rfl dX4_leafCount_1 ?_
  refine zw_run X (is := [(4, .bipush 40, 2), (6, .iadd, 1), (7, .iconst 1, 1), (8, .isub, 1), (9, .bipush 40, 2)]) (t' := (11, [some (.ref (ad (16 + g)))], [.int 40, .int (((σ (16 + g) 4) + 40) - 1)])) ⟨dX4_leafCount_4, dX4_leafCount_6, dX4_leafCount_7, dX4_leafCount_8, dX4_leafCount_9, trivial⟩ rfl ?_
  refine zw_div X (by decide) dX4_leafCount_11 ?_
  exact zw_iret X hr dX4_leafCount_12 rfl (by rw [eb]; exact z_leaf hb) rfl

set_option maxHeartbeats 4000000 in
set_option maxRecDepth 100000 in
theorem c_lastLine {l : Launch} (hls : l.stackTraces = false) {D : va_G} {cy : Nat → ClassId} {wa : Nat → Nat} {N n : Nat} {ad : Nat → Nat} (hD : zD n ad) (hn : 40 ≤ n) (σ : zS) (g : Nat) (hg8 : g < 8) (b : Nat) (hb : b ≤ 600) (eb : σ (16 + g) 4 = nI b) (k : Nat) (hk : k < 15) (sz : Nat) : Met l yX4_lastLineOf (.code yX4_lastLineOf cX4_lastLineOf 2 (some .int) :: zB) (zRm 1) (zPc [.ref (ad (16 + g)), .int (nI k)] D cy wa N n ad σ sz) (zQi (nI (min b ((k + 1) * 40))) D cy N n ad (σ) sz) 0 0 (zA n ad sz) := by
  refine z_met (by decide) hls (List.forall_mem_cons.mpr ⟨rfl, (List.forall_mem_cons.mpr ⟨rfl, (fun _ h => nomatch h)⟩)⟩) (Nat.le_of_ble_eq_true rfl) (fun p_ e_ s_ m_ below_ meth_ c_ hsz hr X => ?_)
  have X : zX p_ l s_ m_ [.ref (ad (16 + g)), .int (nI k)].toArray meth_ c_ cX4_lastLineOf 2 RX4 D cy wa (zA n ad sz) := X
  have hAd : ∀ i, i < n → zA n ad sz (ad i) := fun i hi => Or.inl ⟨i, hi, rfl⟩
  refine zw_run X (is := [(0, .aload_n 0, 1)]) (t' := (1, [some (.ref (ad (16 + g))), some (.int (nI k))], [.ref (ad (16 + g))])) ⟨dX4_lastLineOf_0, trivial⟩ rfl ?_
  refine zw_getf X (i := 16 + g) (by omega) (zc_P hg8) (C := RX4) (T := TX4) (Nf := 7) rfl zi_X4 4 (by decide) rfl zm_124 rfl dX4_lastLineOf_1 ?_
  refine zw_run X (is := [(4, .iload_n 1, 1), (5, .iconst 1, 1), (6, .iadd, 1), (7, .bipush 40, 2), (9, .imul, 1)]) (t' := (10, [some (.ref (ad (16 + g))), some (.int (nI k))], [.int (((nI k) + 1) * 40), .int (σ (16 + g) 4)])) ⟨dX4_lastLineOf_4, dX4_lastLineOf_5, dX4_lastLineOf_6, dX4_lastLineOf_7, dX4_lastLineOf_9, trivial⟩ rfl ?_
  refine zw_min X zm_354 zm_237 zm_238 zm_239 rfl ⟨Nat.le_of_ble_eq_true rfl, Nat.le_of_ble_eq_true rfl⟩ ⟨Nat.zero_le _, Nat.zero_le _⟩ (v := nI (min b ((k + 1) * 40))) (by rw [eb]; exact z_last hb hk) dX4_lastLineOf_10 ?_
  exact zw_iret X hr dX4_lastLineOf_13 rfl rfl rfl

set_option maxHeartbeats 4000000 in
set_option maxRecDepth 100000 in
theorem lp_known {p : Program} {l : Launch} {e : Env} {R : Room} {s : State} {m : MethodId} {args : Array Value} {below : List Frame} {meth : Method} {c : Code} {D : va_G} {cy : Nat → ClassId} {wa : Nat → Nat} {N : Nat} {A : Nat → Prop} {n : Nat} {ad : Nat → Nat} {cells slots : Nat} {Q : State → Prop} (X : zX p l s m args meth c cX4_knownLines 4 RX4 D cy wa A) (hD : zD n ad) (hAd : ∀ i, i < n → A (ad i)) (hn : 40 ≤ n) (σ : zS) (hls : l.stackTraces = false) (hR : 2 ≤ R.frames ∧ 80 ≤ R.locals ∧ cells ≤ R.cells ∧ slots ≤ R.slots) (g : Nat) (hg8 : g < 8) (b : Nat) (hb : b ≤ 600) (eb : σ (16 + g) 4 = nI b)  (kk : zW p l e R s m args below meth c D cy N A n ad cells slots Q (42, [some (.ref (ad (16 + g))), some (.int (nI (zkn (σ (32 + g)) b ((b + 39) / 40)))), some (.int (nI ((b + 39) / 40))), some (.int (nI ((b + 39) / 40)))], []) (σ)) : ∀ (d k : Nat), k + d = (b + 39) / 40 → zW p l e R s m args below meth c D cy N A n ad cells slots Q (9, [some (.ref (ad (16 + g))), some (.int (nI (zkn (σ (32 + g)) b k))), some (.int (nI ((b + 39) / 40))), some (.int (nI k))], []) (σ) := by
  intro d
  induction d with
  | zero =>
    intro k hk
    obtain rfl : k = (b + 39) / 40 := by omega
    refine zw_run X (is := [(9, .iload_n 3, 1), (10, .iload_n 2, 1)]) (t' := (11, [some (.ref (ad (16 + g))), some (.int (nI (zkn (σ (32 + g)) b ((b + 39) / 40)))), some (.int (nI ((b + 39) / 40))), some (.int (nI ((b + 39) / 40)))], [.int (nI ((b + 39) / 40)), .int (nI ((b + 39) / 40))])) ⟨dX4_knownLines_9, dX4_knownLines_10, trivial⟩ rfl ?_
    refine zw_icmp_ge X (tgt := 42) dX4_knownLines_11 (by decide) (fun _ => ?_) (fun h_ => absurd (nI_le (Nat.le_refl _) (by omega)) h_)
    exact kk
  | succ d ih =>
    intro k hk
    have hk15 : k < 15 := by omega
    refine zw_run X (is := [(9, .iload_n 3, 1), (10, .iload_n 2, 1)]) (t' := (11, [some (.ref (ad (16 + g))), some (.int (nI (zkn (σ (32 + g)) b k))), some (.int (nI ((b + 39) / 40))), some (.int (nI k))], [.int (nI ((b + 39) / 40)), .int (nI k)])) ⟨dX4_knownLines_9, dX4_knownLines_10, trivial⟩ rfl ?_
    refine zw_icmp_ge X (tgt := 42) dX4_knownLines_11 (by decide) (fun h_ => absurd h_ (nI_ge (by omega) (by omega))) (fun _ => ?_)
    refine zw_run X (is := [(14, .aload_n 0, 1)]) (t' := (15, [some (.ref (ad (16 + g))), some (.int (nI (zkn (σ (32 + g)) b k))), some (.int (nI ((b + 39) / 40))), some (.int (nI k))], [.ref (ad (16 + g))])) ⟨dX4_knownLines_14, trivial⟩ rfl ?_
    refine zw_getf X (i := 16 + g) (by omega) (zc_P hg8) (C := RX4) (T := TX4) (Nf := 7) rfl zi_X4 6 (by decide) rfl zm_88 rfl dX4_knownLines_15 ?_
    refine zw_run X (is := [(18, .iload_n 3, 1)]) (t' := (19, [some (.ref (ad (16 + g))), some (.int (nI (zkn (σ (32 + g)) b k))), some (.int (nI ((b + 39) / 40))), some (.int (nI k))], [.int (nI k), .ref (ad (32 + g))])) ⟨dX4_knownLines_18, trivial⟩ rfl ?_
    refine zw_zald X (i := 32 + g) (by omega) (len := 15) (zc_L hg8) (j := k) rfl hk15 (by decide) dX4_knownLines_19 ?_
    refine zw_if_ne X (tgt := 36) dX4_knownLines_20 (by decide) (fun h20 => ?_) (fun h20 => ?_)
    · refine zw_run X (is := [(36, .iinc 3 1, 3)]) (t' := (39, [some (.ref (ad (16 + g))), some (.int (nI (zkn (σ (32 + g)) b k))), some (.int (nI ((b + 39) / 40))), some (.int (nI k + 1))], [])) ⟨dX4_knownLines_36, trivial⟩ rfl ?_
      refine zw_go X (tgt := 9) dX4_knownLines_39 (by decide) ?_
      rw [nI_1]
      have e9 : zkn (σ (32 + g)) b (k + 1) = zkn (σ (32 + g)) b k := by show zkn (σ (32 + g)) b k + (if σ (32 + g) k = 0 then _ else 0) = _; rw [if_neg h20, Nat.add_zero]
      have := ih (k + 1) (by omega)
      rw [e9] at this
      exact this
    · refine zw_run X (is := [(23, .iload_n 1, 1), (24, .aload_n 0, 1), (25, .iload_n 3, 1)]) (t' := (26, [some (.ref (ad (16 + g))), some (.int (nI (zkn (σ (32 + g)) b k))), some (.int (nI ((b + 39) / 40))), some (.int (nI k))], [.int (nI k), .ref (ad (16 + g)), .int (nI (zkn (σ (32 + g)) b k))])) ⟨dX4_knownLines_23, dX4_knownLines_24, dX4_knownLines_25, trivial⟩ rfl ?_
      refine zw_Vi X hAd (As := [.int (nI k)]) (rest := [.int (nI (zkn (σ (32 + g)) b k))]) (d := 1) (i := 16 + g) (by omega) (zc_P hg8) (q := (RX4, TX4, 7)) rfl ⟨zm_350, zm_351, zm_352, zm_81, zm_353, rfl, by decide, by decide, (show (parseMethodDescriptor yX4_lastLineOf.desc).map (fun d => d.parameters.length) = some 1 by decide +kernel)⟩ (fun sz => c_lastLine hls hD hn σ g hg8 b hb eb k hk15 sz) rfl rfl (Nat.le_of_ble_eq_true rfl) ⟨by omega, by omega⟩ ⟨hR.2.2.1, hR.2.2.2⟩ dX4_knownLines_26 ?_
      refine zw_run X (is := [(29, .iload_n 3, 1), (30, .bipush 40, 2), (32, .imul, 1), (33, .isub, 1), (34, .iadd, 1), (35, .istore_n 1, 1), (36, .iinc 3 1, 3)]) (t' := (39, [some (.ref (ad (16 + g))), some (.int ((nI (zkn (σ (32 + g)) b k)) + ((nI (min b ((k + 1) * 40))) - ((nI k) * 40)))), some (.int (nI ((b + 39) / 40))), some (.int (nI k + 1))], [])) ⟨dX4_knownLines_29, dX4_knownLines_30, dX4_knownLines_32, dX4_knownLines_33, dX4_knownLines_34, dX4_knownLines_35, dX4_knownLines_36, trivial⟩ rfl ?_
      refine zw_go X (tgt := 9) dX4_knownLines_39 (by decide) ?_
      rw [nI_1]
      have e9 : nI (zkn (σ (32 + g)) b k) + (nI (min b ((k + 1) * 40)) - nI k * 40) = nI (zkn (σ (32 + g)) b (k + 1)) := by
        show _ = nI (zkn (σ (32 + g)) b k + (if σ (32 + g) k = 0 then min b ((k + 1) * 40) - k * 40 else 0))
        rw [if_pos h20, show (40 : Int32) = nI 40 from rfl, pk_mul, pk_sub (by omega), nI_add]
      rw [e9]
      exact ih (k + 1) (by omega)

set_option maxHeartbeats 4000000 in
set_option maxRecDepth 100000 in
theorem c_knownLines {l : Launch} (hls : l.stackTraces = false) {D : va_G} {cy : Nat → ClassId} {wa : Nat → Nat} {N n : Nat} {ad : Nat → Nat} (hD : zD n ad) (hn : 40 ≤ n) (σ : zS) (g : Nat) (hg8 : g < 8) (b : Nat) (hb : b ≤ 600) (eb : σ (16 + g) 4 = nI b)  (sz : Nat) : Met l yX4_knownLines (.code yX4_knownLines cX4_knownLines 4 (some .int) :: zB) (zRm 2) (zPc [.ref (ad (16 + g))] D cy wa N n ad σ sz) (zQi (nI (zkn (σ (32 + g)) b ((b + 39) / 40))) D cy N n ad (σ) sz) 0 0 (zA n ad sz) := by
  refine z_met (by decide) hls (List.forall_mem_cons.mpr ⟨rfl, (fun _ h => nomatch h)⟩) (Nat.le_of_ble_eq_true rfl) (fun p_ e_ s_ m_ below_ meth_ c_ hsz hr X => ?_)
  have X : zX p_ l s_ m_ [.ref (ad (16 + g))].toArray meth_ c_ cX4_knownLines 4 RX4 D cy wa (zA n ad sz) := X
  have hAd : ∀ i, i < n → zA n ad sz (ad i) := fun i hi => Or.inl ⟨i, hi, rfl⟩
  refine zw_run X (is := [(0, .iconst 0, 1), (1, .istore_n 1, 1), (2, .aload_n 0, 1)]) (t' := (3, [some (.ref (ad (16 + g))), some (.int 0), none, none], [.ref (ad (16 + g))])) ⟨dX4_knownLines_0, dX4_knownLines_1, dX4_knownLines_2, trivial⟩ rfl ?_
  refine zw_Vi X hAd (As := []) (rest := []) (d := 0) (i := 16 + g) (by omega) (zc_P hg8) (q := (RX4, TX4, 7)) rfl ⟨zm_349, zm_293, zm_294, zm_81, zm_295, rfl, by decide, by decide, (show (parseMethodDescriptor yX4_leafCount.desc).map (fun d => d.parameters.length) = some 0 by decide +kernel)⟩ (fun sz => c_leafN hls hD hn σ g hg8 b hb eb sz) rfl rfl (Nat.le_of_ble_eq_true rfl) ⟨Nat.le_of_ble_eq_true rfl, Nat.le_of_ble_eq_true rfl⟩ ⟨Nat.zero_le _, Nat.zero_le _⟩ dX4_knownLines_3 ?_
  refine zw_run X (is := [(6, .istore_n 2, 1), (7, .iconst 0, 1), (8, .istore_n 3, 1)]) (t' := (9, [some (.ref (ad (16 + g))), some (.int 0), some (.int (nI ((b + 39) / 40))), some (.int 0)], [])) ⟨dX4_knownLines_6, dX4_knownLines_7, dX4_knownLines_8, trivial⟩ rfl ?_
  refine lp_known X hD hAd hn σ hls ⟨Nat.le_of_ble_eq_true rfl, Nat.le_of_ble_eq_true rfl, Nat.zero_le _, Nat.zero_le _⟩ g hg8 b hb eb ?_ ((b + 39) / 40) 0 (by omega)
  refine zw_run X (is := [(42, .iload_n 1, 1)]) (t' := (43, [some (.ref (ad (16 + g))), some (.int (nI (zkn (σ (32 + g)) b ((b + 39) / 40)))), some (.int (nI ((b + 39) / 40))), some (.int (nI ((b + 39) / 40)))], [.int (nI (zkn (σ (32 + g)) b ((b + 39) / 40)))])) ⟨dX4_knownLines_42, trivial⟩ rfl ?_
  exact zw_iret X hr dX4_knownLines_43 rfl rfl rfl

set_option maxHeartbeats 4000000 in
set_option maxRecDepth 100000 in
theorem c_known {l : Launch} (hls : l.stackTraces = false) {D : va_G} {cy : Nat → ClassId} {wa : Nat → Nat} {N n : Nat} {ad : Nat → Nat} (hD : zD n ad) (hn : 40 ≤ n) (σ : zS) (gc : Nat) (hgc : gc ≤ 8) (e0 : σ 0 11 = nI gc) (g : Nat) (hg : g < gc) (b : Nat) (hb : b ≤ 600) (eb : σ (16 + g) 4 = nI b)  (sz : Nat) : Met l yX7_known (.code yX7_known cX7_known 2 (some .int) :: zB) (zRm 3) (zPc [.ref (ad 0), .int (nI g)] D cy wa N n ad σ sz) (zQi (nI (zkn (σ (32 + g)) b ((b + 39) / 40))) D cy N n ad (σ) sz) 0 0 (zA n ad sz) := by
  refine z_met (by decide) hls (List.forall_mem_cons.mpr ⟨rfl, (List.forall_mem_cons.mpr ⟨rfl, (fun _ h => nomatch h)⟩)⟩) (Nat.le_of_ble_eq_true rfl) (fun p_ e_ s_ m_ below_ meth_ c_ hsz hr X => ?_)
  have X : zX p_ l s_ m_ [.ref (ad 0), .int (nI g)].toArray meth_ c_ cX7_known 2 RX7 D cy wa (zA n ad sz) := X
  have hAd : ∀ i, i < n → zA n ad sz (ad i) := fun i hi => Or.inl ⟨i, hi, rfl⟩
  have hg8 : g < 8 := by omega
  refine zw_run X (is := [(0, .aload_n 0, 1), (1, .iload_n 1, 1)]) (t' := (2, [some (.ref (ad 0)), some (.int (nI g))], [.int (nI g), .ref (ad 0)])) ⟨dX7_known_0, dX7_known_1, trivial⟩ rfl ?_
  refine zw_Vv X hAd (As := [.int (nI g)]) (rest := []) (d := 0) (i := 0) (by omega) zc_0 (q := (RX7, TX7, 16)) rfl ⟨zm_135, zm_136, zm_137, zm_2, zm_138, rfl, by decide, by decide, (show (parseMethodDescriptor yX7_needGuild.desc).map (fun d => d.parameters.length) = some 1 by decide +kernel)⟩ (fun sz => c_needGuild hls hD hn σ gc hgc e0 g hg sz) rfl rfl (Nat.le_of_ble_eq_true rfl) ⟨Nat.le_of_ble_eq_true rfl, Nat.le_of_ble_eq_true rfl⟩ ⟨Nat.zero_le _, Nat.zero_le _⟩ dX7_known_2 ?_
  refine zw_run X (is := [(5, .aload_n 0, 1)]) (t' := (6, [some (.ref (ad 0)), some (.int (nI g))], [.ref (ad 0)])) ⟨dX7_known_5, trivial⟩ rfl ?_
  refine zw_getf X (i := 0) (by omega) zc_0 (C := RX7) (T := TX7) (Nf := 16) rfl zi_X7 0 (by decide) rfl zm_18 rfl dX7_known_6 ?_
  refine zw_run X (is := [(9, .iload_n 1, 1)]) (t' := (10, [some (.ref (ad 0)), some (.int (nI g))], [.int (nI g), .ref (ad 1)])) ⟨dX7_known_9, trivial⟩ rfl ?_
  refine zw_guild X (by omega) (g := g) rfl hg8 dX7_known_10 ?_
  refine zw_getf X (i := 8 + g) (by omega) (zc_G hg8) (C := RX1) (T := TX1) (Nf := 7) rfl zi_X1 6 (by decide) rfl zm_112 rfl dX7_known_11 ?_
  refine zw_Vi X hAd (As := []) (rest := []) (d := 2) (i := 16 + g) (by omega) (zc_P hg8) (q := (RX4, TX4, 7)) rfl ⟨zm_398, zm_399, zm_400, zm_81, zm_401, rfl, by decide, by decide, (show (parseMethodDescriptor yX4_knownLines.desc).map (fun d => d.parameters.length) = some 0 by decide +kernel)⟩ (fun sz => c_knownLines hls hD hn σ g hg8 b hb eb sz) rfl rfl (Nat.le_of_ble_eq_true rfl) ⟨Nat.le_of_ble_eq_true rfl, Nat.le_of_ble_eq_true rfl⟩ ⟨Nat.zero_le _, Nat.zero_le _⟩ dX7_known_14 ?_
  exact zw_iret X hr dX7_known_17 rfl rfl rfl

set_option maxHeartbeats 4000000 in
set_option maxRecDepth 100000 in
theorem c_leavesN {l : Launch} (hls : l.stackTraces = false) {D : va_G} {cy : Nat → ClassId} {wa : Nat → Nat} {N n : Nat} {ad : Nat → Nat} (hD : zD n ad) (hn : 40 ≤ n) (σ : zS) (gc : Nat) (hgc : gc ≤ 8) (e0 : σ 0 11 = nI gc) (g : Nat) (hg : g < gc) (b : Nat) (hb : b ≤ 600) (eb : σ (16 + g) 4 = nI b)  (sz : Nat) : Met l yX7_leaves (.code yX7_leaves cX7_leaves 2 (some .int) :: zB) (zRm 3) (zPc [.ref (ad 0), .int (nI g)] D cy wa N n ad σ sz) (zQi (nI ((b + 39) / 40)) D cy N n ad (σ) sz) 0 0 (zA n ad sz) := by
  refine z_met (by decide) hls (List.forall_mem_cons.mpr ⟨rfl, (List.forall_mem_cons.mpr ⟨rfl, (fun _ h => nomatch h)⟩)⟩) (Nat.le_of_ble_eq_true rfl) (fun p_ e_ s_ m_ below_ meth_ c_ hsz hr X => ?_)
  have X : zX p_ l s_ m_ [.ref (ad 0), .int (nI g)].toArray meth_ c_ cX7_leaves 2 RX7 D cy wa (zA n ad sz) := X
  have hAd : ∀ i, i < n → zA n ad sz (ad i) := fun i hi => Or.inl ⟨i, hi, rfl⟩
  have hg8 : g < 8 := by omega
  refine zw_run X (is := [(0, .aload_n 0, 1), (1, .iload_n 1, 1)]) (t' := (2, [some (.ref (ad 0)), some (.int (nI g))], [.int (nI g), .ref (ad 0)])) ⟨dX7_leaves_0, dX7_leaves_1, trivial⟩ rfl ?_
  refine zw_Vv X hAd (As := [.int (nI g)]) (rest := []) (d := 0) (i := 0) (by omega) zc_0 (q := (RX7, TX7, 16)) rfl ⟨zm_135, zm_136, zm_137, zm_2, zm_138, rfl, by decide, by decide, (show (parseMethodDescriptor yX7_needGuild.desc).map (fun d => d.parameters.length) = some 1 by decide +kernel)⟩ (fun sz => c_needGuild hls hD hn σ gc hgc e0 g hg sz) rfl rfl (Nat.le_of_ble_eq_true rfl) ⟨Nat.le_of_ble_eq_true rfl, Nat.le_of_ble_eq_true rfl⟩ ⟨Nat.zero_le _, Nat.zero_le _⟩ dX7_leaves_2 ?_
  refine zw_run X (is := [(5, .aload_n 0, 1)]) (t' := (6, [some (.ref (ad 0)), some (.int (nI g))], [.ref (ad 0)])) ⟨dX7_leaves_5, trivial⟩ rfl ?_
  refine zw_getf X (i := 0) (by omega) zc_0 (C := RX7) (T := TX7) (Nf := 16) rfl zi_X7 0 (by decide) rfl zm_18 rfl dX7_leaves_6 ?_
  refine zw_run X (is := [(9, .iload_n 1, 1)]) (t' := (10, [some (.ref (ad 0)), some (.int (nI g))], [.int (nI g), .ref (ad 1)])) ⟨dX7_leaves_9, trivial⟩ rfl ?_
  refine zw_guild X (by omega) (g := g) rfl hg8 dX7_leaves_10 ?_
  refine zw_getf X (i := 8 + g) (by omega) (zc_G hg8) (C := RX1) (T := TX1) (Nf := 7) rfl zi_X1 6 (by decide) rfl zm_112 rfl dX7_leaves_11 ?_
  refine zw_Vi X hAd (As := []) (rest := []) (d := 0) (i := 16 + g) (by omega) (zc_P hg8) (q := (RX4, TX4, 7)) rfl ⟨zm_292, zm_293, zm_294, zm_81, zm_295, rfl, by decide, by decide, (show (parseMethodDescriptor yX4_leafCount.desc).map (fun d => d.parameters.length) = some 0 by decide +kernel)⟩ (fun sz => c_leafN hls hD hn σ g hg8 b hb eb sz) rfl rfl (Nat.le_of_ble_eq_true rfl) ⟨Nat.le_of_ble_eq_true rfl, Nat.le_of_ble_eq_true rfl⟩ ⟨Nat.zero_le _, Nat.zero_le _⟩ dX7_leaves_14 ?_
  exact zw_iret X hr dX7_leaves_17 rfl rfl rfl

set_option maxHeartbeats 4000000 in
set_option maxRecDepth 100000 in
theorem c_lose {l : Launch} (hls : l.stackTraces = false) {D : va_G} {cy : Nat → ClassId} {wa : Nat → Nat} {N n : Nat} {ad : Nat → Nat} (hD : zD n ad) (hn : 40 ≤ n) (σ : zS) (gc : Nat) (hgc : gc ≤ 8) (e0 : σ 0 11 = nI gc) (g : Nat) (hg : g < gc) (b : Nat) (hb : b ≤ 600) (eb : σ (16 + g) 4 = nI b) (k : Nat) (hk : k < (b + 39) / 40) (sz : Nat) : Met l yX7_lose (.code yX7_lose cX7_lose 5 (some .boolean) :: zB) (zRm 2) (zPc [.ref (ad 0), .int (nI g), .int (nI k)] D cy wa N n ad σ sz) (zQi (if σ (32 + g) k = 0 then 1 else 0) D cy N n ad (zu σ (32 + g) k 1) sz) 0 0 (zA n ad sz) := by
  refine z_met (by decide) hls (List.forall_mem_cons.mpr ⟨rfl, (List.forall_mem_cons.mpr ⟨rfl, (List.forall_mem_cons.mpr ⟨rfl, (fun _ h => nomatch h)⟩)⟩)⟩) (Nat.le_of_ble_eq_true rfl) (fun p_ e_ s_ m_ below_ meth_ c_ hsz hr X => ?_)
  have X : zX p_ l s_ m_ [.ref (ad 0), .int (nI g), .int (nI k)].toArray meth_ c_ cX7_lose 5 RX7 D cy wa (zA n ad sz) := X
  have hAd : ∀ i, i < n → zA n ad sz (ad i) := fun i hi => Or.inl ⟨i, hi, rfl⟩
  have hg8 : g < 8 := by omega
  refine zw_run X (is := [(0, .aload_n 0, 1), (1, .iload_n 1, 1)]) (t' := (2, [some (.ref (ad 0)), some (.int (nI g)), some (.int (nI k)), none, none], [.int (nI g), .ref (ad 0)])) ⟨dX7_lose_0, dX7_lose_1, trivial⟩ rfl ?_
  refine zw_Vv X hAd (As := [.int (nI g)]) (rest := []) (d := 0) (i := 0) (by omega) zc_0 (q := (RX7, TX7, 16)) rfl ⟨zm_135, zm_136, zm_137, zm_2, zm_138, rfl, by decide, by decide, (show (parseMethodDescriptor yX7_needGuild.desc).map (fun d => d.parameters.length) = some 1 by decide +kernel)⟩ (fun sz => c_needGuild hls hD hn σ gc hgc e0 g hg sz) rfl rfl (Nat.le_of_ble_eq_true rfl) ⟨Nat.le_of_ble_eq_true rfl, Nat.le_of_ble_eq_true rfl⟩ ⟨Nat.zero_le _, Nat.zero_le _⟩ dX7_lose_2 ?_
  refine zw_run X (is := [(5, .aload_n 0, 1)]) (t' := (6, [some (.ref (ad 0)), some (.int (nI g)), some (.int (nI k)), none, none], [.ref (ad 0)])) ⟨dX7_lose_5, trivial⟩ rfl ?_
  refine zw_getf X (i := 0) (by omega) zc_0 (C := RX7) (T := TX7) (Nf := 16) rfl zi_X7 0 (by decide) rfl zm_18 rfl dX7_lose_6 ?_
  refine zw_run X (is := [(9, .iload_n 1, 1)]) (t' := (10, [some (.ref (ad 0)), some (.int (nI g)), some (.int (nI k)), none, none], [.int (nI g), .ref (ad 1)])) ⟨dX7_lose_9, trivial⟩ rfl ?_
  refine zw_guild X (by omega) (g := g) rfl hg8 dX7_lose_10 ?_
  refine zw_getf X (i := 8 + g) (by omega) (zc_G hg8) (C := RX1) (T := TX1) (Nf := 7) rfl zi_X1 6 (by decide) rfl zm_112 rfl dX7_lose_11 ?_
  refine zw_run X (is := [(14, .astore_n 3, 1), (15, .iload_n 2, 1), (16, .iconst 0, 1), (17, .aload_n 3, 1)]) (t' := (18, [some (.ref (ad 0)), some (.int (nI g)), some (.int (nI k)), some (.ref (ad (16 + g))), none], [.ref (ad (16 + g)), .int 0, .int (nI k)])) ⟨dX7_lose_14, dX7_lose_15, dX7_lose_16, dX7_lose_17, trivial⟩ rfl ?_
  refine zw_Vi X hAd (As := []) (rest := [.int 0, .int (nI k)]) (d := 0) (i := 16 + g) (by omega) (zc_P hg8) (q := (RX4, TX4, 7)) rfl ⟨zm_292, zm_293, zm_294, zm_81, zm_295, rfl, by decide, by decide, (show (parseMethodDescriptor yX4_leafCount.desc).map (fun d => d.parameters.length) = some 0 by decide +kernel)⟩ (fun sz => c_leafN hls hD hn σ g hg8 b hb eb sz) rfl rfl (Nat.le_of_ble_eq_true rfl) ⟨Nat.le_of_ble_eq_true rfl, Nat.le_of_ble_eq_true rfl⟩ ⟨Nat.zero_le _, Nat.zero_le _⟩ dX7_lose_18 ?_
  refine zw_run X (is := [(21, .iconst 1, 1), (22, .isub, 1)]) (t' := (23, [some (.ref (ad 0)), some (.int (nI g)), some (.int (nI k)), some (.ref (ad (16 + g))), none], [.int ((nI ((b + 39) / 40)) - 1), .int 0, .int (nI k)])) ⟨dX7_lose_21, dX7_lose_22, trivial⟩ rfl ?_
  refine zw_Sv X hAd (As := [.int (nI k), .int 0, .int ((nI ((b + 39) / 40)) - 1)]) (rest := []) (d := 0) ⟨zm_114, zm_115, zm_2, zm_116, by decide, by decide, (show (parseMethodDescriptor yX7_needRange.desc).map (fun d => d.parameters.length) = some 3 by decide +kernel)⟩ (fun sz => c_needRange hls hD hn σ (nI k) 0 (nI ((b + 39) / 40) - 1) (nI_pos (by omega)) (by rw [show nI ((b + 39) / 40) - 1 = nI ((b + 39) / 40 - 1) from pk_sub (b := 1) (by omega)]; exact nI_le (by omega) (by omega)) sz) rfl rfl (Nat.le_of_ble_eq_true rfl) ⟨Nat.le_of_ble_eq_true rfl, Nat.le_of_ble_eq_true rfl⟩ ⟨Nat.zero_le _, Nat.zero_le _⟩ dX7_lose_23 ?_
  refine zw_run X (is := [(26, .aload_n 3, 1)]) (t' := (27, [some (.ref (ad 0)), some (.int (nI g)), some (.int (nI k)), some (.ref (ad (16 + g))), none], [.ref (ad (16 + g))])) ⟨dX7_lose_26, trivial⟩ rfl ?_
  refine zw_getf X (i := 16 + g) (by omega) (zc_P hg8) (C := RX4) (T := TX4) (Nf := 7) rfl zi_X4 6 (by decide) rfl zm_303 rfl dX7_lose_27 ?_
  refine zw_run X (is := [(30, .iload_n 2, 1)]) (t' := (31, [some (.ref (ad 0)), some (.int (nI g)), some (.int (nI k)), some (.ref (ad (16 + g))), none], [.int (nI k), .ref (ad (32 + g))])) ⟨dX7_lose_30, trivial⟩ rfl ?_
  refine zw_zald X (i := 32 + g) (by omega) (len := 15) (zc_L hg8) (j := k) rfl (by omega) (by decide) dX7_lose_31 ?_
  refine zw_if_ne X (tgt := 39) dX7_lose_32 (by decide) (fun h32 => ?_) (fun h32 => ?_)
  · refine zw_run X (is := [(39, .iconst 0, 1), (40, .istore 4, 2), (42, .aload_n 3, 1)]) (t' := (43, [some (.ref (ad 0)), some (.int (nI g)), some (.int (nI k)), some (.ref (ad (16 + g))), some (.int 0)], [.ref (ad (16 + g))])) ⟨dX7_lose_39, dX7_lose_40, dX7_lose_42, trivial⟩ rfl ?_
    refine zw_getf X (i := 16 + g) (by omega) (zc_P hg8) (C := RX4) (T := TX4) (Nf := 7) rfl zi_X4 6 (by decide) rfl zm_303 rfl dX7_lose_43 ?_
    refine zw_run X (is := [(46, .iload_n 2, 1), (47, .iconst 1, 1)]) (t' := (48, [some (.ref (ad 0)), some (.int (nI g)), some (.int (nI k)), some (.ref (ad (16 + g))), some (.int 0)], [.int 1, .int (nI k), .ref (ad (32 + g))])) ⟨dX7_lose_46, dX7_lose_47, trivial⟩ rfl ?_
    refine zw_zast X hD hAd (i := 32 + g) (by omega) (len := 15) (fun _ => (zc_L hg8)) (j := k) rfl (by omega) (by decide) (by decide) dX7_lose_48 ?_
    refine zw_run X (is := [(49, .iload 4, 2)]) (t' := (51, [some (.ref (ad 0)), some (.int (nI g)), some (.int (nI k)), some (.ref (ad (16 + g))), some (.int 0)], [.int 0])) ⟨dX7_lose_49, trivial⟩ rfl ?_
    exact zw_zret X hr dX7_lose_51 rfl rfl (by simp [h32]) rfl
  · refine zw_run X (is := [(35, .iconst 1, 1)]) (t' := (36, [some (.ref (ad 0)), some (.int (nI g)), some (.int (nI k)), some (.ref (ad (16 + g))), none], [.int 1])) ⟨dX7_lose_35, trivial⟩ rfl ?_
    refine zw_go X (tgt := 40) dX7_lose_36 (by decide) ?_
    refine zw_run X (is := [(40, .istore 4, 2), (42, .aload_n 3, 1)]) (t' := (43, [some (.ref (ad 0)), some (.int (nI g)), some (.int (nI k)), some (.ref (ad (16 + g))), some (.int 1)], [.ref (ad (16 + g))])) ⟨dX7_lose_40, dX7_lose_42, trivial⟩ rfl ?_
    refine zw_getf X (i := 16 + g) (by omega) (zc_P hg8) (C := RX4) (T := TX4) (Nf := 7) rfl zi_X4 6 (by decide) rfl zm_303 rfl dX7_lose_43 ?_
    refine zw_run X (is := [(46, .iload_n 2, 1), (47, .iconst 1, 1)]) (t' := (48, [some (.ref (ad 0)), some (.int (nI g)), some (.int (nI k)), some (.ref (ad (16 + g))), some (.int 1)], [.int 1, .int (nI k), .ref (ad (32 + g))])) ⟨dX7_lose_46, dX7_lose_47, trivial⟩ rfl ?_
    refine zw_zast X hD hAd (i := 32 + g) (by omega) (len := 15) (fun _ => (zc_L hg8)) (j := k) rfl (by omega) (by decide) (by decide) dX7_lose_48 ?_
    refine zw_run X (is := [(49, .iload 4, 2)]) (t' := (51, [some (.ref (ad 0)), some (.int (nI g)), some (.int (nI k)), some (.ref (ad (16 + g))), some (.int 1)], [.int 1])) ⟨dX7_lose_49, trivial⟩ rfl ?_
    exact zw_zret X hr dX7_lose_51 rfl rfl (by simp [h32]) rfl

set_option maxHeartbeats 4000000 in
set_option maxRecDepth 100000 in
theorem c_lose_bad {l : Launch} (hls : l.stackTraces = false) {D : va_G} {cy : Nat → ClassId} {wa : Nat → Nat} {N n : Nat} {ad : Nat → Nat} (hD : zD n ad) (hn : 40 ≤ n) (σ : zS) (gc : Nat) (hgc : gc ≤ 8) (e0 : σ 0 11 = nI gc) (g : Nat) (hg : g < gc) (b : Nat) (hb : b ≤ 600) (eb : σ (16 + g) 4 = nI b) (hb0 : 1 ≤ b) (sz : Nat) : vx_Met l yX7_lose (.code yX7_lose cX7_lose 5 (some .boolean) :: zB) (zRx 2) (zPc [.ref (ad 0), .int (nI g), .int (nI ((b + 39) / 40))] D cy wa N n ad σ sz) zNo (zXC "java/lang/IllegalArgumentException" D cy N n ad (σ) sz) 1 6 (zA n ad sz) := by
  refine z_metx (by decide) hls (List.forall_mem_cons.mpr ⟨rfl, (List.forall_mem_cons.mpr ⟨rfl, (List.forall_mem_cons.mpr ⟨rfl, (fun _ h => nomatch h)⟩)⟩)⟩) (Nat.le_of_ble_eq_true rfl) (fun p_ e_ s_ m_ below_ meth_ c_ hsz hr hno X => ?_)
  have X : zX p_ l s_ m_ [.ref (ad 0), .int (nI g), .int (nI ((b + 39) / 40))].toArray meth_ c_ cX7_lose 5 RX7 D cy wa (zA n ad sz) := X
  have hAd : ∀ i, i < n → zA n ad sz (ad i) := fun i hi => Or.inl ⟨i, hi, rfl⟩
  have hg8 : g < 8 := by omega
  refine zw_run X (is := [(0, .aload_n 0, 1), (1, .iload_n 1, 1)]) (t' := (2, [some (.ref (ad 0)), some (.int (nI g)), some (.int (nI ((b + 39) / 40))), none, none], [.int (nI g), .ref (ad 0)])) ⟨dX7_lose_0, dX7_lose_1, trivial⟩ rfl ?_
  refine zw_Vv X hAd (As := [.int (nI g)]) (rest := []) (d := 0) (i := 0) (by omega) zc_0 (q := (RX7, TX7, 16)) rfl ⟨zm_135, zm_136, zm_137, zm_2, zm_138, rfl, by decide, by decide, (show (parseMethodDescriptor yX7_needGuild.desc).map (fun d => d.parameters.length) = some 1 by decide +kernel)⟩ (fun sz => c_needGuild hls hD hn σ gc hgc e0 g hg sz) rfl rfl (Nat.le_of_ble_eq_true rfl) ⟨Nat.le_of_ble_eq_true rfl, Nat.le_of_ble_eq_true rfl⟩ ⟨Nat.zero_le _, Nat.zero_le _⟩ dX7_lose_2 ?_
  refine zw_run X (is := [(5, .aload_n 0, 1)]) (t' := (6, [some (.ref (ad 0)), some (.int (nI g)), some (.int (nI ((b + 39) / 40))), none, none], [.ref (ad 0)])) ⟨dX7_lose_5, trivial⟩ rfl ?_
  refine zw_getf X (i := 0) (by omega) zc_0 (C := RX7) (T := TX7) (Nf := 16) rfl zi_X7 0 (by decide) rfl zm_18 rfl dX7_lose_6 ?_
  refine zw_run X (is := [(9, .iload_n 1, 1)]) (t' := (10, [some (.ref (ad 0)), some (.int (nI g)), some (.int (nI ((b + 39) / 40))), none, none], [.int (nI g), .ref (ad 1)])) ⟨dX7_lose_9, trivial⟩ rfl ?_
  refine zw_guild X (by omega) (g := g) rfl hg8 dX7_lose_10 ?_
  refine zw_getf X (i := 8 + g) (by omega) (zc_G hg8) (C := RX1) (T := TX1) (Nf := 7) rfl zi_X1 6 (by decide) rfl zm_112 rfl dX7_lose_11 ?_
  refine zw_run X (is := [(14, .astore_n 3, 1), (15, .iload_n 2, 1), (16, .iconst 0, 1), (17, .aload_n 3, 1)]) (t' := (18, [some (.ref (ad 0)), some (.int (nI g)), some (.int (nI ((b + 39) / 40))), some (.ref (ad (16 + g))), none], [.ref (ad (16 + g)), .int 0, .int (nI ((b + 39) / 40))])) ⟨dX7_lose_14, dX7_lose_15, dX7_lose_16, dX7_lose_17, trivial⟩ rfl ?_
  refine zw_Vi X hAd (As := []) (rest := [.int 0, .int (nI ((b + 39) / 40))]) (d := 0) (i := 16 + g) (by omega) (zc_P hg8) (q := (RX4, TX4, 7)) rfl ⟨zm_292, zm_293, zm_294, zm_81, zm_295, rfl, by decide, by decide, (show (parseMethodDescriptor yX4_leafCount.desc).map (fun d => d.parameters.length) = some 0 by decide +kernel)⟩ (fun sz => c_leafN hls hD hn σ g hg8 b hb eb sz) rfl rfl (Nat.le_of_ble_eq_true rfl) ⟨Nat.le_of_ble_eq_true rfl, Nat.le_of_ble_eq_true rfl⟩ ⟨Nat.zero_le _, Nat.zero_le _⟩ dX7_lose_18 ?_
  refine zw_run X (is := [(21, .iconst 1, 1), (22, .isub, 1)]) (t' := (23, [some (.ref (ad 0)), some (.int (nI g)), some (.int (nI ((b + 39) / 40))), some (.ref (ad (16 + g))), none], [.int ((nI ((b + 39) / 40)) - 1), .int 0, .int (nI ((b + 39) / 40))])) ⟨dX7_lose_21, dX7_lose_22, trivial⟩ rfl ?_
  exact zw_So X hno hAd rfl (As := [.int (nI ((b + 39) / 40)), .int 0, .int ((nI ((b + 39) / 40)) - 1)]) (rest := []) (d := 0) ⟨zm_114, zm_115, zm_2, zm_116, by decide, by decide, (show (parseMethodDescriptor yX7_needRange.desc).map (fun d => d.parameters.length) = some 3 by decide +kernel)⟩ (fun sz => c_needRange_hi hls hD hn σ (nI ((b + 39) / 40)) 0 (nI ((b + 39) / 40) - 1) (nI_pos (by omega)) (by rw [show nI ((b + 39) / 40) - 1 = nI ((b + 39) / 40 - 1) from pk_sub (b := 1) (by omega)]; exact nI_ge (by omega) (by omega)) sz) rfl rfl (Nat.le_of_ble_eq_true rfl) ⟨Nat.le_of_ble_eq_true rfl, Nat.le_of_ble_eq_true rfl⟩ ⟨Nat.le_of_ble_eq_true rfl, Nat.le_of_ble_eq_true rfl⟩ dX7_lose_23

set_option maxHeartbeats 4000000 in
set_option maxRecDepth 100000 in
theorem lp_find {p : Program} {l : Launch} {e : Env} {R : Room} {s : State} {m : MethodId} {args : Array Value} {below : List Frame} {meth : Method} {c : Code} {D : va_G} {cy : Nat → ClassId} {wa : Nat → Nat} {N : Nat} {A : Nat → Prop} {n : Nat} {ad : Nat → Nat} {cells slots : Nat} {Q : State → Prop} (X : zX p l s m args meth c cX4_findLeavesUpTo 4 RX4 D cy wa A) (hD : zD n ad) (hAd : ∀ i, i < n → A (ad i)) (hn : 40 ≤ n) (σ : zS) (hls : l.stackTraces = false) (hR : 2 ≤ R.frames ∧ 80 ≤ R.locals ∧ cells ≤ R.cells ∧ slots ≤ R.slots) (g : Nat) (hg8 : g < 8) (b : Nat) (hb : b ≤ 600) (eb : σ (16 + g) 4 = nI b)  (kk : zW p l e R s m args below meth c D cy N A n ad cells slots Q (34, [some (.ref (ad (16 + g))), some (.int (nI b)), some (.int (nI ((b + 39) / 40))), some (.int (nI ((b + 39) / 40)))], []) (zcl σ (32 + g) ((b + 39) / 40))) : ∀ (d k : Nat), k + d = (b + 39) / 40 → zW p l e R s m args below meth c D cy N A n ad cells slots Q (7, [some (.ref (ad (16 + g))), some (.int (nI b)), some (.int (nI ((b + 39) / 40))), some (.int (nI k))], []) (zcl σ (32 + g) k) := by
  intro d
  induction d with
  | zero =>
    intro k hk
    obtain rfl : k = (b + 39) / 40 := by omega
    refine zw_run X (is := [(7, .iload_n 3, 1), (8, .iload_n 2, 1)]) (t' := (9, [some (.ref (ad (16 + g))), some (.int (nI b)), some (.int (nI ((b + 39) / 40))), some (.int (nI ((b + 39) / 40)))], [.int (nI ((b + 39) / 40)), .int (nI ((b + 39) / 40))])) ⟨dX4_findLeavesUpTo_7, dX4_findLeavesUpTo_8, trivial⟩ rfl ?_
    refine zw_icmp_ge X (tgt := 34) dX4_findLeavesUpTo_9 (by decide) (fun _ => ?_) (fun h_ => absurd (nI_le (Nat.le_refl _) (by omega)) h_)
    exact kk
  | succ d ih =>
    intro k hk
    have hk15 : k < 15 := by omega
    refine zw_run X (is := [(7, .iload_n 3, 1), (8, .iload_n 2, 1)]) (t' := (9, [some (.ref (ad (16 + g))), some (.int (nI b)), some (.int (nI ((b + 39) / 40))), some (.int (nI k))], [.int (nI ((b + 39) / 40)), .int (nI k)])) ⟨dX4_findLeavesUpTo_7, dX4_findLeavesUpTo_8, trivial⟩ rfl ?_
    refine zw_icmp_ge X (tgt := 34) dX4_findLeavesUpTo_9 (by decide) (fun h_ => absurd h_ (nI_ge (by omega) (by omega))) (fun _ => ?_)
    refine zw_run X (is := [(12, .aload_n 0, 1), (13, .iload_n 3, 1)]) (t' := (14, [some (.ref (ad (16 + g))), some (.int (nI b)), some (.int (nI ((b + 39) / 40))), some (.int (nI k))], [.int (nI k), .ref (ad (16 + g))])) ⟨dX4_findLeavesUpTo_12, dX4_findLeavesUpTo_13, trivial⟩ rfl ?_
    refine zw_Vi X hAd (As := [.int (nI k)]) (rest := []) (d := 1) (i := 16 + g) (by omega) (zc_P hg8) (q := (RX4, TX4, 7)) rfl ⟨zm_350, zm_351, zm_352, zm_81, zm_353, rfl, by decide, by decide, (show (parseMethodDescriptor yX4_lastLineOf.desc).map (fun d => d.parameters.length) = some 1 by decide +kernel)⟩ (fun sz => c_lastLine hls hD hn (zcl σ (32 + g) k) g hg8 b hb (by rw [zcl_off (by omega)]; exact eb) k hk15 sz) rfl rfl (Nat.le_of_ble_eq_true rfl) ⟨by omega, by omega⟩ ⟨hR.2.2.1, hR.2.2.2⟩ dX4_findLeavesUpTo_14 ?_
    refine zw_run X (is := [(17, .iload_n 1, 1)]) (t' := (18, [some (.ref (ad (16 + g))), some (.int (nI b)), some (.int (nI ((b + 39) / 40))), some (.int (nI k))], [.int (nI b), .int (nI (min b ((k + 1) * 40)))])) ⟨dX4_findLeavesUpTo_17, trivial⟩ rfl ?_
    refine zw_icmp_gt X (tgt := 28) dX4_findLeavesUpTo_18 (by decide) (fun h_ => absurd h_ (nI_nlt (by omega) (by omega))) (fun _ => ?_)
    refine zw_run X (is := [(21, .aload_n 0, 1)]) (t' := (22, [some (.ref (ad (16 + g))), some (.int (nI b)), some (.int (nI ((b + 39) / 40))), some (.int (nI k))], [.ref (ad (16 + g))])) ⟨dX4_findLeavesUpTo_21, trivial⟩ rfl ?_
    refine zw_getf X (i := 16 + g) (by omega) (zc_P hg8) (C := RX4) (T := TX4) (Nf := 7) rfl zi_X4 6 (by decide) rfl zm_88 rfl dX4_findLeavesUpTo_22 ?_
    refine zw_run X (is := [(25, .iload_n 3, 1), (26, .iconst 0, 1)]) (t' := (27, [some (.ref (ad (16 + g))), some (.int (nI b)), some (.int (nI ((b + 39) / 40))), some (.int (nI k))], [.int 0, .int (nI k), .ref (ad (32 + g))])) ⟨dX4_findLeavesUpTo_25, dX4_findLeavesUpTo_26, trivial⟩ rfl ?_
    refine zw_zast X hD hAd (i := 32 + g) (by omega) (len := 15) (fun _ => (zc_L hg8)) (j := k) rfl hk15 (by decide) (by decide) dX4_findLeavesUpTo_27 ?_
    refine zw_run X (is := [(28, .iinc 3 1, 3)]) (t' := (31, [some (.ref (ad (16 + g))), some (.int (nI b)), some (.int (nI ((b + 39) / 40))), some (.int (nI k + 1))], [])) ⟨dX4_findLeavesUpTo_28, trivial⟩ rfl ?_
    refine zw_go X (tgt := 7) dX4_findLeavesUpTo_31 (by decide) ?_
    rw [nI_1]
    exact ih (k + 1) (by omega)

set_option maxHeartbeats 4000000 in
set_option maxRecDepth 100000 in
theorem c_findLeaves {l : Launch} (hls : l.stackTraces = false) {D : va_G} {cy : Nat → ClassId} {wa : Nat → Nat} {N n : Nat} {ad : Nat → Nat} (hD : zD n ad) (hn : 40 ≤ n) (σ : zS) (g : Nat) (hg8 : g < 8) (b : Nat) (hb : b ≤ 600) (eb : σ (16 + g) 4 = nI b)  (sz : Nat) : Met l yX4_findLeavesUpTo (.code yX4_findLeavesUpTo cX4_findLeavesUpTo 4 none :: zB) (zRm 2) (zPc [.ref (ad (16 + g)), .int (nI b)] D cy wa N n ad σ sz) (zQv D cy N n ad (zcl σ (32 + g) ((b + 39) / 40)) sz) 0 0 (zA n ad sz) := by
  refine z_met (by decide) hls (List.forall_mem_cons.mpr ⟨rfl, (List.forall_mem_cons.mpr ⟨rfl, (fun _ h => nomatch h)⟩)⟩) (Nat.le_of_ble_eq_true rfl) (fun p_ e_ s_ m_ below_ meth_ c_ hsz hr X => ?_)
  have X : zX p_ l s_ m_ [.ref (ad (16 + g)), .int (nI b)].toArray meth_ c_ cX4_findLeavesUpTo 4 RX4 D cy wa (zA n ad sz) := X
  have hAd : ∀ i, i < n → zA n ad sz (ad i) := fun i hi => Or.inl ⟨i, hi, rfl⟩
  refine zw_run X (is := [(0, .aload_n 0, 1)]) (t' := (1, [some (.ref (ad (16 + g))), some (.int (nI b)), none, none], [.ref (ad (16 + g))])) ⟨dX4_findLeavesUpTo_0, trivial⟩ rfl ?_
  refine zw_Vi X hAd (As := []) (rest := []) (d := 0) (i := 16 + g) (by omega) (zc_P hg8) (q := (RX4, TX4, 7)) rfl ⟨zm_349, zm_293, zm_294, zm_81, zm_295, rfl, by decide, by decide, (show (parseMethodDescriptor yX4_leafCount.desc).map (fun d => d.parameters.length) = some 0 by decide +kernel)⟩ (fun sz => c_leafN hls hD hn σ g hg8 b hb eb sz) rfl rfl (Nat.le_of_ble_eq_true rfl) ⟨Nat.le_of_ble_eq_true rfl, Nat.le_of_ble_eq_true rfl⟩ ⟨Nat.zero_le _, Nat.zero_le _⟩ dX4_findLeavesUpTo_1 ?_
  refine zw_run X (is := [(4, .istore_n 2, 1), (5, .iconst 0, 1), (6, .istore_n 3, 1)]) (t' := (7, [some (.ref (ad (16 + g))), some (.int (nI b)), some (.int (nI ((b + 39) / 40))), some (.int 0)], [])) ⟨dX4_findLeavesUpTo_4, dX4_findLeavesUpTo_5, dX4_findLeavesUpTo_6, trivial⟩ rfl ?_
  refine lp_find X hD hAd hn σ hls ⟨Nat.le_of_ble_eq_true rfl, Nat.le_of_ble_eq_true rfl, Nat.zero_le _, Nat.zero_le _⟩ g hg8 b hb eb ?_ ((b + 39) / 40) 0 (by omega)
  exact zw_vret X hr dX4_findLeavesUpTo_34 rfl rfl

def zbb (σ : zS) (g t : Nat) : zS := zcl (zu σ (16 + g) 4 (nI t)) (32 + g) ((t + 39) / 40)

set_option maxHeartbeats 4000000 in
set_option maxRecDepth 100000 in
theorem c_bringBook {l : Launch} (hls : l.stackTraces = false) {D : va_G} {cy : Nat → ClassId} {wa : Nat → Nat} {N n : Nat} {ad : Nat → Nat} (hD : zD n ad) (hn : 40 ≤ n) (σ : zS) (g : Nat) (hg8 : g < 8) (t : Nat) (ht : t ≤ 600) (et : σ (16 + g) 0 = nI t) (sz : Nat) : Met l yX4_bringBookUpToDate (.code yX4_bringBookUpToDate cX4_bringBookUpToDate 1 none :: zB) (zRm 3) (zPc [.ref (ad (16 + g))] D cy wa N n ad σ sz) (zQv D cy N n ad (zbb σ g t) sz) 0 0 (zA n ad sz) := by
  refine z_met (by decide) hls (List.forall_mem_cons.mpr ⟨rfl, (fun _ h => nomatch h)⟩) (Nat.le_of_ble_eq_true rfl) (fun p_ e_ s_ m_ below_ meth_ c_ hsz hr X => ?_)
  have X : zX p_ l s_ m_ [.ref (ad (16 + g))].toArray meth_ c_ cX4_bringBookUpToDate 1 RX4 D cy wa (zA n ad sz) := X
  have hAd : ∀ i, i < n → zA n ad sz (ad i) := fun i hi => Or.inl ⟨i, hi, rfl⟩
  refine zw_run X (is := [(0, .aload_n 0, 1), (1, .aload_n 0, 1)]) (t' := (2, [some (.ref (ad (16 + g)))], [.ref (ad (16 + g)), .ref (ad (16 + g))])) ⟨dX4_bringBookUpToDate_0, dX4_bringBookUpToDate_1, trivial⟩ rfl ?_
  refine zw_getf X (i := 16 + g) (by omega) (zc_P hg8) (C := RX4) (T := TX4) (Nf := 7) rfl zi_X4 0 (by decide) rfl zm_123 rfl dX4_bringBookUpToDate_2 ?_
  rw [et]
  refine zw_put X hD hAd (i := 16 + g) (by omega) (zc_P hg8) (C := RX4) (T := TX4) (Nf := 7) rfl zi_X4 tyX4 tyX4_ok nmX4 4 (by decide) rfl rfl zm_124 (ty := .int) (by decide +kernel) rfl rfl (Nat.le_of_ble_eq_true rfl) (zc_P hg8) dX4_bringBookUpToDate_5 ?_
  refine zw_run X (is := [(8, .aload_n 0, 1), (9, .aload_n 0, 1)]) (t' := (10, [some (.ref (ad (16 + g)))], [.ref (ad (16 + g)), .ref (ad (16 + g))])) ⟨dX4_bringBookUpToDate_8, dX4_bringBookUpToDate_9, trivial⟩ rfl ?_
  refine zw_getf X (i := 16 + g) (by omega) (zc_P hg8) (C := RX4) (T := TX4) (Nf := 7) rfl zi_X4 0 (by decide) rfl zm_123 rfl dX4_bringBookUpToDate_10 ?_
  rw [zu_n (by omega), et]
  refine zw_Vv X hAd (As := [.int (nI t)]) (rest := []) (d := 2) (i := 16 + g) (by omega) (zc_P hg8) (q := (RX4, TX4, 7)) rfl ⟨zm_345, zm_346, zm_347, zm_81, zm_348, rfl, by decide, by decide, (show (parseMethodDescriptor yX4_findLeavesUpTo.desc).map (fun d => d.parameters.length) = some 1 by decide +kernel)⟩ (fun sz => c_findLeaves hls hD hn (zu σ (16 + g) 4 (nI t)) g hg8 t ht zu_s sz) rfl rfl (Nat.le_of_ble_eq_true rfl) ⟨Nat.le_of_ble_eq_true rfl, Nat.le_of_ble_eq_true rfl⟩ ⟨Nat.zero_le _, Nat.zero_le _⟩ dX4_bringBookUpToDate_13 ?_
  exact zw_vret X hr dX4_bringBookUpToDate_16 rfl rfl
