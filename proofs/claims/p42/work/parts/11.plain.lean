set_option maxHeartbeats 4000000 in
set_option maxRecDepth 100000 in
theorem c_isOver {l : Launch} (hls : l.stackTraces = false) {D : va_G} {cy : Nat → ClassId} {wa : Nat → Nat} {N n : Nat} {ad : Nat → Nat} (hD : zD n ad) (hn : 40 ≤ n) (σ : zS) (gc : Nat) (hgc : gc ≤ 8) (e0 : σ 0 11 = nI gc) (g : Nat) (hg : g < gc) (ho : σ (8 + g) 2 = 0 ∨ σ (8 + g) 2 = 1) (sz : Nat) : Met l yX7_isOver (.code yX7_isOver cX7_isOver 2 (some .boolean) :: zB) (zRm 2) (zPc [.ref (ad 0), .int (nI g)] D cy wa N n ad σ sz) (zQi (σ (8 + g) 2) D cy N n ad (σ) sz) 0 0 (zA n ad sz) := by
  refine z_met (by decide) hls (List.forall_mem_cons.mpr ⟨rfl, (List.forall_mem_cons.mpr ⟨rfl, (fun _ h => nomatch h)⟩)⟩) (Nat.le_of_ble_eq_true rfl) (fun p_ e_ s_ m_ below_ meth_ c_ hsz hr X => ?_)
  have X : zX p_ l s_ m_ [.ref (ad 0), .int (nI g)].toArray meth_ c_ cX7_isOver 2 RX7 D cy wa (zA n ad sz) := X
  have hAd : ∀ i, i < n → zA n ad sz (ad i) := fun i hi => Or.inl ⟨i, hi, rfl⟩
  have hg8 : g < 8 := by omega
  refine zw_run X (is := [(0, .aload_n 0, 1), (1, .iload_n 1, 1)]) (t' := (2, [some (.ref (ad 0)), some (.int (nI g))], [.int (nI g), .ref (ad 0)])) ⟨dX7_isOver_0, dX7_isOver_1, trivial⟩ rfl ?_
  refine zw_Vv X hAd (As := [.int (nI g)]) (rest := []) (d := 0) (i := 0) (by omega) zc_0 (q := (RX7, TX7, 16)) rfl ⟨zm_135, zm_136, zm_137, zm_2, zm_138, rfl, by decide, by decide, (show (parseMethodDescriptor yX7_needGuild.desc).map (fun d => d.parameters.length) = some 1 by decide +kernel)⟩ (fun sz => c_needGuild hls hD hn σ gc hgc e0 g hg sz) rfl rfl (Nat.le_of_ble_eq_true rfl) ⟨Nat.le_of_ble_eq_true rfl, Nat.le_of_ble_eq_true rfl⟩ ⟨Nat.zero_le _, Nat.zero_le _⟩ dX7_isOver_2 ?_
  refine zw_run X (is := [(5, .aload_n 0, 1)]) (t' := (6, [some (.ref (ad 0)), some (.int (nI g))], [.ref (ad 0)])) ⟨dX7_isOver_5, trivial⟩ rfl ?_
  refine zw_getf X (i := 0) (by omega) zc_0 (C := RX7) (T := TX7) (Nf := 16) rfl zi_X7 0 (by decide) rfl zm_18 rfl dX7_isOver_6 ?_
  refine zw_run X (is := [(9, .iload_n 1, 1)]) (t' := (10, [some (.ref (ad 0)), some (.int (nI g))], [.int (nI g), .ref (ad 1)])) ⟨dX7_isOver_9, trivial⟩ rfl ?_
  refine zw_guild X (by omega) (g := g) rfl hg8 dX7_isOver_10 ?_
  refine zw_getf X (i := 8 + g) (by omega) (zc_G hg8) (C := RX1) (T := TX1) (Nf := 7) rfl zi_X1 2 (by decide) rfl zm_134 rfl dX7_isOver_11 ?_
  exact zw_zret X hr dX7_isOver_14 (by rcases ho with h | h <;> rw [h] <;> rfl) rfl rfl rfl

set_option maxHeartbeats 4000000 in
set_option maxRecDepth 100000 in
theorem c_isOver_x {l : Launch} (hls : l.stackTraces = false) {D : va_G} {cy : Nat → ClassId} {wa : Nat → Nat} {N n : Nat} {ad : Nat → Nat} (hD : zD n ad) (hn : 40 ≤ n) (σ : zS) (gc : Nat) (hgc : gc ≤ 8) (e0 : σ 0 11 = nI gc) (g : Nat) (hg : gc ≤ g) (hg2 : g < 100)  (sz : Nat) : vx_Met l yX7_isOver (.code yX7_isOver cX7_isOver 2 (some .boolean) :: zB) (zRx 2) (zPc [.ref (ad 0), .int (nI g)] D cy wa N n ad σ sz) zNo (zXC "java/lang/IndexOutOfBoundsException" D cy N n ad (σ) sz) 1 6 (zA n ad sz) := by
  refine z_metx (by decide) hls (List.forall_mem_cons.mpr ⟨rfl, (List.forall_mem_cons.mpr ⟨rfl, (fun _ h => nomatch h)⟩)⟩) (Nat.le_of_ble_eq_true rfl) (fun p_ e_ s_ m_ below_ meth_ c_ hsz hr hno X => ?_)
  have X : zX p_ l s_ m_ [.ref (ad 0), .int (nI g)].toArray meth_ c_ cX7_isOver 2 RX7 D cy wa (zA n ad sz) := X
  have hAd : ∀ i, i < n → zA n ad sz (ad i) := fun i hi => Or.inl ⟨i, hi, rfl⟩
  refine zw_run X (is := [(0, .aload_n 0, 1), (1, .iload_n 1, 1)]) (t' := (2, [some (.ref (ad 0)), some (.int (nI g))], [.int (nI g), .ref (ad 0)])) ⟨dX7_isOver_0, dX7_isOver_1, trivial⟩ rfl ?_
  exact zw_Vo X hno hAd rfl (As := [.int (nI g)]) (rest := []) (d := 0) (i := 0) (by omega) zc_0 (q := (RX7, TX7, 16)) rfl ⟨zm_135, zm_136, zm_137, zm_2, zm_138, rfl, by decide, by decide, (show (parseMethodDescriptor yX7_needGuild.desc).map (fun d => d.parameters.length) = some 1 by decide +kernel)⟩ (fun sz => c_needGuild_x hls hD hn σ gc hgc e0 g hg hg2 sz) rfl rfl (Nat.le_of_ble_eq_true rfl) ⟨Nat.le_of_ble_eq_true rfl, Nat.le_of_ble_eq_true rfl⟩ ⟨Nat.le_of_ble_eq_true rfl, Nat.le_of_ble_eq_true rfl⟩ dX7_isOver_2

set_option maxHeartbeats 4000000 in
set_option maxRecDepth 100000 in
theorem c_of_m {l : Launch} (hls : l.stackTraces = false) {D : va_G} {cy : Nat → ClassId} {wa : Nat → Nat} {N n : Nat} {ad : Nat → Nat} (hD : zD n ad) (hn : 40 ≤ n) (σ : zS) (gc : Nat) (hgc : gc ≤ 8) (e0 : σ 0 11 = nI gc) (g : Nat) (hg : g < gc)  (sz : Nat) : Met l yX7_of (.code yX7_of cX7_of 4 (some .int) :: zB) (zRm 2) (zPc [.ref (ad 0), .int (nI g), .int 109] D cy wa N n ad σ sz) (zQi (σ (8 + g) 0) D cy N n ad (σ) sz) 0 0 (zA n ad sz) := by
  refine z_met (by decide) hls (List.forall_mem_cons.mpr ⟨rfl, (List.forall_mem_cons.mpr ⟨rfl, (List.forall_mem_cons.mpr ⟨rfl, (fun _ h => nomatch h)⟩)⟩)⟩) (Nat.le_of_ble_eq_true rfl) (fun p_ e_ s_ m_ below_ meth_ c_ hsz hr X => ?_)
  have X : zX p_ l s_ m_ [.ref (ad 0), .int (nI g), .int 109].toArray meth_ c_ cX7_of 4 RX7 D cy wa (zA n ad sz) := X
  have hAd : ∀ i, i < n → zA n ad sz (ad i) := fun i hi => Or.inl ⟨i, hi, rfl⟩
  have hg8 : g < 8 := by omega
  refine zw_run X (is := [(0, .aload_n 0, 1), (1, .iload_n 1, 1)]) (t' := (2, [some (.ref (ad 0)), some (.int (nI g)), some (.int 109), none], [.int (nI g), .ref (ad 0)])) ⟨dX7_of_0, dX7_of_1, trivial⟩ rfl ?_
  refine zw_Vv X hAd (As := [.int (nI g)]) (rest := []) (d := 0) (i := 0) (by omega) zc_0 (q := (RX7, TX7, 16)) rfl ⟨zm_135, zm_136, zm_137, zm_2, zm_138, rfl, by decide, by decide, (show (parseMethodDescriptor yX7_needGuild.desc).map (fun d => d.parameters.length) = some 1 by decide +kernel)⟩ (fun sz => c_needGuild hls hD hn σ gc hgc e0 g hg sz) rfl rfl (Nat.le_of_ble_eq_true rfl) ⟨Nat.le_of_ble_eq_true rfl, Nat.le_of_ble_eq_true rfl⟩ ⟨Nat.zero_le _, Nat.zero_le _⟩ dX7_of_2 ?_
  refine zw_run X (is := [(5, .aload_n 0, 1)]) (t' := (6, [some (.ref (ad 0)), some (.int (nI g)), some (.int 109), none], [.ref (ad 0)])) ⟨dX7_of_5, trivial⟩ rfl ?_
  refine zw_getf X (i := 0) (by omega) zc_0 (C := RX7) (T := TX7) (Nf := 16) rfl zi_X7 0 (by decide) rfl zm_18 rfl dX7_of_6 ?_
  refine zw_run X (is := [(9, .iload_n 1, 1)]) (t' := (10, [some (.ref (ad 0)), some (.int (nI g)), some (.int 109), none], [.int (nI g), .ref (ad 1)])) ⟨dX7_of_9, trivial⟩ rfl ?_
  refine zw_guild X (by omega) (g := g) rfl hg8 dX7_of_10 ?_
  refine zw_run X (is := [(11, .astore_n 3, 1), (12, .iload_n 2, 1)]) (t' := (13, [some (.ref (ad 0)), some (.int (nI g)), some (.int 109), some (.ref (ad (8 + g)))], [.int 109])) ⟨dX7_of_11, dX7_of_12, trivial⟩ rfl ?_
  refine zw_tabIn X (off := 107) (tgt := 120) dX7_of_13 (by decide) (by decide) (by decide) (by decide) ?_
  refine zw_run X (is := [(120, .aload_n 3, 1)]) (t' := (121, [some (.ref (ad 0)), some (.int (nI g)), some (.int 109), some (.ref (ad (8 + g)))], [.ref (ad (8 + g))])) ⟨dX7_of_120, trivial⟩ rfl ?_
  refine zw_getf X (i := 8 + g) (by omega) (zc_G hg8) (C := RX1) (T := TX1) (Nf := 7) rfl zi_X1 0 (by decide) rfl zm_111 rfl dX7_of_121 ?_
  exact zw_iret X hr dX7_of_124 rfl rfl rfl

set_option maxHeartbeats 4000000 in
set_option maxRecDepth 100000 in
theorem c_of_l {l : Launch} (hls : l.stackTraces = false) {D : va_G} {cy : Nat → ClassId} {wa : Nat → Nat} {N n : Nat} {ad : Nat → Nat} (hD : zD n ad) (hn : 40 ≤ n) (σ : zS) (gc : Nat) (hgc : gc ≤ 8) (e0 : σ 0 11 = nI gc) (g : Nat) (hg : g < gc)  (sz : Nat) : Met l yX7_of (.code yX7_of cX7_of 4 (some .int) :: zB) (zRm 2) (zPc [.ref (ad 0), .int (nI g), .int 108] D cy wa N n ad σ sz) (zQi (σ (16 + g) 0) D cy N n ad (σ) sz) 0 0 (zA n ad sz) := by
  refine z_met (by decide) hls (List.forall_mem_cons.mpr ⟨rfl, (List.forall_mem_cons.mpr ⟨rfl, (List.forall_mem_cons.mpr ⟨rfl, (fun _ h => nomatch h)⟩)⟩)⟩) (Nat.le_of_ble_eq_true rfl) (fun p_ e_ s_ m_ below_ meth_ c_ hsz hr X => ?_)
  have X : zX p_ l s_ m_ [.ref (ad 0), .int (nI g), .int 108].toArray meth_ c_ cX7_of 4 RX7 D cy wa (zA n ad sz) := X
  have hAd : ∀ i, i < n → zA n ad sz (ad i) := fun i hi => Or.inl ⟨i, hi, rfl⟩
  have hg8 : g < 8 := by omega
  refine zw_run X (is := [(0, .aload_n 0, 1), (1, .iload_n 1, 1)]) (t' := (2, [some (.ref (ad 0)), some (.int (nI g)), some (.int 108), none], [.int (nI g), .ref (ad 0)])) ⟨dX7_of_0, dX7_of_1, trivial⟩ rfl ?_
  refine zw_Vv X hAd (As := [.int (nI g)]) (rest := []) (d := 0) (i := 0) (by omega) zc_0 (q := (RX7, TX7, 16)) rfl ⟨zm_135, zm_136, zm_137, zm_2, zm_138, rfl, by decide, by decide, (show (parseMethodDescriptor yX7_needGuild.desc).map (fun d => d.parameters.length) = some 1 by decide +kernel)⟩ (fun sz => c_needGuild hls hD hn σ gc hgc e0 g hg sz) rfl rfl (Nat.le_of_ble_eq_true rfl) ⟨Nat.le_of_ble_eq_true rfl, Nat.le_of_ble_eq_true rfl⟩ ⟨Nat.zero_le _, Nat.zero_le _⟩ dX7_of_2 ?_
  refine zw_run X (is := [(5, .aload_n 0, 1)]) (t' := (6, [some (.ref (ad 0)), some (.int (nI g)), some (.int 108), none], [.ref (ad 0)])) ⟨dX7_of_5, trivial⟩ rfl ?_
  refine zw_getf X (i := 0) (by omega) zc_0 (C := RX7) (T := TX7) (Nf := 16) rfl zi_X7 0 (by decide) rfl zm_18 rfl dX7_of_6 ?_
  refine zw_run X (is := [(9, .iload_n 1, 1)]) (t' := (10, [some (.ref (ad 0)), some (.int (nI g)), some (.int 108), none], [.int (nI g), .ref (ad 1)])) ⟨dX7_of_9, trivial⟩ rfl ?_
  refine zw_guild X (by omega) (g := g) rfl hg8 dX7_of_10 ?_
  refine zw_run X (is := [(11, .astore_n 3, 1), (12, .iload_n 2, 1)]) (t' := (13, [some (.ref (ad 0)), some (.int (nI g)), some (.int 108), some (.ref (ad (8 + g)))], [.int 108])) ⟨dX7_of_11, dX7_of_12, trivial⟩ rfl ?_
  refine zw_tabIn X (off := 112) (tgt := 125) dX7_of_13 (by decide) (by decide) (by decide) (by decide) ?_
  refine zw_run X (is := [(125, .aload_n 3, 1)]) (t' := (126, [some (.ref (ad 0)), some (.int (nI g)), some (.int 108), some (.ref (ad (8 + g)))], [.ref (ad (8 + g))])) ⟨dX7_of_125, trivial⟩ rfl ?_
  refine zw_getf X (i := 8 + g) (by omega) (zc_G hg8) (C := RX1) (T := TX1) (Nf := 7) rfl zi_X1 6 (by decide) rfl zm_112 rfl dX7_of_126 ?_
  refine zw_getf X (i := 16 + g) (by omega) (zc_P hg8) (C := RX4) (T := TX4) (Nf := 7) rfl zi_X4 0 (by decide) rfl zm_280 rfl dX7_of_129 ?_
  exact zw_iret X hr dX7_of_132 rfl rfl rfl

set_option maxHeartbeats 4000000 in
set_option maxRecDepth 100000 in
theorem c_of_p {l : Launch} (hls : l.stackTraces = false) {D : va_G} {cy : Nat → ClassId} {wa : Nat → Nat} {N n : Nat} {ad : Nat → Nat} (hD : zD n ad) (hn : 40 ≤ n) (σ : zS) (gc : Nat) (hgc : gc ≤ 8) (e0 : σ 0 11 = nI gc) (g : Nat) (hg : g < gc)  (sz : Nat) : Met l yX7_of (.code yX7_of cX7_of 4 (some .int) :: zB) (zRm 2) (zPc [.ref (ad 0), .int (nI g), .int 112] D cy wa N n ad σ sz) (zQi (σ (16 + g) 1) D cy N n ad (σ) sz) 0 0 (zA n ad sz) := by
  refine z_met (by decide) hls (List.forall_mem_cons.mpr ⟨rfl, (List.forall_mem_cons.mpr ⟨rfl, (List.forall_mem_cons.mpr ⟨rfl, (fun _ h => nomatch h)⟩)⟩)⟩) (Nat.le_of_ble_eq_true rfl) (fun p_ e_ s_ m_ below_ meth_ c_ hsz hr X => ?_)
  have X : zX p_ l s_ m_ [.ref (ad 0), .int (nI g), .int 112].toArray meth_ c_ cX7_of 4 RX7 D cy wa (zA n ad sz) := X
  have hAd : ∀ i, i < n → zA n ad sz (ad i) := fun i hi => Or.inl ⟨i, hi, rfl⟩
  have hg8 : g < 8 := by omega
  refine zw_run X (is := [(0, .aload_n 0, 1), (1, .iload_n 1, 1)]) (t' := (2, [some (.ref (ad 0)), some (.int (nI g)), some (.int 112), none], [.int (nI g), .ref (ad 0)])) ⟨dX7_of_0, dX7_of_1, trivial⟩ rfl ?_
  refine zw_Vv X hAd (As := [.int (nI g)]) (rest := []) (d := 0) (i := 0) (by omega) zc_0 (q := (RX7, TX7, 16)) rfl ⟨zm_135, zm_136, zm_137, zm_2, zm_138, rfl, by decide, by decide, (show (parseMethodDescriptor yX7_needGuild.desc).map (fun d => d.parameters.length) = some 1 by decide +kernel)⟩ (fun sz => c_needGuild hls hD hn σ gc hgc e0 g hg sz) rfl rfl (Nat.le_of_ble_eq_true rfl) ⟨Nat.le_of_ble_eq_true rfl, Nat.le_of_ble_eq_true rfl⟩ ⟨Nat.zero_le _, Nat.zero_le _⟩ dX7_of_2 ?_
  refine zw_run X (is := [(5, .aload_n 0, 1)]) (t' := (6, [some (.ref (ad 0)), some (.int (nI g)), some (.int 112), none], [.ref (ad 0)])) ⟨dX7_of_5, trivial⟩ rfl ?_
  refine zw_getf X (i := 0) (by omega) zc_0 (C := RX7) (T := TX7) (Nf := 16) rfl zi_X7 0 (by decide) rfl zm_18 rfl dX7_of_6 ?_
  refine zw_run X (is := [(9, .iload_n 1, 1)]) (t' := (10, [some (.ref (ad 0)), some (.int (nI g)), some (.int 112), none], [.int (nI g), .ref (ad 1)])) ⟨dX7_of_9, trivial⟩ rfl ?_
  refine zw_guild X (by omega) (g := g) rfl hg8 dX7_of_10 ?_
  refine zw_run X (is := [(11, .astore_n 3, 1), (12, .iload_n 2, 1)]) (t' := (13, [some (.ref (ad 0)), some (.int (nI g)), some (.int 112), some (.ref (ad (8 + g)))], [.int 112])) ⟨dX7_of_11, dX7_of_12, trivial⟩ rfl ?_
  refine zw_tabIn X (off := 120) (tgt := 133) dX7_of_13 (by decide) (by decide) (by decide) (by decide) ?_
  refine zw_run X (is := [(133, .aload_n 3, 1)]) (t' := (134, [some (.ref (ad 0)), some (.int (nI g)), some (.int 112), some (.ref (ad (8 + g)))], [.ref (ad (8 + g))])) ⟨dX7_of_133, trivial⟩ rfl ?_
  refine zw_getf X (i := 8 + g) (by omega) (zc_G hg8) (C := RX1) (T := TX1) (Nf := 7) rfl zi_X1 6 (by decide) rfl zm_112 rfl dX7_of_134 ?_
  refine zw_getf X (i := 16 + g) (by omega) (zc_P hg8) (C := RX4) (T := TX4) (Nf := 7) rfl zi_X4 1 (by decide) rfl zm_251 rfl dX7_of_137 ?_
  exact zw_iret X hr dX7_of_140 rfl rfl rfl

set_option maxHeartbeats 4000000 in
set_option maxRecDepth 100000 in
theorem c_of_e {l : Launch} (hls : l.stackTraces = false) {D : va_G} {cy : Nat → ClassId} {wa : Nat → Nat} {N n : Nat} {ad : Nat → Nat} (hD : zD n ad) (hn : 40 ≤ n) (σ : zS) (gc : Nat) (hgc : gc ≤ 8) (e0 : σ 0 11 = nI gc) (g : Nat) (hg : g < gc)  (sz : Nat) : Met l yX7_of (.code yX7_of cX7_of 4 (some .int) :: zB) (zRm 2) (zPc [.ref (ad 0), .int (nI g), .int 101] D cy wa N n ad σ sz) (zQi (σ (16 + g) 3) D cy N n ad (σ) sz) 0 0 (zA n ad sz) := by
  refine z_met (by decide) hls (List.forall_mem_cons.mpr ⟨rfl, (List.forall_mem_cons.mpr ⟨rfl, (List.forall_mem_cons.mpr ⟨rfl, (fun _ h => nomatch h)⟩)⟩)⟩) (Nat.le_of_ble_eq_true rfl) (fun p_ e_ s_ m_ below_ meth_ c_ hsz hr X => ?_)
  have X : zX p_ l s_ m_ [.ref (ad 0), .int (nI g), .int 101].toArray meth_ c_ cX7_of 4 RX7 D cy wa (zA n ad sz) := X
  have hAd : ∀ i, i < n → zA n ad sz (ad i) := fun i hi => Or.inl ⟨i, hi, rfl⟩
  have hg8 : g < 8 := by omega
  refine zw_run X (is := [(0, .aload_n 0, 1), (1, .iload_n 1, 1)]) (t' := (2, [some (.ref (ad 0)), some (.int (nI g)), some (.int 101), none], [.int (nI g), .ref (ad 0)])) ⟨dX7_of_0, dX7_of_1, trivial⟩ rfl ?_
  refine zw_Vv X hAd (As := [.int (nI g)]) (rest := []) (d := 0) (i := 0) (by omega) zc_0 (q := (RX7, TX7, 16)) rfl ⟨zm_135, zm_136, zm_137, zm_2, zm_138, rfl, by decide, by decide, (show (parseMethodDescriptor yX7_needGuild.desc).map (fun d => d.parameters.length) = some 1 by decide +kernel)⟩ (fun sz => c_needGuild hls hD hn σ gc hgc e0 g hg sz) rfl rfl (Nat.le_of_ble_eq_true rfl) ⟨Nat.le_of_ble_eq_true rfl, Nat.le_of_ble_eq_true rfl⟩ ⟨Nat.zero_le _, Nat.zero_le _⟩ dX7_of_2 ?_
  refine zw_run X (is := [(5, .aload_n 0, 1)]) (t' := (6, [some (.ref (ad 0)), some (.int (nI g)), some (.int 101), none], [.ref (ad 0)])) ⟨dX7_of_5, trivial⟩ rfl ?_
  refine zw_getf X (i := 0) (by omega) zc_0 (C := RX7) (T := TX7) (Nf := 16) rfl zi_X7 0 (by decide) rfl zm_18 rfl dX7_of_6 ?_
  refine zw_run X (is := [(9, .iload_n 1, 1)]) (t' := (10, [some (.ref (ad 0)), some (.int (nI g)), some (.int 101), none], [.int (nI g), .ref (ad 1)])) ⟨dX7_of_9, trivial⟩ rfl ?_
  refine zw_guild X (by omega) (g := g) rfl hg8 dX7_of_10 ?_
  refine zw_run X (is := [(11, .astore_n 3, 1), (12, .iload_n 2, 1)]) (t' := (13, [some (.ref (ad 0)), some (.int (nI g)), some (.int 101), some (.ref (ad (8 + g)))], [.int 101])) ⟨dX7_of_11, dX7_of_12, trivial⟩ rfl ?_
  refine zw_tabIn X (off := 128) (tgt := 141) dX7_of_13 (by decide) (by decide) (by decide) (by decide) ?_
  refine zw_run X (is := [(141, .aload_n 3, 1)]) (t' := (142, [some (.ref (ad 0)), some (.int (nI g)), some (.int 101), some (.ref (ad (8 + g)))], [.ref (ad (8 + g))])) ⟨dX7_of_141, trivial⟩ rfl ?_
  refine zw_getf X (i := 8 + g) (by omega) (zc_G hg8) (C := RX1) (T := TX1) (Nf := 7) rfl zi_X1 6 (by decide) rfl zm_112 rfl dX7_of_142 ?_
  refine zw_getf X (i := 16 + g) (by omega) (zc_P hg8) (C := RX4) (T := TX4) (Nf := 7) rfl zi_X4 3 (by decide) rfl zm_235 rfl dX7_of_145 ?_
  exact zw_iret X hr dX7_of_148 rfl rfl rfl

set_option maxHeartbeats 4000000 in
set_option maxRecDepth 100000 in
theorem c_of_w {l : Launch} (hls : l.stackTraces = false) {D : va_G} {cy : Nat → ClassId} {wa : Nat → Nat} {N n : Nat} {ad : Nat → Nat} (hD : zD n ad) (hn : 40 ≤ n) (σ : zS) (gc : Nat) (hgc : gc ≤ 8) (e0 : σ 0 11 = nI gc) (g : Nat) (hg : g < gc)  (sz : Nat) : Met l yX7_of (.code yX7_of cX7_of 4 (some .int) :: zB) (zRm 2) (zPc [.ref (ad 0), .int (nI g), .int 119] D cy wa N n ad σ sz) (zQi (σ (8 + g) 5) D cy N n ad (σ) sz) 0 0 (zA n ad sz) := by
  refine z_met (by decide) hls (List.forall_mem_cons.mpr ⟨rfl, (List.forall_mem_cons.mpr ⟨rfl, (List.forall_mem_cons.mpr ⟨rfl, (fun _ h => nomatch h)⟩)⟩)⟩) (Nat.le_of_ble_eq_true rfl) (fun p_ e_ s_ m_ below_ meth_ c_ hsz hr X => ?_)
  have X : zX p_ l s_ m_ [.ref (ad 0), .int (nI g), .int 119].toArray meth_ c_ cX7_of 4 RX7 D cy wa (zA n ad sz) := X
  have hAd : ∀ i, i < n → zA n ad sz (ad i) := fun i hi => Or.inl ⟨i, hi, rfl⟩
  have hg8 : g < 8 := by omega
  refine zw_run X (is := [(0, .aload_n 0, 1), (1, .iload_n 1, 1)]) (t' := (2, [some (.ref (ad 0)), some (.int (nI g)), some (.int 119), none], [.int (nI g), .ref (ad 0)])) ⟨dX7_of_0, dX7_of_1, trivial⟩ rfl ?_
  refine zw_Vv X hAd (As := [.int (nI g)]) (rest := []) (d := 0) (i := 0) (by omega) zc_0 (q := (RX7, TX7, 16)) rfl ⟨zm_135, zm_136, zm_137, zm_2, zm_138, rfl, by decide, by decide, (show (parseMethodDescriptor yX7_needGuild.desc).map (fun d => d.parameters.length) = some 1 by decide +kernel)⟩ (fun sz => c_needGuild hls hD hn σ gc hgc e0 g hg sz) rfl rfl (Nat.le_of_ble_eq_true rfl) ⟨Nat.le_of_ble_eq_true rfl, Nat.le_of_ble_eq_true rfl⟩ ⟨Nat.zero_le _, Nat.zero_le _⟩ dX7_of_2 ?_
  refine zw_run X (is := [(5, .aload_n 0, 1)]) (t' := (6, [some (.ref (ad 0)), some (.int (nI g)), some (.int 119), none], [.ref (ad 0)])) ⟨dX7_of_5, trivial⟩ rfl ?_
  refine zw_getf X (i := 0) (by omega) zc_0 (C := RX7) (T := TX7) (Nf := 16) rfl zi_X7 0 (by decide) rfl zm_18 rfl dX7_of_6 ?_
  refine zw_run X (is := [(9, .iload_n 1, 1)]) (t' := (10, [some (.ref (ad 0)), some (.int (nI g)), some (.int 119), none], [.int (nI g), .ref (ad 1)])) ⟨dX7_of_9, trivial⟩ rfl ?_
  refine zw_guild X (by omega) (g := g) rfl hg8 dX7_of_10 ?_
  refine zw_run X (is := [(11, .astore_n 3, 1), (12, .iload_n 2, 1)]) (t' := (13, [some (.ref (ad 0)), some (.int (nI g)), some (.int 119), some (.ref (ad (8 + g)))], [.int 119])) ⟨dX7_of_11, dX7_of_12, trivial⟩ rfl ?_
  refine zw_tabIn X (off := 136) (tgt := 149) dX7_of_13 (by decide) (by decide) (by decide) (by decide) ?_
  refine zw_run X (is := [(149, .aload_n 3, 1)]) (t' := (150, [some (.ref (ad 0)), some (.int (nI g)), some (.int 119), some (.ref (ad (8 + g)))], [.ref (ad (8 + g))])) ⟨dX7_of_149, trivial⟩ rfl ?_
  refine zw_getf X (i := 8 + g) (by omega) (zc_G hg8) (C := RX1) (T := TX1) (Nf := 7) rfl zi_X1 5 (by decide) rfl zm_260 rfl dX7_of_150 ?_
  exact zw_iret X hr dX7_of_153 rfl rfl rfl

set_option maxHeartbeats 4000000 in
set_option maxRecDepth 100000 in
theorem c_of_f {l : Launch} (hls : l.stackTraces = false) {D : va_G} {cy : Nat → ClassId} {wa : Nat → Nat} {N n : Nat} {ad : Nat → Nat} (hD : zD n ad) (hn : 40 ≤ n) (σ : zS) (gc : Nat) (hgc : gc ≤ 8) (e0 : σ 0 11 = nI gc) (g : Nat) (hg : g < gc)  (sz : Nat) : Met l yX7_of (.code yX7_of cX7_of 4 (some .int) :: zB) (zRm 2) (zPc [.ref (ad 0), .int (nI g), .int 102] D cy wa N n ad σ sz) (zQi (σ (8 + g) 1) D cy N n ad (σ) sz) 0 0 (zA n ad sz) := by
  refine z_met (by decide) hls (List.forall_mem_cons.mpr ⟨rfl, (List.forall_mem_cons.mpr ⟨rfl, (List.forall_mem_cons.mpr ⟨rfl, (fun _ h => nomatch h)⟩)⟩)⟩) (Nat.le_of_ble_eq_true rfl) (fun p_ e_ s_ m_ below_ meth_ c_ hsz hr X => ?_)
  have X : zX p_ l s_ m_ [.ref (ad 0), .int (nI g), .int 102].toArray meth_ c_ cX7_of 4 RX7 D cy wa (zA n ad sz) := X
  have hAd : ∀ i, i < n → zA n ad sz (ad i) := fun i hi => Or.inl ⟨i, hi, rfl⟩
  have hg8 : g < 8 := by omega
  refine zw_run X (is := [(0, .aload_n 0, 1), (1, .iload_n 1, 1)]) (t' := (2, [some (.ref (ad 0)), some (.int (nI g)), some (.int 102), none], [.int (nI g), .ref (ad 0)])) ⟨dX7_of_0, dX7_of_1, trivial⟩ rfl ?_
  refine zw_Vv X hAd (As := [.int (nI g)]) (rest := []) (d := 0) (i := 0) (by omega) zc_0 (q := (RX7, TX7, 16)) rfl ⟨zm_135, zm_136, zm_137, zm_2, zm_138, rfl, by decide, by decide, (show (parseMethodDescriptor yX7_needGuild.desc).map (fun d => d.parameters.length) = some 1 by decide +kernel)⟩ (fun sz => c_needGuild hls hD hn σ gc hgc e0 g hg sz) rfl rfl (Nat.le_of_ble_eq_true rfl) ⟨Nat.le_of_ble_eq_true rfl, Nat.le_of_ble_eq_true rfl⟩ ⟨Nat.zero_le _, Nat.zero_le _⟩ dX7_of_2 ?_
  refine zw_run X (is := [(5, .aload_n 0, 1)]) (t' := (6, [some (.ref (ad 0)), some (.int (nI g)), some (.int 102), none], [.ref (ad 0)])) ⟨dX7_of_5, trivial⟩ rfl ?_
  refine zw_getf X (i := 0) (by omega) zc_0 (C := RX7) (T := TX7) (Nf := 16) rfl zi_X7 0 (by decide) rfl zm_18 rfl dX7_of_6 ?_
  refine zw_run X (is := [(9, .iload_n 1, 1)]) (t' := (10, [some (.ref (ad 0)), some (.int (nI g)), some (.int 102), none], [.int (nI g), .ref (ad 1)])) ⟨dX7_of_9, trivial⟩ rfl ?_
  refine zw_guild X (by omega) (g := g) rfl hg8 dX7_of_10 ?_
  refine zw_run X (is := [(11, .astore_n 3, 1), (12, .iload_n 2, 1)]) (t' := (13, [some (.ref (ad 0)), some (.int (nI g)), some (.int 102), some (.ref (ad (8 + g)))], [.int 102])) ⟨dX7_of_11, dX7_of_12, trivial⟩ rfl ?_
  refine zw_tabIn X (off := 141) (tgt := 154) dX7_of_13 (by decide) (by decide) (by decide) (by decide) ?_
  refine zw_run X (is := [(154, .aload_n 3, 1)]) (t' := (155, [some (.ref (ad 0)), some (.int (nI g)), some (.int 102), some (.ref (ad (8 + g)))], [.ref (ad (8 + g))])) ⟨dX7_of_154, trivial⟩ rfl ?_
  refine zw_getf X (i := 8 + g) (by omega) (zc_G hg8) (C := RX1) (T := TX1) (Nf := 7) rfl zi_X1 1 (by decide) rfl zm_390 rfl dX7_of_155 ?_
  exact zw_iret X hr dX7_of_158 rfl rfl rfl

set_option maxHeartbeats 4000000 in
set_option maxRecDepth 100000 in
theorem c_of_a {l : Launch} (hls : l.stackTraces = false) {D : va_G} {cy : Nat → ClassId} {wa : Nat → Nat} {N n : Nat} {ad : Nat → Nat} (hD : zD n ad) (hn : 40 ≤ n) (σ : zS) (gc : Nat) (hgc : gc ≤ 8) (e0 : σ 0 11 = nI gc) (g : Nat) (hg : g < gc)  (sz : Nat) : Met l yX7_of (.code yX7_of cX7_of 4 (some .int) :: zB) (zRm 2) (zPc [.ref (ad 0), .int (nI g), .int 97] D cy wa N n ad σ sz) (zQi (σ (16 + g) 0 - σ (16 + g) 4) D cy N n ad (σ) sz) 0 0 (zA n ad sz) := by
  refine z_met (by decide) hls (List.forall_mem_cons.mpr ⟨rfl, (List.forall_mem_cons.mpr ⟨rfl, (List.forall_mem_cons.mpr ⟨rfl, (fun _ h => nomatch h)⟩)⟩)⟩) (Nat.le_of_ble_eq_true rfl) (fun p_ e_ s_ m_ below_ meth_ c_ hsz hr X => ?_)
  have X : zX p_ l s_ m_ [.ref (ad 0), .int (nI g), .int 97].toArray meth_ c_ cX7_of 4 RX7 D cy wa (zA n ad sz) := X
  have hAd : ∀ i, i < n → zA n ad sz (ad i) := fun i hi => Or.inl ⟨i, hi, rfl⟩
  have hg8 : g < 8 := by omega
  refine zw_run X (is := [(0, .aload_n 0, 1), (1, .iload_n 1, 1)]) (t' := (2, [some (.ref (ad 0)), some (.int (nI g)), some (.int 97), none], [.int (nI g), .ref (ad 0)])) ⟨dX7_of_0, dX7_of_1, trivial⟩ rfl ?_
  refine zw_Vv X hAd (As := [.int (nI g)]) (rest := []) (d := 0) (i := 0) (by omega) zc_0 (q := (RX7, TX7, 16)) rfl ⟨zm_135, zm_136, zm_137, zm_2, zm_138, rfl, by decide, by decide, (show (parseMethodDescriptor yX7_needGuild.desc).map (fun d => d.parameters.length) = some 1 by decide +kernel)⟩ (fun sz => c_needGuild hls hD hn σ gc hgc e0 g hg sz) rfl rfl (Nat.le_of_ble_eq_true rfl) ⟨Nat.le_of_ble_eq_true rfl, Nat.le_of_ble_eq_true rfl⟩ ⟨Nat.zero_le _, Nat.zero_le _⟩ dX7_of_2 ?_
  refine zw_run X (is := [(5, .aload_n 0, 1)]) (t' := (6, [some (.ref (ad 0)), some (.int (nI g)), some (.int 97), none], [.ref (ad 0)])) ⟨dX7_of_5, trivial⟩ rfl ?_
  refine zw_getf X (i := 0) (by omega) zc_0 (C := RX7) (T := TX7) (Nf := 16) rfl zi_X7 0 (by decide) rfl zm_18 rfl dX7_of_6 ?_
  refine zw_run X (is := [(9, .iload_n 1, 1)]) (t' := (10, [some (.ref (ad 0)), some (.int (nI g)), some (.int 97), none], [.int (nI g), .ref (ad 1)])) ⟨dX7_of_9, trivial⟩ rfl ?_
  refine zw_guild X (by omega) (g := g) rfl hg8 dX7_of_10 ?_
  refine zw_run X (is := [(11, .astore_n 3, 1), (12, .iload_n 2, 1)]) (t' := (13, [some (.ref (ad 0)), some (.int (nI g)), some (.int 97), some (.ref (ad (8 + g)))], [.int 97])) ⟨dX7_of_11, dX7_of_12, trivial⟩ rfl ?_
  refine zw_tabIn X (off := 146) (tgt := 159) dX7_of_13 (by decide) (by decide) (by decide) (by decide) ?_
  refine zw_run X (is := [(159, .aload_n 3, 1)]) (t' := (160, [some (.ref (ad 0)), some (.int (nI g)), some (.int 97), some (.ref (ad (8 + g)))], [.ref (ad (8 + g))])) ⟨dX7_of_159, trivial⟩ rfl ?_
  refine zw_getf X (i := 8 + g) (by omega) (zc_G hg8) (C := RX1) (T := TX1) (Nf := 7) rfl zi_X1 6 (by decide) rfl zm_112 rfl dX7_of_160 ?_
  refine zw_Vi X hAd (As := []) (rest := []) (d := 0) (i := 16 + g) (by omega) (zc_P hg8) (q := (RX4, TX4, 7)) rfl ⟨zm_281, zm_282, zm_283, zm_81, zm_284, rfl, by decide, by decide, (show (parseMethodDescriptor yX4_linesNotInBook.desc).map (fun d => d.parameters.length) = some 0 by decide +kernel)⟩ (fun sz => c_lnib hls hD hn σ g hg8 sz) rfl rfl (Nat.le_of_ble_eq_true rfl) ⟨Nat.le_of_ble_eq_true rfl, Nat.le_of_ble_eq_true rfl⟩ ⟨Nat.zero_le _, Nat.zero_le _⟩ dX7_of_163 ?_
  exact zw_iret X hr dX7_of_166 rfl rfl rfl

set_option maxHeartbeats 4000000 in
set_option maxRecDepth 100000 in
theorem c_of_bad {l : Launch} (hls : l.stackTraces = false) {D : va_G} {cy : Nat → ClassId} {wa : Nat → Nat} {N n : Nat} {ad : Nat → Nat} (hD : zD n ad) (hn : 40 ≤ n) (σ : zS) (gc : Nat) (hgc : gc ≤ 8) (e0 : σ 0 11 = nI gc) (g : Nat) (hg : g < gc)  (sz : Nat) : vx_Met l yX7_of (.code yX7_of cX7_of 4 (some .int) :: zB) (zRx 2) (zPc [.ref (ad 0), .int (nI g), .int 120] D cy wa N n ad σ sz) zNo (zXC "java/lang/IllegalArgumentException" D cy N n ad (σ) sz) 1 6 (zA n ad sz) := by
  refine z_metx (by decide) hls (List.forall_mem_cons.mpr ⟨rfl, (List.forall_mem_cons.mpr ⟨rfl, (List.forall_mem_cons.mpr ⟨rfl, (fun _ h => nomatch h)⟩)⟩)⟩) (Nat.le_of_ble_eq_true rfl) (fun p_ e_ s_ m_ below_ meth_ c_ hsz hr hno X => ?_)
  have X : zX p_ l s_ m_ [.ref (ad 0), .int (nI g), .int 120].toArray meth_ c_ cX7_of 4 RX7 D cy wa (zA n ad sz) := X
  have hAd : ∀ i, i < n → zA n ad sz (ad i) := fun i hi => Or.inl ⟨i, hi, rfl⟩
  have hg8 : g < 8 := by omega
  refine zw_run X (is := [(0, .aload_n 0, 1), (1, .iload_n 1, 1)]) (t' := (2, [some (.ref (ad 0)), some (.int (nI g)), some (.int 120), none], [.int (nI g), .ref (ad 0)])) ⟨dX7_of_0, dX7_of_1, trivial⟩ rfl ?_
  refine zw_Vv X hAd (As := [.int (nI g)]) (rest := []) (d := 0) (i := 0) (by omega) zc_0 (q := (RX7, TX7, 16)) rfl ⟨zm_135, zm_136, zm_137, zm_2, zm_138, rfl, by decide, by decide, (show (parseMethodDescriptor yX7_needGuild.desc).map (fun d => d.parameters.length) = some 1 by decide +kernel)⟩ (fun sz => c_needGuild hls hD hn σ gc hgc e0 g hg sz) rfl rfl (Nat.le_of_ble_eq_true rfl) ⟨Nat.le_of_ble_eq_true rfl, Nat.le_of_ble_eq_true rfl⟩ ⟨Nat.zero_le _, Nat.zero_le _⟩ dX7_of_2 ?_
  refine zw_run X (is := [(5, .aload_n 0, 1)]) (t' := (6, [some (.ref (ad 0)), some (.int (nI g)), some (.int 120), none], [.ref (ad 0)])) ⟨dX7_of_5, trivial⟩ rfl ?_
  refine zw_getf X (i := 0) (by omega) zc_0 (C := RX7) (T := TX7) (Nf := 16) rfl zi_X7 0 (by decide) rfl zm_18 rfl dX7_of_6 ?_
  refine zw_run X (is := [(9, .iload_n 1, 1)]) (t' := (10, [some (.ref (ad 0)), some (.int (nI g)), some (.int 120), none], [.int (nI g), .ref (ad 1)])) ⟨dX7_of_9, trivial⟩ rfl ?_
  refine zw_guild X (by omega) (g := g) rfl hg8 dX7_of_10 ?_
  refine zw_run X (is := [(11, .astore_n 3, 1), (12, .iload_n 2, 1)]) (t' := (13, [some (.ref (ad 0)), some (.int (nI g)), some (.int 120), some (.ref (ad (8 + g)))], [.int 120])) ⟨dX7_of_11, dX7_of_12, trivial⟩ rfl ?_
  refine zw_tabOut X (tgt := 167) dX7_of_13 (Or.inr (by decide)) (by decide) ?_
  exact zw_throw X hno zTh_iae (is := 123) (text := "no such thing of a guild") (by decide +kernel) rfl rfl dX7_of_167 dX7_of_170 dX7_of_171 dX7_of_173 dX7_of_176 ⟨Nat.le_of_ble_eq_true rfl, Nat.le_of_ble_eq_true rfl, Nat.le_of_ble_eq_true rfl, Nat.le_of_ble_eq_true rfl⟩ ⟨rfl, rfl⟩

set_option maxHeartbeats 4000000 in
set_option maxRecDepth 100000 in
theorem c_of_x {l : Launch} (hls : l.stackTraces = false) {D : va_G} {cy : Nat → ClassId} {wa : Nat → Nat} {N n : Nat} {ad : Nat → Nat} (hD : zD n ad) (hn : 40 ≤ n) (σ : zS) (gc : Nat) (hgc : gc ≤ 8) (e0 : σ 0 11 = nI gc) (g : Nat) (hg : gc ≤ g) (hg2 : g < 100) (w : Int32) (sz : Nat) : vx_Met l yX7_of (.code yX7_of cX7_of 4 (some .int) :: zB) (zRx 2) (zPc [.ref (ad 0), .int (nI g), .int w] D cy wa N n ad σ sz) zNo (zXC "java/lang/IndexOutOfBoundsException" D cy N n ad (σ) sz) 1 6 (zA n ad sz) := by
  refine z_metx (by decide) hls (List.forall_mem_cons.mpr ⟨rfl, (List.forall_mem_cons.mpr ⟨rfl, (List.forall_mem_cons.mpr ⟨rfl, (fun _ h => nomatch h)⟩)⟩)⟩) (Nat.le_of_ble_eq_true rfl) (fun p_ e_ s_ m_ below_ meth_ c_ hsz hr hno X => ?_)
  have X : zX p_ l s_ m_ [.ref (ad 0), .int (nI g), .int w].toArray meth_ c_ cX7_of 4 RX7 D cy wa (zA n ad sz) := X
  have hAd : ∀ i, i < n → zA n ad sz (ad i) := fun i hi => Or.inl ⟨i, hi, rfl⟩
  refine zw_run X (is := [(0, .aload_n 0, 1), (1, .iload_n 1, 1)]) (t' := (2, [some (.ref (ad 0)), some (.int (nI g)), some (.int w), none], [.int (nI g), .ref (ad 0)])) ⟨dX7_of_0, dX7_of_1, trivial⟩ rfl ?_
  exact zw_Vo X hno hAd rfl (As := [.int (nI g)]) (rest := []) (d := 0) (i := 0) (by omega) zc_0 (q := (RX7, TX7, 16)) rfl ⟨zm_135, zm_136, zm_137, zm_2, zm_138, rfl, by decide, by decide, (show (parseMethodDescriptor yX7_needGuild.desc).map (fun d => d.parameters.length) = some 1 by decide +kernel)⟩ (fun sz => c_needGuild_x hls hD hn σ gc hgc e0 g hg hg2 sz) rfl rfl (Nat.le_of_ble_eq_true rfl) ⟨Nat.le_of_ble_eq_true rfl, Nat.le_of_ble_eq_true rfl⟩ ⟨Nat.le_of_ble_eq_true rfl, Nat.le_of_ble_eq_true rfl⟩ dX7_of_2

set_option maxHeartbeats 4000000 in
set_option maxRecDepth 100000 in
theorem c_learn {l : Launch} (hls : l.stackTraces = false) {D : va_G} {cy : Nat → ClassId} {wa : Nat → Nat} {N n : Nat} {ad : Nat → Nat} (hD : zD n ad) (hn : 40 ≤ n) (σ : zS) (gc : Nat) (hgc : gc ≤ 8) (e0 : σ 0 11 = nI gc) (g : Nat) (hg : g < gc) (x : Int32) (h1 : ¬ x < 1) (h2 : x ≤ 30) (ho : σ (8 + g) 2 = 0) (sz : Nat) : Met l yX7_learn (.code yX7_learn cX7_learn 4 (some .int) :: zB) (zRm 2) (zPc [.ref (ad 0), .int (nI g), .int x] D cy wa N n ad σ sz) (zQi (if σ (16 + g) 3 + 5 * x < 100 then σ (16 + g) 3 + 5 * x else 100) D cy N n ad (zu σ (16 + g) 3 (if σ (16 + g) 3 + 5 * x < 100 then σ (16 + g) 3 + 5 * x else 100)) sz) 0 0 (zA n ad sz) := by
  refine z_met (by decide) hls (List.forall_mem_cons.mpr ⟨rfl, (List.forall_mem_cons.mpr ⟨rfl, (List.forall_mem_cons.mpr ⟨rfl, (fun _ h => nomatch h)⟩)⟩)⟩) (Nat.le_of_ble_eq_true rfl) (fun p_ e_ s_ m_ below_ meth_ c_ hsz hr X => ?_)
  have X : zX p_ l s_ m_ [.ref (ad 0), .int (nI g), .int x].toArray meth_ c_ cX7_learn 4 RX7 D cy wa (zA n ad sz) := X
  have hAd : ∀ i, i < n → zA n ad sz (ad i) := fun i hi => Or.inl ⟨i, hi, rfl⟩
  have hg8 : g < 8 := by omega
  refine zw_run X (is := [(0, .aload_n 0, 1), (1, .iload_n 1, 1)]) (t' := (2, [some (.ref (ad 0)), some (.int (nI g)), some (.int x), none], [.int (nI g), .ref (ad 0)])) ⟨dX7_learn_0, dX7_learn_1, trivial⟩ rfl ?_
  refine zw_Vv X hAd (As := [.int (nI g)]) (rest := []) (d := 0) (i := 0) (by omega) zc_0 (q := (RX7, TX7, 16)) rfl ⟨zm_135, zm_136, zm_137, zm_2, zm_138, rfl, by decide, by decide, (show (parseMethodDescriptor yX7_needGuild.desc).map (fun d => d.parameters.length) = some 1 by decide +kernel)⟩ (fun sz => c_needGuild hls hD hn σ gc hgc e0 g hg sz) rfl rfl (Nat.le_of_ble_eq_true rfl) ⟨Nat.le_of_ble_eq_true rfl, Nat.le_of_ble_eq_true rfl⟩ ⟨Nat.zero_le _, Nat.zero_le _⟩ dX7_learn_2 ?_
  refine zw_run X (is := [(5, .iload_n 2, 1), (6, .iconst 1, 1), (7, .bipush 30, 2)]) (t' := (9, [some (.ref (ad 0)), some (.int (nI g)), some (.int x), none], [.int 30, .int 1, .int x])) ⟨dX7_learn_5, dX7_learn_6, dX7_learn_7, trivial⟩ rfl ?_
  refine zw_Sv X hAd (As := [.int x, .int 1, .int 30]) (rest := []) (d := 0) ⟨zm_114, zm_115, zm_2, zm_116, by decide, by decide, (show (parseMethodDescriptor yX7_needRange.desc).map (fun d => d.parameters.length) = some 3 by decide +kernel)⟩ (fun sz => c_needRange hls hD hn σ x 1 30 h1 h2 sz) rfl rfl (Nat.le_of_ble_eq_true rfl) ⟨Nat.le_of_ble_eq_true rfl, Nat.le_of_ble_eq_true rfl⟩ ⟨Nat.zero_le _, Nat.zero_le _⟩ dX7_learn_9 ?_
  refine zw_run X (is := [(12, .aload_n 0, 1), (13, .iload_n 1, 1)]) (t' := (14, [some (.ref (ad 0)), some (.int (nI g)), some (.int x), none], [.int (nI g), .ref (ad 0)])) ⟨dX7_learn_12, dX7_learn_13, trivial⟩ rfl ?_
  refine zw_Vv X hAd (As := [.int (nI g)]) (rest := []) (d := 0) (i := 0) (by omega) zc_0 (q := (RX7, TX7, 16)) rfl ⟨zm_240, zm_241, zm_242, zm_2, zm_243, rfl, by decide, by decide, (show (parseMethodDescriptor yX7_needNotOver.desc).map (fun d => d.parameters.length) = some 1 by decide +kernel)⟩ (fun sz => c_needNotOver hls hD hn σ g hg8 ho sz) rfl rfl (Nat.le_of_ble_eq_true rfl) ⟨Nat.le_of_ble_eq_true rfl, Nat.le_of_ble_eq_true rfl⟩ ⟨Nat.zero_le _, Nat.zero_le _⟩ dX7_learn_14 ?_
  refine zw_run X (is := [(17, .aload_n 0, 1)]) (t' := (18, [some (.ref (ad 0)), some (.int (nI g)), some (.int x), none], [.ref (ad 0)])) ⟨dX7_learn_17, trivial⟩ rfl ?_
  refine zw_getf X (i := 0) (by omega) zc_0 (C := RX7) (T := TX7) (Nf := 16) rfl zi_X7 0 (by decide) rfl zm_18 rfl dX7_learn_18 ?_
  refine zw_run X (is := [(21, .iload_n 1, 1)]) (t' := (22, [some (.ref (ad 0)), some (.int (nI g)), some (.int x), none], [.int (nI g), .ref (ad 1)])) ⟨dX7_learn_21, trivial⟩ rfl ?_
  refine zw_guild X (by omega) (g := g) rfl hg8 dX7_learn_22 ?_
  refine zw_getf X (i := 8 + g) (by omega) (zc_G hg8) (C := RX1) (T := TX1) (Nf := 7) rfl zi_X1 6 (by decide) rfl zm_112 rfl dX7_learn_23 ?_
  refine zw_run X (is := [(26, .astore_n 3, 1), (27, .aload_n 3, 1), (28, .bipush 100, 2), (30, .aload_n 3, 1)]) (t' := (31, [some (.ref (ad 0)), some (.int (nI g)), some (.int x), some (.ref (ad (16 + g)))], [.ref (ad (16 + g)), .int 100, .ref (ad (16 + g))])) ⟨dX7_learn_26, dX7_learn_27, dX7_learn_28, dX7_learn_30, trivial⟩ rfl ?_
  refine zw_getf X (i := 16 + g) (by omega) (zc_P hg8) (C := RX4) (T := TX4) (Nf := 7) rfl zi_X4 3 (by decide) rfl zm_235 rfl dX7_learn_31 ?_
  refine zw_run X (is := [(34, .iconst 5, 1), (35, .iload_n 2, 1), (36, .imul, 1), (37, .iadd, 1)]) (t' := (38, [some (.ref (ad 0)), some (.int (nI g)), some (.int x), some (.ref (ad (16 + g)))], [.int ((σ (16 + g) 3) + (5 * x)), .int 100, .ref (ad (16 + g))])) ⟨dX7_learn_34, dX7_learn_35, dX7_learn_36, dX7_learn_37, trivial⟩ rfl ?_
  refine zw_min X zm_236 zm_237 zm_238 zm_239 rfl ⟨Nat.le_of_ble_eq_true rfl, Nat.le_of_ble_eq_true rfl⟩ ⟨Nat.zero_le _, Nat.zero_le _⟩ (v := if σ (16 + g) 3 + 5 * x < 100 then σ (16 + g) 3 + 5 * x else 100) rfl dX7_learn_38 ?_
  refine zw_put X hD hAd (i := 16 + g) (by omega) (zc_P hg8) (C := RX4) (T := TX4) (Nf := 7) rfl zi_X4 tyX4 tyX4_ok nmX4 3 (by decide) rfl rfl zm_235 (ty := .int) (by decide +kernel) rfl rfl (Nat.le_of_ble_eq_true rfl) (zc_P hg8) dX7_learn_41 ?_
  refine zw_run X (is := [(44, .aload_n 3, 1)]) (t' := (45, [some (.ref (ad 0)), some (.int (nI g)), some (.int x), some (.ref (ad (16 + g)))], [.ref (ad (16 + g))])) ⟨dX7_learn_44, trivial⟩ rfl ?_
  refine zw_getf X (i := 16 + g) (by omega) (zc_P hg8) (C := RX4) (T := TX4) (Nf := 7) rfl zi_X4 3 (by decide) rfl zm_235 rfl dX7_learn_45 ?_
  exact zw_iret X hr dX7_learn_48 rfl zu_s rfl

set_option maxHeartbeats 4000000 in
set_option maxRecDepth 100000 in
theorem c_learn_over {l : Launch} (hls : l.stackTraces = false) {D : va_G} {cy : Nat → ClassId} {wa : Nat → Nat} {N n : Nat} {ad : Nat → Nat} (hD : zD n ad) (hn : 40 ≤ n) (σ : zS) (gc : Nat) (hgc : gc ≤ 8) (e0 : σ 0 11 = nI gc) (g : Nat) (hg : g < gc) (x : Int32) (h1 : ¬ x < 1) (h2 : x ≤ 30) (ho : ¬ σ (8 + g) 2 = 0) (sz : Nat) : vx_Met l yX7_learn (.code yX7_learn cX7_learn 4 (some .int) :: zB) (zRx 2) (zPc [.ref (ad 0), .int (nI g), .int x] D cy wa N n ad σ sz) zNo (zXC "java/lang/UnsupportedOperationException" D cy N n ad (σ) sz) 1 6 (zA n ad sz) := by
  refine z_metx (by decide) hls (List.forall_mem_cons.mpr ⟨rfl, (List.forall_mem_cons.mpr ⟨rfl, (List.forall_mem_cons.mpr ⟨rfl, (fun _ h => nomatch h)⟩)⟩)⟩) (Nat.le_of_ble_eq_true rfl) (fun p_ e_ s_ m_ below_ meth_ c_ hsz hr hno X => ?_)
  have X : zX p_ l s_ m_ [.ref (ad 0), .int (nI g), .int x].toArray meth_ c_ cX7_learn 4 RX7 D cy wa (zA n ad sz) := X
  have hAd : ∀ i, i < n → zA n ad sz (ad i) := fun i hi => Or.inl ⟨i, hi, rfl⟩
  have hg8 : g < 8 := by omega
  refine zw_run X (is := [(0, .aload_n 0, 1), (1, .iload_n 1, 1)]) (t' := (2, [some (.ref (ad 0)), some (.int (nI g)), some (.int x), none], [.int (nI g), .ref (ad 0)])) ⟨dX7_learn_0, dX7_learn_1, trivial⟩ rfl ?_
  refine zw_Vv X hAd (As := [.int (nI g)]) (rest := []) (d := 0) (i := 0) (by omega) zc_0 (q := (RX7, TX7, 16)) rfl ⟨zm_135, zm_136, zm_137, zm_2, zm_138, rfl, by decide, by decide, (show (parseMethodDescriptor yX7_needGuild.desc).map (fun d => d.parameters.length) = some 1 by decide +kernel)⟩ (fun sz => c_needGuild hls hD hn σ gc hgc e0 g hg sz) rfl rfl (Nat.le_of_ble_eq_true rfl) ⟨Nat.le_of_ble_eq_true rfl, Nat.le_of_ble_eq_true rfl⟩ ⟨Nat.zero_le _, Nat.zero_le _⟩ dX7_learn_2 ?_
  refine zw_run X (is := [(5, .iload_n 2, 1), (6, .iconst 1, 1), (7, .bipush 30, 2)]) (t' := (9, [some (.ref (ad 0)), some (.int (nI g)), some (.int x), none], [.int 30, .int 1, .int x])) ⟨dX7_learn_5, dX7_learn_6, dX7_learn_7, trivial⟩ rfl ?_
  refine zw_Sv X hAd (As := [.int x, .int 1, .int 30]) (rest := []) (d := 0) ⟨zm_114, zm_115, zm_2, zm_116, by decide, by decide, (show (parseMethodDescriptor yX7_needRange.desc).map (fun d => d.parameters.length) = some 3 by decide +kernel)⟩ (fun sz => c_needRange hls hD hn σ x 1 30 h1 h2 sz) rfl rfl (Nat.le_of_ble_eq_true rfl) ⟨Nat.le_of_ble_eq_true rfl, Nat.le_of_ble_eq_true rfl⟩ ⟨Nat.zero_le _, Nat.zero_le _⟩ dX7_learn_9 ?_
  refine zw_run X (is := [(12, .aload_n 0, 1), (13, .iload_n 1, 1)]) (t' := (14, [some (.ref (ad 0)), some (.int (nI g)), some (.int x), none], [.int (nI g), .ref (ad 0)])) ⟨dX7_learn_12, dX7_learn_13, trivial⟩ rfl ?_
  exact zw_Vo X hno hAd rfl (As := [.int (nI g)]) (rest := []) (d := 0) (i := 0) (by omega) zc_0 (q := (RX7, TX7, 16)) rfl ⟨zm_240, zm_241, zm_242, zm_2, zm_243, rfl, by decide, by decide, (show (parseMethodDescriptor yX7_needNotOver.desc).map (fun d => d.parameters.length) = some 1 by decide +kernel)⟩ (fun sz => c_needNotOver_x hls hD hn σ g hg8 ho sz) rfl rfl (Nat.le_of_ble_eq_true rfl) ⟨Nat.le_of_ble_eq_true rfl, Nat.le_of_ble_eq_true rfl⟩ ⟨Nat.le_of_ble_eq_true rfl, Nat.le_of_ble_eq_true rfl⟩ dX7_learn_14

set_option maxHeartbeats 4000000 in
set_option maxRecDepth 100000 in
theorem c_learn_bad {l : Launch} (hls : l.stackTraces = false) {D : va_G} {cy : Nat → ClassId} {wa : Nat → Nat} {N n : Nat} {ad : Nat → Nat} (hD : zD n ad) (hn : 40 ≤ n) (σ : zS) (gc : Nat) (hgc : gc ≤ 8) (e0 : σ 0 11 = nI gc) (g : Nat) (hg : g < gc)  (sz : Nat) : vx_Met l yX7_learn (.code yX7_learn cX7_learn 4 (some .int) :: zB) (zRx 2) (zPc [.ref (ad 0), .int (nI g), .int 31] D cy wa N n ad σ sz) zNo (zXC "java/lang/IllegalArgumentException" D cy N n ad (σ) sz) 1 6 (zA n ad sz) := by
  refine z_metx (by decide) hls (List.forall_mem_cons.mpr ⟨rfl, (List.forall_mem_cons.mpr ⟨rfl, (List.forall_mem_cons.mpr ⟨rfl, (fun _ h => nomatch h)⟩)⟩)⟩) (Nat.le_of_ble_eq_true rfl) (fun p_ e_ s_ m_ below_ meth_ c_ hsz hr hno X => ?_)
  have X : zX p_ l s_ m_ [.ref (ad 0), .int (nI g), .int 31].toArray meth_ c_ cX7_learn 4 RX7 D cy wa (zA n ad sz) := X
  have hAd : ∀ i, i < n → zA n ad sz (ad i) := fun i hi => Or.inl ⟨i, hi, rfl⟩
  have hg8 : g < 8 := by omega
  refine zw_run X (is := [(0, .aload_n 0, 1), (1, .iload_n 1, 1)]) (t' := (2, [some (.ref (ad 0)), some (.int (nI g)), some (.int 31), none], [.int (nI g), .ref (ad 0)])) ⟨dX7_learn_0, dX7_learn_1, trivial⟩ rfl ?_
  refine zw_Vv X hAd (As := [.int (nI g)]) (rest := []) (d := 0) (i := 0) (by omega) zc_0 (q := (RX7, TX7, 16)) rfl ⟨zm_135, zm_136, zm_137, zm_2, zm_138, rfl, by decide, by decide, (show (parseMethodDescriptor yX7_needGuild.desc).map (fun d => d.parameters.length) = some 1 by decide +kernel)⟩ (fun sz => c_needGuild hls hD hn σ gc hgc e0 g hg sz) rfl rfl (Nat.le_of_ble_eq_true rfl) ⟨Nat.le_of_ble_eq_true rfl, Nat.le_of_ble_eq_true rfl⟩ ⟨Nat.zero_le _, Nat.zero_le _⟩ dX7_learn_2 ?_
  refine zw_run X (is := [(5, .iload_n 2, 1), (6, .iconst 1, 1), (7, .bipush 30, 2)]) (t' := (9, [some (.ref (ad 0)), some (.int (nI g)), some (.int 31), none], [.int 30, .int 1, .int 31])) ⟨dX7_learn_5, dX7_learn_6, dX7_learn_7, trivial⟩ rfl ?_
  exact zw_So X hno hAd rfl (As := [.int 31, .int 1, .int 30]) (rest := []) (d := 0) ⟨zm_114, zm_115, zm_2, zm_116, by decide, by decide, (show (parseMethodDescriptor yX7_needRange.desc).map (fun d => d.parameters.length) = some 3 by decide +kernel)⟩ (fun sz => c_needRange_hi hls hD hn σ 31 1 30 (by decide) (by decide) sz) rfl rfl (Nat.le_of_ble_eq_true rfl) ⟨Nat.le_of_ble_eq_true rfl, Nat.le_of_ble_eq_true rfl⟩ ⟨Nat.le_of_ble_eq_true rfl, Nat.le_of_ble_eq_true rfl⟩ dX7_learn_9

set_option maxHeartbeats 4000000 in
set_option maxRecDepth 100000 in
theorem c_cast {l : Launch} (hls : l.stackTraces = false) {D : va_G} {cy : Nat → ClassId} {wa : Nat → Nat} {N n : Nat} {ad : Nat → Nat} (hD : zD n ad) (hn : 40 ≤ n) (σ : zS) (gc : Nat) (hgc : gc ≤ 8) (e0 : σ 0 11 = nI gc) (g : Nat) (hg : g < gc) (k : Nat) (hk : k < 8) (x : Int32) (hk2 : nI k < σ (16 + g) 1) (h1 : ¬ x < -1) (h2 : x ≤ 19) (sz : Nat) : Met l yX7_cast (.code yX7_cast cX7_cast 6 (some .int) :: zB) (zRm 2) (zPc [.ref (ad 0), .int (nI g), .int (nI k), .int x] D cy wa N n ad σ sz) (zQi (σ (24 + g) k) D cy N n ad (zu σ (24 + g) k x) sz) 0 0 (zA n ad sz) := by
  refine z_met (by decide) hls (List.forall_mem_cons.mpr ⟨rfl, (List.forall_mem_cons.mpr ⟨rfl, (List.forall_mem_cons.mpr ⟨rfl, (List.forall_mem_cons.mpr ⟨rfl, (fun _ h => nomatch h)⟩)⟩)⟩)⟩) (Nat.le_of_ble_eq_true rfl) (fun p_ e_ s_ m_ below_ meth_ c_ hsz hr X => ?_)
  have X : zX p_ l s_ m_ [.ref (ad 0), .int (nI g), .int (nI k), .int x].toArray meth_ c_ cX7_cast 6 RX7 D cy wa (zA n ad sz) := X
  have hAd : ∀ i, i < n → zA n ad sz (ad i) := fun i hi => Or.inl ⟨i, hi, rfl⟩
  have hg8 : g < 8 := by omega
  refine zw_run X (is := [(0, .aload_n 0, 1), (1, .iload_n 1, 1)]) (t' := (2, [some (.ref (ad 0)), some (.int (nI g)), some (.int (nI k)), some (.int x), none, none], [.int (nI g), .ref (ad 0)])) ⟨dX7_cast_0, dX7_cast_1, trivial⟩ rfl ?_
  refine zw_Vv X hAd (As := [.int (nI g)]) (rest := []) (d := 0) (i := 0) (by omega) zc_0 (q := (RX7, TX7, 16)) rfl ⟨zm_135, zm_136, zm_137, zm_2, zm_138, rfl, by decide, by decide, (show (parseMethodDescriptor yX7_needGuild.desc).map (fun d => d.parameters.length) = some 1 by decide +kernel)⟩ (fun sz => c_needGuild hls hD hn σ gc hgc e0 g hg sz) rfl rfl (Nat.le_of_ble_eq_true rfl) ⟨Nat.le_of_ble_eq_true rfl, Nat.le_of_ble_eq_true rfl⟩ ⟨Nat.zero_le _, Nat.zero_le _⟩ dX7_cast_2 ?_
  refine zw_run X (is := [(5, .aload_n 0, 1)]) (t' := (6, [some (.ref (ad 0)), some (.int (nI g)), some (.int (nI k)), some (.int x), none, none], [.ref (ad 0)])) ⟨dX7_cast_5, trivial⟩ rfl ?_
  refine zw_getf X (i := 0) (by omega) zc_0 (C := RX7) (T := TX7) (Nf := 16) rfl zi_X7 0 (by decide) rfl zm_18 rfl dX7_cast_6 ?_
  refine zw_run X (is := [(9, .iload_n 1, 1)]) (t' := (10, [some (.ref (ad 0)), some (.int (nI g)), some (.int (nI k)), some (.int x), none, none], [.int (nI g), .ref (ad 1)])) ⟨dX7_cast_9, trivial⟩ rfl ?_
  refine zw_guild X (by omega) (g := g) rfl hg8 dX7_cast_10 ?_
  refine zw_getf X (i := 8 + g) (by omega) (zc_G hg8) (C := RX1) (T := TX1) (Nf := 7) rfl zi_X1 6 (by decide) rfl zm_112 rfl dX7_cast_11 ?_
  refine zw_run X (is := [(14, .astore 4, 2), (16, .iload_n 2, 1)]) (t' := (17, [some (.ref (ad 0)), some (.int (nI g)), some (.int (nI k)), some (.int x), some (.ref (ad (16 + g))), none], [.int (nI k)])) ⟨dX7_cast_14, dX7_cast_16, trivial⟩ rfl ?_
  refine zw_if_lt X (tgt := 29) dX7_cast_17 (by decide) (fun h_ => absurd h_ (nI_pos (by omega))) (fun _ => ?_)
  refine zw_run X (is := [(20, .iload_n 2, 1), (21, .aload 4, 2)]) (t' := (23, [some (.ref (ad 0)), some (.int (nI g)), some (.int (nI k)), some (.int x), some (.ref (ad (16 + g))), none], [.ref (ad (16 + g)), .int (nI k)])) ⟨dX7_cast_20, dX7_cast_21, trivial⟩ rfl ?_
  refine zw_getf X (i := 16 + g) (by omega) (zc_P hg8) (C := RX4) (T := TX4) (Nf := 7) rfl zi_X4 1 (by decide) rfl zm_251 rfl dX7_cast_23 ?_
  refine zw_icmp_lt X (tgt := 39) dX7_cast_26 (by decide) (fun _ => ?_) (fun h_ => absurd hk2 h_)
  refine zw_run X (is := [(39, .iload_n 3, 1), (40, .iconst (-1), 1), (41, .bipush 19, 2)]) (t' := (43, [some (.ref (ad 0)), some (.int (nI g)), some (.int (nI k)), some (.int x), some (.ref (ad (16 + g))), none], [.int 19, .int ((-1)), .int x])) ⟨dX7_cast_39, dX7_cast_40, dX7_cast_41, trivial⟩ rfl ?_
  refine zw_Sv X hAd (As := [.int x, .int ((-1)), .int 19]) (rest := []) (d := 0) ⟨zm_114, zm_115, zm_2, zm_116, by decide, by decide, (show (parseMethodDescriptor yX7_needRange.desc).map (fun d => d.parameters.length) = some 3 by decide +kernel)⟩ (fun sz => c_needRange hls hD hn σ x (-1) 19 h1 h2 sz) rfl rfl (Nat.le_of_ble_eq_true rfl) ⟨Nat.le_of_ble_eq_true rfl, Nat.le_of_ble_eq_true rfl⟩ ⟨Nat.zero_le _, Nat.zero_le _⟩ dX7_cast_43 ?_
  refine zw_run X (is := [(46, .aload 4, 2)]) (t' := (48, [some (.ref (ad 0)), some (.int (nI g)), some (.int (nI k)), some (.int x), some (.ref (ad (16 + g))), none], [.ref (ad (16 + g))])) ⟨dX7_cast_46, trivial⟩ rfl ?_
  refine zw_getf X (i := 16 + g) (by omega) (zc_P hg8) (C := RX4) (T := TX4) (Nf := 7) rfl zi_X4 5 (by decide) rfl zm_252 rfl dX7_cast_48 ?_
  refine zw_run X (is := [(51, .iload_n 2, 1)]) (t' := (52, [some (.ref (ad 0)), some (.int (nI g)), some (.int (nI k)), some (.int x), some (.ref (ad (16 + g))), none], [.int (nI k), .ref (ad (24 + g))])) ⟨dX7_cast_51, trivial⟩ rfl ?_
  refine zw_iald X (i := 24 + g) (by omega) (len := 8) (zc_R hg8) (j := k) rfl hk (by decide) dX7_cast_52 ?_
  refine zw_run X (is := [(53, .istore 5, 2), (55, .aload 4, 2)]) (t' := (57, [some (.ref (ad 0)), some (.int (nI g)), some (.int (nI k)), some (.int x), some (.ref (ad (16 + g))), some (.int (σ (24 + g) k))], [.ref (ad (16 + g))])) ⟨dX7_cast_53, dX7_cast_55, trivial⟩ rfl ?_
  refine zw_getf X (i := 16 + g) (by omega) (zc_P hg8) (C := RX4) (T := TX4) (Nf := 7) rfl zi_X4 5 (by decide) rfl zm_252 rfl dX7_cast_57 ?_
  refine zw_run X (is := [(60, .iload_n 2, 1), (61, .iload_n 3, 1)]) (t' := (62, [some (.ref (ad 0)), some (.int (nI g)), some (.int (nI k)), some (.int x), some (.ref (ad (16 + g))), some (.int (σ (24 + g) k))], [.int x, .int (nI k), .ref (ad (24 + g))])) ⟨dX7_cast_60, dX7_cast_61, trivial⟩ rfl ?_
  refine zw_iast X hD hAd (i := 24 + g) (by omega) (len := 8) (fun _ => (zc_R hg8)) (j := k) rfl hk (by decide) dX7_cast_62 ?_
  refine zw_run X (is := [(63, .iload 5, 2)]) (t' := (65, [some (.ref (ad 0)), some (.int (nI g)), some (.int (nI k)), some (.int x), some (.ref (ad (16 + g))), some (.int (σ (24 + g) k))], [.int (σ (24 + g) k)])) ⟨dX7_cast_63, trivial⟩ rfl ?_
  exact zw_iret X hr dX7_cast_65 rfl rfl rfl

set_option maxHeartbeats 4000000 in
set_option maxRecDepth 100000 in
theorem c_cast_part {l : Launch} (hls : l.stackTraces = false) {D : va_G} {cy : Nat → ClassId} {wa : Nat → Nat} {N n : Nat} {ad : Nat → Nat} (hD : zD n ad) (hn : 40 ≤ n) (σ : zS) (gc : Nat) (hgc : gc ≤ 8) (e0 : σ 0 11 = nI gc) (g : Nat) (hg : g < gc) (k x : Int32) (h1 : ¬ k < 0) (h2 : ¬ k < σ (16 + g) 1) (sz : Nat) : vx_Met l yX7_cast (.code yX7_cast cX7_cast 6 (some .int) :: zB) (zRx 2) (zPc [.ref (ad 0), .int (nI g), .int k, .int x] D cy wa N n ad σ sz) zNo (zXC "java/lang/IndexOutOfBoundsException" D cy N n ad (σ) sz) 1 6 (zA n ad sz) := by
  refine z_metx (by decide) hls (List.forall_mem_cons.mpr ⟨rfl, (List.forall_mem_cons.mpr ⟨rfl, (List.forall_mem_cons.mpr ⟨rfl, (List.forall_mem_cons.mpr ⟨rfl, (fun _ h => nomatch h)⟩)⟩)⟩)⟩) (Nat.le_of_ble_eq_true rfl) (fun p_ e_ s_ m_ below_ meth_ c_ hsz hr hno X => ?_)
  have X : zX p_ l s_ m_ [.ref (ad 0), .int (nI g), .int k, .int x].toArray meth_ c_ cX7_cast 6 RX7 D cy wa (zA n ad sz) := X
  have hAd : ∀ i, i < n → zA n ad sz (ad i) := fun i hi => Or.inl ⟨i, hi, rfl⟩
  have hg8 : g < 8 := by omega
  refine zw_run X (is := [(0, .aload_n 0, 1), (1, .iload_n 1, 1)]) (t' := (2, [some (.ref (ad 0)), some (.int (nI g)), some (.int k), some (.int x), none, none], [.int (nI g), .ref (ad 0)])) ⟨dX7_cast_0, dX7_cast_1, trivial⟩ rfl ?_
  refine zw_Vv X hAd (As := [.int (nI g)]) (rest := []) (d := 0) (i := 0) (by omega) zc_0 (q := (RX7, TX7, 16)) rfl ⟨zm_135, zm_136, zm_137, zm_2, zm_138, rfl, by decide, by decide, (show (parseMethodDescriptor yX7_needGuild.desc).map (fun d => d.parameters.length) = some 1 by decide +kernel)⟩ (fun sz => c_needGuild hls hD hn σ gc hgc e0 g hg sz) rfl rfl (Nat.le_of_ble_eq_true rfl) ⟨Nat.le_of_ble_eq_true rfl, Nat.le_of_ble_eq_true rfl⟩ ⟨Nat.zero_le _, Nat.zero_le _⟩ dX7_cast_2 ?_
  refine zw_run X (is := [(5, .aload_n 0, 1)]) (t' := (6, [some (.ref (ad 0)), some (.int (nI g)), some (.int k), some (.int x), none, none], [.ref (ad 0)])) ⟨dX7_cast_5, trivial⟩ rfl ?_
  refine zw_getf X (i := 0) (by omega) zc_0 (C := RX7) (T := TX7) (Nf := 16) rfl zi_X7 0 (by decide) rfl zm_18 rfl dX7_cast_6 ?_
  refine zw_run X (is := [(9, .iload_n 1, 1)]) (t' := (10, [some (.ref (ad 0)), some (.int (nI g)), some (.int k), some (.int x), none, none], [.int (nI g), .ref (ad 1)])) ⟨dX7_cast_9, trivial⟩ rfl ?_
  refine zw_guild X (by omega) (g := g) rfl hg8 dX7_cast_10 ?_
  refine zw_getf X (i := 8 + g) (by omega) (zc_G hg8) (C := RX1) (T := TX1) (Nf := 7) rfl zi_X1 6 (by decide) rfl zm_112 rfl dX7_cast_11 ?_
  refine zw_run X (is := [(14, .astore 4, 2), (16, .iload_n 2, 1)]) (t' := (17, [some (.ref (ad 0)), some (.int (nI g)), some (.int k), some (.int x), some (.ref (ad (16 + g))), none], [.int k])) ⟨dX7_cast_14, dX7_cast_16, trivial⟩ rfl ?_
  refine zw_if_lt X (tgt := 29) dX7_cast_17 (by decide) (fun h_ => absurd h_ h1) (fun _ => ?_)
  refine zw_run X (is := [(20, .iload_n 2, 1), (21, .aload 4, 2)]) (t' := (23, [some (.ref (ad 0)), some (.int (nI g)), some (.int k), some (.int x), some (.ref (ad (16 + g))), none], [.ref (ad (16 + g)), .int k])) ⟨dX7_cast_20, dX7_cast_21, trivial⟩ rfl ?_
  refine zw_getf X (i := 16 + g) (by omega) (zc_P hg8) (C := RX4) (T := TX4) (Nf := 7) rfl zi_X4 1 (by decide) rfl zm_251 rfl dX7_cast_23 ?_
  refine zw_icmp_lt X (tgt := 39) dX7_cast_26 (by decide) (fun h_ => absurd h_ h2) (fun _ => ?_)
  exact zw_throw X hno zTh_ioobe (is := 160) (text := "no such part") (by decide +kernel) rfl rfl dX7_cast_29 dX7_cast_32 dX7_cast_33 dX7_cast_35 dX7_cast_38 ⟨Nat.le_of_ble_eq_true rfl, Nat.le_of_ble_eq_true rfl, Nat.le_of_ble_eq_true rfl, Nat.le_of_ble_eq_true rfl⟩ ⟨rfl, rfl⟩

set_option maxHeartbeats 4000000 in
set_option maxRecDepth 100000 in
theorem c_cast_bad {l : Launch} (hls : l.stackTraces = false) {D : va_G} {cy : Nat → ClassId} {wa : Nat → Nat} {N n : Nat} {ad : Nat → Nat} (hD : zD n ad) (hn : 40 ≤ n) (σ : zS) (gc : Nat) (hgc : gc ≤ 8) (e0 : σ 0 11 = nI gc) (g : Nat) (hg : g < gc) (k : Int32) (h1 : ¬ k < 0) (hk2 : k < σ (16 + g) 1) (sz : Nat) : vx_Met l yX7_cast (.code yX7_cast cX7_cast 6 (some .int) :: zB) (zRx 2) (zPc [.ref (ad 0), .int (nI g), .int k, .int 20] D cy wa N n ad σ sz) zNo (zXC "java/lang/IllegalArgumentException" D cy N n ad (σ) sz) 1 6 (zA n ad sz) := by
  refine z_metx (by decide) hls (List.forall_mem_cons.mpr ⟨rfl, (List.forall_mem_cons.mpr ⟨rfl, (List.forall_mem_cons.mpr ⟨rfl, (List.forall_mem_cons.mpr ⟨rfl, (fun _ h => nomatch h)⟩)⟩)⟩)⟩) (Nat.le_of_ble_eq_true rfl) (fun p_ e_ s_ m_ below_ meth_ c_ hsz hr hno X => ?_)
  have X : zX p_ l s_ m_ [.ref (ad 0), .int (nI g), .int k, .int 20].toArray meth_ c_ cX7_cast 6 RX7 D cy wa (zA n ad sz) := X
  have hAd : ∀ i, i < n → zA n ad sz (ad i) := fun i hi => Or.inl ⟨i, hi, rfl⟩
  have hg8 : g < 8 := by omega
  refine zw_run X (is := [(0, .aload_n 0, 1), (1, .iload_n 1, 1)]) (t' := (2, [some (.ref (ad 0)), some (.int (nI g)), some (.int k), some (.int 20), none, none], [.int (nI g), .ref (ad 0)])) ⟨dX7_cast_0, dX7_cast_1, trivial⟩ rfl ?_
  refine zw_Vv X hAd (As := [.int (nI g)]) (rest := []) (d := 0) (i := 0) (by omega) zc_0 (q := (RX7, TX7, 16)) rfl ⟨zm_135, zm_136, zm_137, zm_2, zm_138, rfl, by decide, by decide, (show (parseMethodDescriptor yX7_needGuild.desc).map (fun d => d.parameters.length) = some 1 by decide +kernel)⟩ (fun sz => c_needGuild hls hD hn σ gc hgc e0 g hg sz) rfl rfl (Nat.le_of_ble_eq_true rfl) ⟨Nat.le_of_ble_eq_true rfl, Nat.le_of_ble_eq_true rfl⟩ ⟨Nat.zero_le _, Nat.zero_le _⟩ dX7_cast_2 ?_
  refine zw_run X (is := [(5, .aload_n 0, 1)]) (t' := (6, [some (.ref (ad 0)), some (.int (nI g)), some (.int k), some (.int 20), none, none], [.ref (ad 0)])) ⟨dX7_cast_5, trivial⟩ rfl ?_
  refine zw_getf X (i := 0) (by omega) zc_0 (C := RX7) (T := TX7) (Nf := 16) rfl zi_X7 0 (by decide) rfl zm_18 rfl dX7_cast_6 ?_
  refine zw_run X (is := [(9, .iload_n 1, 1)]) (t' := (10, [some (.ref (ad 0)), some (.int (nI g)), some (.int k), some (.int 20), none, none], [.int (nI g), .ref (ad 1)])) ⟨dX7_cast_9, trivial⟩ rfl ?_
  refine zw_guild X (by omega) (g := g) rfl hg8 dX7_cast_10 ?_
  refine zw_getf X (i := 8 + g) (by omega) (zc_G hg8) (C := RX1) (T := TX1) (Nf := 7) rfl zi_X1 6 (by decide) rfl zm_112 rfl dX7_cast_11 ?_
  refine zw_run X (is := [(14, .astore 4, 2), (16, .iload_n 2, 1)]) (t' := (17, [some (.ref (ad 0)), some (.int (nI g)), some (.int k), some (.int 20), some (.ref (ad (16 + g))), none], [.int k])) ⟨dX7_cast_14, dX7_cast_16, trivial⟩ rfl ?_
  refine zw_if_lt X (tgt := 29) dX7_cast_17 (by decide) (fun h_ => absurd h_ h1) (fun _ => ?_)
  refine zw_run X (is := [(20, .iload_n 2, 1), (21, .aload 4, 2)]) (t' := (23, [some (.ref (ad 0)), some (.int (nI g)), some (.int k), some (.int 20), some (.ref (ad (16 + g))), none], [.ref (ad (16 + g)), .int k])) ⟨dX7_cast_20, dX7_cast_21, trivial⟩ rfl ?_
  refine zw_getf X (i := 16 + g) (by omega) (zc_P hg8) (C := RX4) (T := TX4) (Nf := 7) rfl zi_X4 1 (by decide) rfl zm_251 rfl dX7_cast_23 ?_
  refine zw_icmp_lt X (tgt := 39) dX7_cast_26 (by decide) (fun _ => ?_) (fun h_ => absurd hk2 h_)
  refine zw_run X (is := [(39, .iload_n 3, 1), (40, .iconst (-1), 1), (41, .bipush 19, 2)]) (t' := (43, [some (.ref (ad 0)), some (.int (nI g)), some (.int k), some (.int 20), some (.ref (ad (16 + g))), none], [.int 19, .int ((-1)), .int 20])) ⟨dX7_cast_39, dX7_cast_40, dX7_cast_41, trivial⟩ rfl ?_
  exact zw_So X hno hAd rfl (As := [.int 20, .int ((-1)), .int 19]) (rest := []) (d := 0) ⟨zm_114, zm_115, zm_2, zm_116, by decide, by decide, (show (parseMethodDescriptor yX7_needRange.desc).map (fun d => d.parameters.length) = some 3 by decide +kernel)⟩ (fun sz => c_needRange_hi hls hD hn σ 20 (-1) 19 (by decide) (by decide) sz) rfl rfl (Nat.le_of_ble_eq_true rfl) ⟨Nat.le_of_ble_eq_true rfl, Nat.le_of_ble_eq_true rfl⟩ ⟨Nat.le_of_ble_eq_true rfl, Nat.le_of_ble_eq_true rfl⟩ dX7_cast_43

set_option maxHeartbeats 4000000 in
set_option maxRecDepth 100000 in
theorem c_wagon {l : Launch} (hls : l.stackTraces = false) {D : va_G} {cy : Nat → ClassId} {wa : Nat → Nat} {N n : Nat} {ad : Nat → Nat} (hD : zD n ad) (hn : 40 ≤ n) (σ : zS) (gc : Nat) (hgc : gc ≤ 8) (e0 : σ 0 11 = nI gc) (g : Nat) (hg : g < gc) (x y : Int32) (h1 : ¬ x < 1) (h2 : x ≤ 9) (h3 : ¬ y < 0) (h4 : y ≤ 9) (sz : Nat) : Met l yX7_wagon (.code yX7_wagon cX7_wagon 6 (some .int) :: zB) (zRm 2) (zPc [.ref (ad 0), .int (nI g), .int x, .int y] D cy wa N n ad σ sz) (zQi (σ (8 + g) 3) D cy N n ad (zu (zu σ (8 + g) 3 x) (8 + g) 4 y) sz) 0 0 (zA n ad sz) := by
  refine z_met (by decide) hls (List.forall_mem_cons.mpr ⟨rfl, (List.forall_mem_cons.mpr ⟨rfl, (List.forall_mem_cons.mpr ⟨rfl, (List.forall_mem_cons.mpr ⟨rfl, (fun _ h => nomatch h)⟩)⟩)⟩)⟩) (Nat.le_of_ble_eq_true rfl) (fun p_ e_ s_ m_ below_ meth_ c_ hsz hr X => ?_)
  have X : zX p_ l s_ m_ [.ref (ad 0), .int (nI g), .int x, .int y].toArray meth_ c_ cX7_wagon 6 RX7 D cy wa (zA n ad sz) := X
  have hAd : ∀ i, i < n → zA n ad sz (ad i) := fun i hi => Or.inl ⟨i, hi, rfl⟩
  have hg8 : g < 8 := by omega
  refine zw_run X (is := [(0, .aload_n 0, 1), (1, .iload_n 1, 1)]) (t' := (2, [some (.ref (ad 0)), some (.int (nI g)), some (.int x), some (.int y), none, none], [.int (nI g), .ref (ad 0)])) ⟨dX7_wagon_0, dX7_wagon_1, trivial⟩ rfl ?_
  refine zw_Vv X hAd (As := [.int (nI g)]) (rest := []) (d := 0) (i := 0) (by omega) zc_0 (q := (RX7, TX7, 16)) rfl ⟨zm_135, zm_136, zm_137, zm_2, zm_138, rfl, by decide, by decide, (show (parseMethodDescriptor yX7_needGuild.desc).map (fun d => d.parameters.length) = some 1 by decide +kernel)⟩ (fun sz => c_needGuild hls hD hn σ gc hgc e0 g hg sz) rfl rfl (Nat.le_of_ble_eq_true rfl) ⟨Nat.le_of_ble_eq_true rfl, Nat.le_of_ble_eq_true rfl⟩ ⟨Nat.zero_le _, Nat.zero_le _⟩ dX7_wagon_2 ?_
  refine zw_run X (is := [(5, .iload_n 2, 1), (6, .iconst 1, 1), (7, .bipush 9, 2)]) (t' := (9, [some (.ref (ad 0)), some (.int (nI g)), some (.int x), some (.int y), none, none], [.int 9, .int 1, .int x])) ⟨dX7_wagon_5, dX7_wagon_6, dX7_wagon_7, trivial⟩ rfl ?_
  refine zw_Sv X hAd (As := [.int x, .int 1, .int 9]) (rest := []) (d := 0) ⟨zm_114, zm_115, zm_2, zm_116, by decide, by decide, (show (parseMethodDescriptor yX7_needRange.desc).map (fun d => d.parameters.length) = some 3 by decide +kernel)⟩ (fun sz => c_needRange hls hD hn σ x 1 9 h1 h2 sz) rfl rfl (Nat.le_of_ble_eq_true rfl) ⟨Nat.le_of_ble_eq_true rfl, Nat.le_of_ble_eq_true rfl⟩ ⟨Nat.zero_le _, Nat.zero_le _⟩ dX7_wagon_9 ?_
  refine zw_run X (is := [(12, .iload_n 3, 1), (13, .iconst 0, 1), (14, .bipush 9, 2)]) (t' := (16, [some (.ref (ad 0)), some (.int (nI g)), some (.int x), some (.int y), none, none], [.int 9, .int 0, .int y])) ⟨dX7_wagon_12, dX7_wagon_13, dX7_wagon_14, trivial⟩ rfl ?_
  refine zw_Sv X hAd (As := [.int y, .int 0, .int 9]) (rest := []) (d := 0) ⟨zm_114, zm_115, zm_2, zm_116, by decide, by decide, (show (parseMethodDescriptor yX7_needRange.desc).map (fun d => d.parameters.length) = some 3 by decide +kernel)⟩ (fun sz => c_needRange hls hD hn σ y 0 9 h3 h4 sz) rfl rfl (Nat.le_of_ble_eq_true rfl) ⟨Nat.le_of_ble_eq_true rfl, Nat.le_of_ble_eq_true rfl⟩ ⟨Nat.zero_le _, Nat.zero_le _⟩ dX7_wagon_16 ?_
  refine zw_run X (is := [(19, .aload_n 0, 1)]) (t' := (20, [some (.ref (ad 0)), some (.int (nI g)), some (.int x), some (.int y), none, none], [.ref (ad 0)])) ⟨dX7_wagon_19, trivial⟩ rfl ?_
  refine zw_getf X (i := 0) (by omega) zc_0 (C := RX7) (T := TX7) (Nf := 16) rfl zi_X7 0 (by decide) rfl zm_18 rfl dX7_wagon_20 ?_
  refine zw_run X (is := [(23, .iload_n 1, 1)]) (t' := (24, [some (.ref (ad 0)), some (.int (nI g)), some (.int x), some (.int y), none, none], [.int (nI g), .ref (ad 1)])) ⟨dX7_wagon_23, trivial⟩ rfl ?_
  refine zw_guild X (by omega) (g := g) rfl hg8 dX7_wagon_24 ?_
  refine zw_run X (is := [(25, .astore 4, 2), (27, .aload 4, 2)]) (t' := (29, [some (.ref (ad 0)), some (.int (nI g)), some (.int x), some (.int y), some (.ref (ad (8 + g))), none], [.ref (ad (8 + g))])) ⟨dX7_wagon_25, dX7_wagon_27, trivial⟩ rfl ?_
  refine zw_getf X (i := 8 + g) (by omega) (zc_G hg8) (C := RX1) (T := TX1) (Nf := 7) rfl zi_X1 3 (by decide) rfl zm_381 rfl dX7_wagon_29 ?_
  refine zw_run X (is := [(32, .istore 5, 2), (34, .aload 4, 2), (36, .iload_n 2, 1)]) (t' := (37, [some (.ref (ad 0)), some (.int (nI g)), some (.int x), some (.int y), some (.ref (ad (8 + g))), some (.int (σ (8 + g) 3))], [.int x, .ref (ad (8 + g))])) ⟨dX7_wagon_32, dX7_wagon_34, dX7_wagon_36, trivial⟩ rfl ?_
  refine zw_put X hD hAd (i := 8 + g) (by omega) (zc_G hg8) (C := RX1) (T := TX1) (Nf := 7) rfl zi_X1 tyX1 tyX1_ok nmX1 3 (by decide) rfl rfl zm_381 (ty := .int) (by decide +kernel) rfl rfl (Nat.le_of_ble_eq_true rfl) (zc_G hg8) dX7_wagon_37 ?_
  refine zw_run X (is := [(40, .aload 4, 2), (42, .iload_n 3, 1)]) (t' := (43, [some (.ref (ad 0)), some (.int (nI g)), some (.int x), some (.int y), some (.ref (ad (8 + g))), some (.int (σ (8 + g) 3))], [.int y, .ref (ad (8 + g))])) ⟨dX7_wagon_40, dX7_wagon_42, trivial⟩ rfl ?_
  refine zw_put X hD hAd (i := 8 + g) (by omega) (zc_G hg8) (C := RX1) (T := TX1) (Nf := 7) rfl zi_X1 tyX1 tyX1_ok nmX1 4 (by decide) rfl rfl zm_382 (ty := .int) (by decide +kernel) rfl rfl (Nat.le_of_ble_eq_true rfl) (zc_G hg8) dX7_wagon_43 ?_
  refine zw_run X (is := [(46, .iload 5, 2)]) (t' := (48, [some (.ref (ad 0)), some (.int (nI g)), some (.int x), some (.int y), some (.ref (ad (8 + g))), some (.int (σ (8 + g) 3))], [.int (σ (8 + g) 3)])) ⟨dX7_wagon_46, trivial⟩ rfl ?_
  exact zw_iret X hr dX7_wagon_48 rfl rfl rfl

set_option maxHeartbeats 4000000 in
set_option maxRecDepth 100000 in
theorem c_wagon_bad {l : Launch} (hls : l.stackTraces = false) {D : va_G} {cy : Nat → ClassId} {wa : Nat → Nat} {N n : Nat} {ad : Nat → Nat} (hD : zD n ad) (hn : 40 ≤ n) (σ : zS) (gc : Nat) (hgc : gc ≤ 8) (e0 : σ 0 11 = nI gc) (g : Nat) (hg : g < gc) (y : Int32) (sz : Nat) : vx_Met l yX7_wagon (.code yX7_wagon cX7_wagon 6 (some .int) :: zB) (zRx 2) (zPc [.ref (ad 0), .int (nI g), .int 10, .int y] D cy wa N n ad σ sz) zNo (zXC "java/lang/IllegalArgumentException" D cy N n ad (σ) sz) 1 6 (zA n ad sz) := by
  refine z_metx (by decide) hls (List.forall_mem_cons.mpr ⟨rfl, (List.forall_mem_cons.mpr ⟨rfl, (List.forall_mem_cons.mpr ⟨rfl, (List.forall_mem_cons.mpr ⟨rfl, (fun _ h => nomatch h)⟩)⟩)⟩)⟩) (Nat.le_of_ble_eq_true rfl) (fun p_ e_ s_ m_ below_ meth_ c_ hsz hr hno X => ?_)
  have X : zX p_ l s_ m_ [.ref (ad 0), .int (nI g), .int 10, .int y].toArray meth_ c_ cX7_wagon 6 RX7 D cy wa (zA n ad sz) := X
  have hAd : ∀ i, i < n → zA n ad sz (ad i) := fun i hi => Or.inl ⟨i, hi, rfl⟩
  have hg8 : g < 8 := by omega
  refine zw_run X (is := [(0, .aload_n 0, 1), (1, .iload_n 1, 1)]) (t' := (2, [some (.ref (ad 0)), some (.int (nI g)), some (.int 10), some (.int y), none, none], [.int (nI g), .ref (ad 0)])) ⟨dX7_wagon_0, dX7_wagon_1, trivial⟩ rfl ?_
  refine zw_Vv X hAd (As := [.int (nI g)]) (rest := []) (d := 0) (i := 0) (by omega) zc_0 (q := (RX7, TX7, 16)) rfl ⟨zm_135, zm_136, zm_137, zm_2, zm_138, rfl, by decide, by decide, (show (parseMethodDescriptor yX7_needGuild.desc).map (fun d => d.parameters.length) = some 1 by decide +kernel)⟩ (fun sz => c_needGuild hls hD hn σ gc hgc e0 g hg sz) rfl rfl (Nat.le_of_ble_eq_true rfl) ⟨Nat.le_of_ble_eq_true rfl, Nat.le_of_ble_eq_true rfl⟩ ⟨Nat.zero_le _, Nat.zero_le _⟩ dX7_wagon_2 ?_
  refine zw_run X (is := [(5, .iload_n 2, 1), (6, .iconst 1, 1), (7, .bipush 9, 2)]) (t' := (9, [some (.ref (ad 0)), some (.int (nI g)), some (.int 10), some (.int y), none, none], [.int 9, .int 1, .int 10])) ⟨dX7_wagon_5, dX7_wagon_6, dX7_wagon_7, trivial⟩ rfl ?_
  exact zw_So X hno hAd rfl (As := [.int 10, .int 1, .int 9]) (rest := []) (d := 0) ⟨zm_114, zm_115, zm_2, zm_116, by decide, by decide, (show (parseMethodDescriptor yX7_needRange.desc).map (fun d => d.parameters.length) = some 3 by decide +kernel)⟩ (fun sz => c_needRange_hi hls hD hn σ 10 1 9 (by decide) (by decide) sz) rfl rfl (Nat.le_of_ble_eq_true rfl) ⟨Nat.le_of_ble_eq_true rfl, Nat.le_of_ble_eq_true rfl⟩ ⟨Nat.le_of_ble_eq_true rfl, Nat.le_of_ble_eq_true rfl⟩ dX7_wagon_9

set_option maxHeartbeats 4000000 in
set_option maxRecDepth 100000 in
theorem c_charge {l : Launch} (hls : l.stackTraces = false) {D : va_G} {cy : Nat → ClassId} {wa : Nat → Nat} {N n : Nat} {ad : Nat → Nat} (hD : zD n ad) (hn : 40 ≤ n) (σ : zS) (g : Nat) (hg8 : g < 8) (x : Int32) (sz : Nat) : Met l yX7_charge (.code yX7_charge cX7_charge 3 none :: zB) (zRm 0) (zPc [.ref (ad 0), .ref (ad (8 + g)), .int x] D cy wa N n ad σ sz) (zQv D cy N n ad (zu (zu σ (8 + g) 0 ((σ (8 + g) 0) - x)) (0) 13 (((zu σ (8 + g) 0 ((σ (8 + g) 0) - x)) (0) 13) + x)) sz) 0 0 (zA n ad sz) := by
  refine z_met (by decide) hls (List.forall_mem_cons.mpr ⟨rfl, (List.forall_mem_cons.mpr ⟨rfl, (List.forall_mem_cons.mpr ⟨rfl, (fun _ h => nomatch h)⟩)⟩)⟩) (Nat.le_of_ble_eq_true rfl) (fun p_ e_ s_ m_ below_ meth_ c_ hsz hr X => ?_)
  have X : zX p_ l s_ m_ [.ref (ad 0), .ref (ad (8 + g)), .int x].toArray meth_ c_ cX7_charge 3 RX7 D cy wa (zA n ad sz) := X
  have hAd : ∀ i, i < n → zA n ad sz (ad i) := fun i hi => Or.inl ⟨i, hi, rfl⟩
  refine zw_run X (is := [(0, .aload_n 1, 1), (1, .dup, 1)]) (t' := (2, [some (.ref (ad 0)), some (.ref (ad (8 + g))), some (.int x)], [.ref (ad (8 + g)), .ref (ad (8 + g))])) ⟨dX7_charge_0, dX7_charge_1, trivial⟩ rfl ?_
  refine zw_getf X (i := 8 + g) (by omega) (zc_G hg8) (C := RX1) (T := TX1) (Nf := 7) rfl zi_X1 0 (by decide) rfl zm_111 rfl dX7_charge_2 ?_
  refine zw_run X (is := [(5, .iload_n 2, 1), (6, .isub, 1)]) (t' := (7, [some (.ref (ad 0)), some (.ref (ad (8 + g))), some (.int x)], [.int ((σ (8 + g) 0) - x), .ref (ad (8 + g))])) ⟨dX7_charge_5, dX7_charge_6, trivial⟩ rfl ?_
  refine zw_put X hD hAd (i := 8 + g) (by omega) (zc_G hg8) (C := RX1) (T := TX1) (Nf := 7) rfl zi_X1 tyX1 tyX1_ok nmX1 0 (by decide) rfl rfl zm_111 (ty := .int) (by decide +kernel) rfl rfl (Nat.le_of_ble_eq_true rfl) (zc_G hg8) dX7_charge_7 ?_
  refine zw_run X (is := [(10, .aload_n 0, 1), (11, .dup, 1)]) (t' := (12, [some (.ref (ad 0)), some (.ref (ad (8 + g))), some (.int x)], [.ref (ad 0), .ref (ad 0)])) ⟨dX7_charge_10, dX7_charge_11, trivial⟩ rfl ?_
  refine zw_getf X (i := 0) (by omega) zc_0 (C := RX7) (T := TX7) (Nf := 16) rfl zi_X7 13 (by decide) rfl zm_265 rfl dX7_charge_12 ?_
  refine zw_run X (is := [(15, .iload_n 2, 1), (16, .iadd, 1)]) (t' := (17, [some (.ref (ad 0)), some (.ref (ad (8 + g))), some (.int x)], [.int (((zu σ (8 + g) 0 ((σ (8 + g) 0) - x)) (0) 13) + x), .ref (ad 0)])) ⟨dX7_charge_15, dX7_charge_16, trivial⟩ rfl ?_
  refine zw_put X hD hAd (i := 0) (by omega) zc_0 (C := RX7) (T := TX7) (Nf := 16) rfl zi_X7 tyX7 tyX7_ok nmX7 13 (by decide) rfl rfl zm_265 (ty := .int) (by decide +kernel) rfl rfl (Nat.le_of_ble_eq_true rfl) zc_0 dX7_charge_17 ?_
  exact zw_vret X hr dX7_charge_20 rfl rfl

set_option maxHeartbeats 4000000 in
set_option maxRecDepth 100000 in
theorem c_mend {l : Launch} (hls : l.stackTraces = false) {D : va_G} {cy : Nat → ClassId} {wa : Nat → Nat} {N n : Nat} {ad : Nat → Nat} (hD : zD n ad) (hn : 40 ≤ n) (σ : zS) (gc : Nat) (hgc : gc ≤ 8) (e0 : σ 0 11 = nI gc) (g : Nat) (hg : g < gc) (x : Int32) (h1 : ¬ x < 1) (h2 : x ≤ 9) (ho : σ (8 + g) 2 = 0) (h3 : σ (8 + g) 5 + x ≤ 9) (sz : Nat) : Met l yX7_mend (.code yX7_mend cX7_mend 4 (some .int) :: zB) (zRm 2) (zPc [.ref (ad 0), .int (nI g), .int x] D cy wa N n ad σ sz) (zQi ((zu (zu (zu σ (8 + g) 5 (σ (8 + g) 5 + x)) (8 + g) 0 (zu σ (8 + g) 5 (σ (8 + g) 5 + x) (8 + g) 0 - 2 * x)) 0 13 (zu (zu σ (8 + g) 5 (σ (8 + g) 5 + x)) (8 + g) 0 (zu σ (8 + g) 5 (σ (8 + g) 5 + x) (8 + g) 0 - 2 * x) 0 13 + 2 * x)) (8 + g) 5) D cy N n ad (zu (zu (zu σ (8 + g) 5 (σ (8 + g) 5 + x)) (8 + g) 0 (zu σ (8 + g) 5 (σ (8 + g) 5 + x) (8 + g) 0 - 2 * x)) 0 13 (zu (zu σ (8 + g) 5 (σ (8 + g) 5 + x)) (8 + g) 0 (zu σ (8 + g) 5 (σ (8 + g) 5 + x) (8 + g) 0 - 2 * x) 0 13 + 2 * x)) sz) 0 0 (zA n ad sz) := by
  refine z_met (by decide) hls (List.forall_mem_cons.mpr ⟨rfl, (List.forall_mem_cons.mpr ⟨rfl, (List.forall_mem_cons.mpr ⟨rfl, (fun _ h => nomatch h)⟩)⟩)⟩) (Nat.le_of_ble_eq_true rfl) (fun p_ e_ s_ m_ below_ meth_ c_ hsz hr X => ?_)
  have X : zX p_ l s_ m_ [.ref (ad 0), .int (nI g), .int x].toArray meth_ c_ cX7_mend 4 RX7 D cy wa (zA n ad sz) := X
  have hAd : ∀ i, i < n → zA n ad sz (ad i) := fun i hi => Or.inl ⟨i, hi, rfl⟩
  have hg8 : g < 8 := by omega
  refine zw_run X (is := [(0, .aload_n 0, 1), (1, .iload_n 1, 1)]) (t' := (2, [some (.ref (ad 0)), some (.int (nI g)), some (.int x), none], [.int (nI g), .ref (ad 0)])) ⟨dX7_mend_0, dX7_mend_1, trivial⟩ rfl ?_
  refine zw_Vv X hAd (As := [.int (nI g)]) (rest := []) (d := 0) (i := 0) (by omega) zc_0 (q := (RX7, TX7, 16)) rfl ⟨zm_135, zm_136, zm_137, zm_2, zm_138, rfl, by decide, by decide, (show (parseMethodDescriptor yX7_needGuild.desc).map (fun d => d.parameters.length) = some 1 by decide +kernel)⟩ (fun sz => c_needGuild hls hD hn σ gc hgc e0 g hg sz) rfl rfl (Nat.le_of_ble_eq_true rfl) ⟨Nat.le_of_ble_eq_true rfl, Nat.le_of_ble_eq_true rfl⟩ ⟨Nat.zero_le _, Nat.zero_le _⟩ dX7_mend_2 ?_
  refine zw_run X (is := [(5, .iload_n 2, 1), (6, .iconst 1, 1), (7, .bipush 9, 2)]) (t' := (9, [some (.ref (ad 0)), some (.int (nI g)), some (.int x), none], [.int 9, .int 1, .int x])) ⟨dX7_mend_5, dX7_mend_6, dX7_mend_7, trivial⟩ rfl ?_
  refine zw_Sv X hAd (As := [.int x, .int 1, .int 9]) (rest := []) (d := 0) ⟨zm_114, zm_115, zm_2, zm_116, by decide, by decide, (show (parseMethodDescriptor yX7_needRange.desc).map (fun d => d.parameters.length) = some 3 by decide +kernel)⟩ (fun sz => c_needRange hls hD hn σ x 1 9 h1 h2 sz) rfl rfl (Nat.le_of_ble_eq_true rfl) ⟨Nat.le_of_ble_eq_true rfl, Nat.le_of_ble_eq_true rfl⟩ ⟨Nat.zero_le _, Nat.zero_le _⟩ dX7_mend_9 ?_
  refine zw_run X (is := [(12, .aload_n 0, 1), (13, .iload_n 1, 1)]) (t' := (14, [some (.ref (ad 0)), some (.int (nI g)), some (.int x), none], [.int (nI g), .ref (ad 0)])) ⟨dX7_mend_12, dX7_mend_13, trivial⟩ rfl ?_
  refine zw_Vv X hAd (As := [.int (nI g)]) (rest := []) (d := 0) (i := 0) (by omega) zc_0 (q := (RX7, TX7, 16)) rfl ⟨zm_240, zm_241, zm_242, zm_2, zm_243, rfl, by decide, by decide, (show (parseMethodDescriptor yX7_needNotOver.desc).map (fun d => d.parameters.length) = some 1 by decide +kernel)⟩ (fun sz => c_needNotOver hls hD hn σ g hg8 ho sz) rfl rfl (Nat.le_of_ble_eq_true rfl) ⟨Nat.le_of_ble_eq_true rfl, Nat.le_of_ble_eq_true rfl⟩ ⟨Nat.zero_le _, Nat.zero_le _⟩ dX7_mend_14 ?_
  refine zw_run X (is := [(17, .aload_n 0, 1)]) (t' := (18, [some (.ref (ad 0)), some (.int (nI g)), some (.int x), none], [.ref (ad 0)])) ⟨dX7_mend_17, trivial⟩ rfl ?_
  refine zw_getf X (i := 0) (by omega) zc_0 (C := RX7) (T := TX7) (Nf := 16) rfl zi_X7 0 (by decide) rfl zm_18 rfl dX7_mend_18 ?_
  refine zw_run X (is := [(21, .iload_n 1, 1)]) (t' := (22, [some (.ref (ad 0)), some (.int (nI g)), some (.int x), none], [.int (nI g), .ref (ad 1)])) ⟨dX7_mend_21, trivial⟩ rfl ?_
  refine zw_guild X (by omega) (g := g) rfl hg8 dX7_mend_22 ?_
  refine zw_run X (is := [(23, .astore_n 3, 1), (24, .aload_n 3, 1)]) (t' := (25, [some (.ref (ad 0)), some (.int (nI g)), some (.int x), some (.ref (ad (8 + g)))], [.ref (ad (8 + g))])) ⟨dX7_mend_23, dX7_mend_24, trivial⟩ rfl ?_
  refine zw_getf X (i := 8 + g) (by omega) (zc_G hg8) (C := RX1) (T := TX1) (Nf := 7) rfl zi_X1 5 (by decide) rfl zm_260 rfl dX7_mend_25 ?_
  refine zw_run X (is := [(28, .iload_n 2, 1), (29, .iadd, 1), (30, .bipush 9, 2)]) (t' := (32, [some (.ref (ad 0)), some (.int (nI g)), some (.int x), some (.ref (ad (8 + g)))], [.int 9, .int ((σ (8 + g) 5) + x)])) ⟨dX7_mend_28, dX7_mend_29, dX7_mend_30, trivial⟩ rfl ?_
  refine zw_icmp_le X (tgt := 45) dX7_mend_32 (by decide) (fun _ => ?_) (fun h_ => absurd h3 h_)
  refine zw_run X (is := [(45, .aload_n 3, 1), (46, .dup, 1)]) (t' := (47, [some (.ref (ad 0)), some (.int (nI g)), some (.int x), some (.ref (ad (8 + g)))], [.ref (ad (8 + g)), .ref (ad (8 + g))])) ⟨dX7_mend_45, dX7_mend_46, trivial⟩ rfl ?_
  refine zw_getf X (i := 8 + g) (by omega) (zc_G hg8) (C := RX1) (T := TX1) (Nf := 7) rfl zi_X1 5 (by decide) rfl zm_260 rfl dX7_mend_47 ?_
  refine zw_run X (is := [(50, .iload_n 2, 1), (51, .iadd, 1)]) (t' := (52, [some (.ref (ad 0)), some (.int (nI g)), some (.int x), some (.ref (ad (8 + g)))], [.int ((σ (8 + g) 5) + x), .ref (ad (8 + g))])) ⟨dX7_mend_50, dX7_mend_51, trivial⟩ rfl ?_
  refine zw_put X hD hAd (i := 8 + g) (by omega) (zc_G hg8) (C := RX1) (T := TX1) (Nf := 7) rfl zi_X1 tyX1 tyX1_ok nmX1 5 (by decide) rfl rfl zm_260 (ty := .int) (by decide +kernel) rfl rfl (Nat.le_of_ble_eq_true rfl) (zc_G hg8) dX7_mend_52 ?_
  refine zw_run X (is := [(55, .aload_n 0, 1), (56, .aload_n 3, 1), (57, .iconst 2, 1), (58, .iload_n 2, 1), (59, .imul, 1)]) (t' := (60, [some (.ref (ad 0)), some (.int (nI g)), some (.int x), some (.ref (ad (8 + g)))], [.int (2 * x), .ref (ad (8 + g)), .ref (ad 0)])) ⟨dX7_mend_55, dX7_mend_56, dX7_mend_57, dX7_mend_58, dX7_mend_59, trivial⟩ rfl ?_
  refine zw_Vv X hAd (As := [.ref (ad (8 + g)), .int (2 * x)]) (rest := []) (d := 0) (i := 0) (by omega) zc_0 (q := (RX7, TX7, 16)) rfl ⟨zm_261, zm_262, zm_263, zm_2, zm_264, rfl, by decide, by decide, (show (parseMethodDescriptor yX7_charge.desc).map (fun d => d.parameters.length) = some 2 by decide +kernel)⟩ (fun sz => c_charge hls hD hn (zu σ (8 + g) 5 (σ (8 + g) 5 + x)) g hg8 (2 * x) sz) rfl rfl (Nat.le_of_ble_eq_true rfl) ⟨Nat.le_of_ble_eq_true rfl, Nat.le_of_ble_eq_true rfl⟩ ⟨Nat.zero_le _, Nat.zero_le _⟩ dX7_mend_60 ?_
  refine zw_run X (is := [(63, .aload_n 3, 1)]) (t' := (64, [some (.ref (ad 0)), some (.int (nI g)), some (.int x), some (.ref (ad (8 + g)))], [.ref (ad (8 + g))])) ⟨dX7_mend_63, trivial⟩ rfl ?_
  refine zw_getf X (i := 8 + g) (by omega) (zc_G hg8) (C := RX1) (T := TX1) (Nf := 7) rfl zi_X1 5 (by decide) rfl zm_260 rfl dX7_mend_64 ?_
  exact zw_iret X hr dX7_mend_67 rfl rfl rfl

set_option maxHeartbeats 4000000 in
set_option maxRecDepth 100000 in
theorem c_mend_over {l : Launch} (hls : l.stackTraces = false) {D : va_G} {cy : Nat → ClassId} {wa : Nat → Nat} {N n : Nat} {ad : Nat → Nat} (hD : zD n ad) (hn : 40 ≤ n) (σ : zS) (gc : Nat) (hgc : gc ≤ 8) (e0 : σ 0 11 = nI gc) (g : Nat) (hg : g < gc) (x : Int32) (h1 : ¬ x < 1) (h2 : x ≤ 9) (ho : ¬ σ (8 + g) 2 = 0) (sz : Nat) : vx_Met l yX7_mend (.code yX7_mend cX7_mend 4 (some .int) :: zB) (zRx 2) (zPc [.ref (ad 0), .int (nI g), .int x] D cy wa N n ad σ sz) zNo (zXC "java/lang/UnsupportedOperationException" D cy N n ad (σ) sz) 1 6 (zA n ad sz) := by
  refine z_metx (by decide) hls (List.forall_mem_cons.mpr ⟨rfl, (List.forall_mem_cons.mpr ⟨rfl, (List.forall_mem_cons.mpr ⟨rfl, (fun _ h => nomatch h)⟩)⟩)⟩) (Nat.le_of_ble_eq_true rfl) (fun p_ e_ s_ m_ below_ meth_ c_ hsz hr hno X => ?_)
  have X : zX p_ l s_ m_ [.ref (ad 0), .int (nI g), .int x].toArray meth_ c_ cX7_mend 4 RX7 D cy wa (zA n ad sz) := X
  have hAd : ∀ i, i < n → zA n ad sz (ad i) := fun i hi => Or.inl ⟨i, hi, rfl⟩
  have hg8 : g < 8 := by omega
  refine zw_run X (is := [(0, .aload_n 0, 1), (1, .iload_n 1, 1)]) (t' := (2, [some (.ref (ad 0)), some (.int (nI g)), some (.int x), none], [.int (nI g), .ref (ad 0)])) ⟨dX7_mend_0, dX7_mend_1, trivial⟩ rfl ?_
  refine zw_Vv X hAd (As := [.int (nI g)]) (rest := []) (d := 0) (i := 0) (by omega) zc_0 (q := (RX7, TX7, 16)) rfl ⟨zm_135, zm_136, zm_137, zm_2, zm_138, rfl, by decide, by decide, (show (parseMethodDescriptor yX7_needGuild.desc).map (fun d => d.parameters.length) = some 1 by decide +kernel)⟩ (fun sz => c_needGuild hls hD hn σ gc hgc e0 g hg sz) rfl rfl (Nat.le_of_ble_eq_true rfl) ⟨Nat.le_of_ble_eq_true rfl, Nat.le_of_ble_eq_true rfl⟩ ⟨Nat.zero_le _, Nat.zero_le _⟩ dX7_mend_2 ?_
  refine zw_run X (is := [(5, .iload_n 2, 1), (6, .iconst 1, 1), (7, .bipush 9, 2)]) (t' := (9, [some (.ref (ad 0)), some (.int (nI g)), some (.int x), none], [.int 9, .int 1, .int x])) ⟨dX7_mend_5, dX7_mend_6, dX7_mend_7, trivial⟩ rfl ?_
  refine zw_Sv X hAd (As := [.int x, .int 1, .int 9]) (rest := []) (d := 0) ⟨zm_114, zm_115, zm_2, zm_116, by decide, by decide, (show (parseMethodDescriptor yX7_needRange.desc).map (fun d => d.parameters.length) = some 3 by decide +kernel)⟩ (fun sz => c_needRange hls hD hn σ x 1 9 h1 h2 sz) rfl rfl (Nat.le_of_ble_eq_true rfl) ⟨Nat.le_of_ble_eq_true rfl, Nat.le_of_ble_eq_true rfl⟩ ⟨Nat.zero_le _, Nat.zero_le _⟩ dX7_mend_9 ?_
  refine zw_run X (is := [(12, .aload_n 0, 1), (13, .iload_n 1, 1)]) (t' := (14, [some (.ref (ad 0)), some (.int (nI g)), some (.int x), none], [.int (nI g), .ref (ad 0)])) ⟨dX7_mend_12, dX7_mend_13, trivial⟩ rfl ?_
  exact zw_Vo X hno hAd rfl (As := [.int (nI g)]) (rest := []) (d := 0) (i := 0) (by omega) zc_0 (q := (RX7, TX7, 16)) rfl ⟨zm_240, zm_241, zm_242, zm_2, zm_243, rfl, by decide, by decide, (show (parseMethodDescriptor yX7_needNotOver.desc).map (fun d => d.parameters.length) = some 1 by decide +kernel)⟩ (fun sz => c_needNotOver_x hls hD hn σ g hg8 ho sz) rfl rfl (Nat.le_of_ble_eq_true rfl) ⟨Nat.le_of_ble_eq_true rfl, Nat.le_of_ble_eq_true rfl⟩ ⟨Nat.le_of_ble_eq_true rfl, Nat.le_of_ble_eq_true rfl⟩ dX7_mend_14

set_option maxHeartbeats 4000000 in
set_option maxRecDepth 100000 in
theorem c_mend_many {l : Launch} (hls : l.stackTraces = false) {D : va_G} {cy : Nat → ClassId} {wa : Nat → Nat} {N n : Nat} {ad : Nat → Nat} (hD : zD n ad) (hn : 40 ≤ n) (σ : zS) (gc : Nat) (hgc : gc ≤ 8) (e0 : σ 0 11 = nI gc) (g : Nat) (hg : g < gc) (x : Int32) (h1 : ¬ x < 1) (h2 : x ≤ 9) (ho : σ (8 + g) 2 = 0) (h3 : ¬ σ (8 + g) 5 + x ≤ 9) (sz : Nat) : vx_Met l yX7_mend (.code yX7_mend cX7_mend 4 (some .int) :: zB) (zRx 2) (zPc [.ref (ad 0), .int (nI g), .int x] D cy wa N n ad σ sz) zNo (zXC "java/lang/UnsupportedOperationException" D cy N n ad (σ) sz) 1 6 (zA n ad sz) := by
  refine z_metx (by decide) hls (List.forall_mem_cons.mpr ⟨rfl, (List.forall_mem_cons.mpr ⟨rfl, (List.forall_mem_cons.mpr ⟨rfl, (fun _ h => nomatch h)⟩)⟩)⟩) (Nat.le_of_ble_eq_true rfl) (fun p_ e_ s_ m_ below_ meth_ c_ hsz hr hno X => ?_)
  have X : zX p_ l s_ m_ [.ref (ad 0), .int (nI g), .int x].toArray meth_ c_ cX7_mend 4 RX7 D cy wa (zA n ad sz) := X
  have hAd : ∀ i, i < n → zA n ad sz (ad i) := fun i hi => Or.inl ⟨i, hi, rfl⟩
  have hg8 : g < 8 := by omega
  refine zw_run X (is := [(0, .aload_n 0, 1), (1, .iload_n 1, 1)]) (t' := (2, [some (.ref (ad 0)), some (.int (nI g)), some (.int x), none], [.int (nI g), .ref (ad 0)])) ⟨dX7_mend_0, dX7_mend_1, trivial⟩ rfl ?_
  refine zw_Vv X hAd (As := [.int (nI g)]) (rest := []) (d := 0) (i := 0) (by omega) zc_0 (q := (RX7, TX7, 16)) rfl ⟨zm_135, zm_136, zm_137, zm_2, zm_138, rfl, by decide, by decide, (show (parseMethodDescriptor yX7_needGuild.desc).map (fun d => d.parameters.length) = some 1 by decide +kernel)⟩ (fun sz => c_needGuild hls hD hn σ gc hgc e0 g hg sz) rfl rfl (Nat.le_of_ble_eq_true rfl) ⟨Nat.le_of_ble_eq_true rfl, Nat.le_of_ble_eq_true rfl⟩ ⟨Nat.zero_le _, Nat.zero_le _⟩ dX7_mend_2 ?_
  refine zw_run X (is := [(5, .iload_n 2, 1), (6, .iconst 1, 1), (7, .bipush 9, 2)]) (t' := (9, [some (.ref (ad 0)), some (.int (nI g)), some (.int x), none], [.int 9, .int 1, .int x])) ⟨dX7_mend_5, dX7_mend_6, dX7_mend_7, trivial⟩ rfl ?_
  refine zw_Sv X hAd (As := [.int x, .int 1, .int 9]) (rest := []) (d := 0) ⟨zm_114, zm_115, zm_2, zm_116, by decide, by decide, (show (parseMethodDescriptor yX7_needRange.desc).map (fun d => d.parameters.length) = some 3 by decide +kernel)⟩ (fun sz => c_needRange hls hD hn σ x 1 9 h1 h2 sz) rfl rfl (Nat.le_of_ble_eq_true rfl) ⟨Nat.le_of_ble_eq_true rfl, Nat.le_of_ble_eq_true rfl⟩ ⟨Nat.zero_le _, Nat.zero_le _⟩ dX7_mend_9 ?_
  refine zw_run X (is := [(12, .aload_n 0, 1), (13, .iload_n 1, 1)]) (t' := (14, [some (.ref (ad 0)), some (.int (nI g)), some (.int x), none], [.int (nI g), .ref (ad 0)])) ⟨dX7_mend_12, dX7_mend_13, trivial⟩ rfl ?_
  refine zw_Vv X hAd (As := [.int (nI g)]) (rest := []) (d := 0) (i := 0) (by omega) zc_0 (q := (RX7, TX7, 16)) rfl ⟨zm_240, zm_241, zm_242, zm_2, zm_243, rfl, by decide, by decide, (show (parseMethodDescriptor yX7_needNotOver.desc).map (fun d => d.parameters.length) = some 1 by decide +kernel)⟩ (fun sz => c_needNotOver hls hD hn σ g hg8 ho sz) rfl rfl (Nat.le_of_ble_eq_true rfl) ⟨Nat.le_of_ble_eq_true rfl, Nat.le_of_ble_eq_true rfl⟩ ⟨Nat.zero_le _, Nat.zero_le _⟩ dX7_mend_14 ?_
  refine zw_run X (is := [(17, .aload_n 0, 1)]) (t' := (18, [some (.ref (ad 0)), some (.int (nI g)), some (.int x), none], [.ref (ad 0)])) ⟨dX7_mend_17, trivial⟩ rfl ?_
  refine zw_getf X (i := 0) (by omega) zc_0 (C := RX7) (T := TX7) (Nf := 16) rfl zi_X7 0 (by decide) rfl zm_18 rfl dX7_mend_18 ?_
  refine zw_run X (is := [(21, .iload_n 1, 1)]) (t' := (22, [some (.ref (ad 0)), some (.int (nI g)), some (.int x), none], [.int (nI g), .ref (ad 1)])) ⟨dX7_mend_21, trivial⟩ rfl ?_
  refine zw_guild X (by omega) (g := g) rfl hg8 dX7_mend_22 ?_
  refine zw_run X (is := [(23, .astore_n 3, 1), (24, .aload_n 3, 1)]) (t' := (25, [some (.ref (ad 0)), some (.int (nI g)), some (.int x), some (.ref (ad (8 + g)))], [.ref (ad (8 + g))])) ⟨dX7_mend_23, dX7_mend_24, trivial⟩ rfl ?_
  refine zw_getf X (i := 8 + g) (by omega) (zc_G hg8) (C := RX1) (T := TX1) (Nf := 7) rfl zi_X1 5 (by decide) rfl zm_260 rfl dX7_mend_25 ?_
  refine zw_run X (is := [(28, .iload_n 2, 1), (29, .iadd, 1), (30, .bipush 9, 2)]) (t' := (32, [some (.ref (ad 0)), some (.int (nI g)), some (.int x), some (.ref (ad (8 + g)))], [.int 9, .int ((σ (8 + g) 5) + x)])) ⟨dX7_mend_28, dX7_mend_29, dX7_mend_30, trivial⟩ rfl ?_
  refine zw_icmp_le X (tgt := 45) dX7_mend_32 (by decide) (fun h_ => absurd h_ h3) (fun _ => ?_)
  exact zw_throw X hno zTh_uoe (is := 174) (text := "a wagon has at most 9 wheels") (by decide +kernel) rfl rfl dX7_mend_35 dX7_mend_38 dX7_mend_39 dX7_mend_41 dX7_mend_44 ⟨Nat.le_of_ble_eq_true rfl, Nat.le_of_ble_eq_true rfl, Nat.le_of_ble_eq_true rfl, Nat.le_of_ble_eq_true rfl⟩ ⟨rfl, rfl⟩

set_option maxHeartbeats 4000000 in
set_option maxRecDepth 100000 in
theorem c_add {l : Launch} (hls : l.stackTraces = false) {D : va_G} {cy : Nat → ClassId} {wa : Nat → Nat} {N n : Nat} {ad : Nat → Nat} (hD : zD n ad) (hn : 40 ≤ n) (σ : zS) (gc : Nat) (hgc : gc ≤ 8) (e0 : σ 0 11 = nI gc) (g : Nat) (hg : g < gc) (x : Int32) (h1 : ¬ x < 1) (h2 : x ≤ 99) (ho : σ (8 + g) 2 = 0) (h3 : σ (16 + g) 0 + x ≤ 600) (sz : Nat) : Met l yX7_add (.code yX7_add cX7_add 4 (some .int) :: zB) (zRm 2) (zPc [.ref (ad 0), .int (nI g), .int x] D cy wa N n ad σ sz) (zQi (zu σ (16 + g) 0 (σ (16 + g) 0 + x) (16 + g) 0 - zu σ (16 + g) 0 (σ (16 + g) 0 + x) (16 + g) 4) D cy N n ad (zu σ (16 + g) 0 ((σ (16 + g) 0) + x)) sz) 0 0 (zA n ad sz) := by
  refine z_met (by decide) hls (List.forall_mem_cons.mpr ⟨rfl, (List.forall_mem_cons.mpr ⟨rfl, (List.forall_mem_cons.mpr ⟨rfl, (fun _ h => nomatch h)⟩)⟩)⟩) (Nat.le_of_ble_eq_true rfl) (fun p_ e_ s_ m_ below_ meth_ c_ hsz hr X => ?_)
  have X : zX p_ l s_ m_ [.ref (ad 0), .int (nI g), .int x].toArray meth_ c_ cX7_add 4 RX7 D cy wa (zA n ad sz) := X
  have hAd : ∀ i, i < n → zA n ad sz (ad i) := fun i hi => Or.inl ⟨i, hi, rfl⟩
  have hg8 : g < 8 := by omega
  refine zw_run X (is := [(0, .aload_n 0, 1), (1, .iload_n 1, 1)]) (t' := (2, [some (.ref (ad 0)), some (.int (nI g)), some (.int x), none], [.int (nI g), .ref (ad 0)])) ⟨dX7_add_0, dX7_add_1, trivial⟩ rfl ?_
  refine zw_Vv X hAd (As := [.int (nI g)]) (rest := []) (d := 0) (i := 0) (by omega) zc_0 (q := (RX7, TX7, 16)) rfl ⟨zm_135, zm_136, zm_137, zm_2, zm_138, rfl, by decide, by decide, (show (parseMethodDescriptor yX7_needGuild.desc).map (fun d => d.parameters.length) = some 1 by decide +kernel)⟩ (fun sz => c_needGuild hls hD hn σ gc hgc e0 g hg sz) rfl rfl (Nat.le_of_ble_eq_true rfl) ⟨Nat.le_of_ble_eq_true rfl, Nat.le_of_ble_eq_true rfl⟩ ⟨Nat.zero_le _, Nat.zero_le _⟩ dX7_add_2 ?_
  refine zw_run X (is := [(5, .iload_n 2, 1), (6, .iconst 1, 1), (7, .bipush 99, 2)]) (t' := (9, [some (.ref (ad 0)), some (.int (nI g)), some (.int x), none], [.int 99, .int 1, .int x])) ⟨dX7_add_5, dX7_add_6, dX7_add_7, trivial⟩ rfl ?_
  refine zw_Sv X hAd (As := [.int x, .int 1, .int 99]) (rest := []) (d := 0) ⟨zm_114, zm_115, zm_2, zm_116, by decide, by decide, (show (parseMethodDescriptor yX7_needRange.desc).map (fun d => d.parameters.length) = some 3 by decide +kernel)⟩ (fun sz => c_needRange hls hD hn σ x 1 99 h1 h2 sz) rfl rfl (Nat.le_of_ble_eq_true rfl) ⟨Nat.le_of_ble_eq_true rfl, Nat.le_of_ble_eq_true rfl⟩ ⟨Nat.zero_le _, Nat.zero_le _⟩ dX7_add_9 ?_
  refine zw_run X (is := [(12, .aload_n 0, 1), (13, .iload_n 1, 1)]) (t' := (14, [some (.ref (ad 0)), some (.int (nI g)), some (.int x), none], [.int (nI g), .ref (ad 0)])) ⟨dX7_add_12, dX7_add_13, trivial⟩ rfl ?_
  refine zw_Vv X hAd (As := [.int (nI g)]) (rest := []) (d := 0) (i := 0) (by omega) zc_0 (q := (RX7, TX7, 16)) rfl ⟨zm_240, zm_241, zm_242, zm_2, zm_243, rfl, by decide, by decide, (show (parseMethodDescriptor yX7_needNotOver.desc).map (fun d => d.parameters.length) = some 1 by decide +kernel)⟩ (fun sz => c_needNotOver hls hD hn σ g hg8 ho sz) rfl rfl (Nat.le_of_ble_eq_true rfl) ⟨Nat.le_of_ble_eq_true rfl, Nat.le_of_ble_eq_true rfl⟩ ⟨Nat.zero_le _, Nat.zero_le _⟩ dX7_add_14 ?_
  refine zw_run X (is := [(17, .aload_n 0, 1)]) (t' := (18, [some (.ref (ad 0)), some (.int (nI g)), some (.int x), none], [.ref (ad 0)])) ⟨dX7_add_17, trivial⟩ rfl ?_
  refine zw_getf X (i := 0) (by omega) zc_0 (C := RX7) (T := TX7) (Nf := 16) rfl zi_X7 0 (by decide) rfl zm_18 rfl dX7_add_18 ?_
  refine zw_run X (is := [(21, .iload_n 1, 1)]) (t' := (22, [some (.ref (ad 0)), some (.int (nI g)), some (.int x), none], [.int (nI g), .ref (ad 1)])) ⟨dX7_add_21, trivial⟩ rfl ?_
  refine zw_guild X (by omega) (g := g) rfl hg8 dX7_add_22 ?_
  refine zw_getf X (i := 8 + g) (by omega) (zc_G hg8) (C := RX1) (T := TX1) (Nf := 7) rfl zi_X1 6 (by decide) rfl zm_112 rfl dX7_add_23 ?_
  refine zw_run X (is := [(26, .astore_n 3, 1), (27, .aload_n 3, 1)]) (t' := (28, [some (.ref (ad 0)), some (.int (nI g)), some (.int x), some (.ref (ad (16 + g)))], [.ref (ad (16 + g))])) ⟨dX7_add_26, dX7_add_27, trivial⟩ rfl ?_
  refine zw_getf X (i := 16 + g) (by omega) (zc_P hg8) (C := RX4) (T := TX4) (Nf := 7) rfl zi_X4 0 (by decide) rfl zm_280 rfl dX7_add_28 ?_
  refine zw_run X (is := [(31, .iload_n 2, 1), (32, .iadd, 1), (33, .sipush 600, 3)]) (t' := (36, [some (.ref (ad 0)), some (.int (nI g)), some (.int x), some (.ref (ad (16 + g)))], [.int 600, .int ((σ (16 + g) 0) + x)])) ⟨dX7_add_31, dX7_add_32, dX7_add_33, trivial⟩ rfl ?_
  refine zw_icmp_le X (tgt := 49) dX7_add_36 (by decide) (fun _ => ?_) (fun h_ => absurd h3 h_)
  refine zw_run X (is := [(49, .aload_n 3, 1), (50, .dup, 1)]) (t' := (51, [some (.ref (ad 0)), some (.int (nI g)), some (.int x), some (.ref (ad (16 + g)))], [.ref (ad (16 + g)), .ref (ad (16 + g))])) ⟨dX7_add_49, dX7_add_50, trivial⟩ rfl ?_
  refine zw_getf X (i := 16 + g) (by omega) (zc_P hg8) (C := RX4) (T := TX4) (Nf := 7) rfl zi_X4 0 (by decide) rfl zm_280 rfl dX7_add_51 ?_
  refine zw_run X (is := [(54, .iload_n 2, 1), (55, .iadd, 1)]) (t' := (56, [some (.ref (ad 0)), some (.int (nI g)), some (.int x), some (.ref (ad (16 + g)))], [.int ((σ (16 + g) 0) + x), .ref (ad (16 + g))])) ⟨dX7_add_54, dX7_add_55, trivial⟩ rfl ?_
  refine zw_put X hD hAd (i := 16 + g) (by omega) (zc_P hg8) (C := RX4) (T := TX4) (Nf := 7) rfl zi_X4 tyX4 tyX4_ok nmX4 0 (by decide) rfl rfl zm_280 (ty := .int) (by decide +kernel) rfl rfl (Nat.le_of_ble_eq_true rfl) (zc_P hg8) dX7_add_56 ?_
  refine zw_run X (is := [(59, .aload_n 3, 1)]) (t' := (60, [some (.ref (ad 0)), some (.int (nI g)), some (.int x), some (.ref (ad (16 + g)))], [.ref (ad (16 + g))])) ⟨dX7_add_59, trivial⟩ rfl ?_
  refine zw_Vi X hAd (As := []) (rest := []) (d := 0) (i := 16 + g) (by omega) (zc_P hg8) (q := (RX4, TX4, 7)) rfl ⟨zm_281, zm_282, zm_283, zm_81, zm_284, rfl, by decide, by decide, (show (parseMethodDescriptor yX4_linesNotInBook.desc).map (fun d => d.parameters.length) = some 0 by decide +kernel)⟩ (fun sz => c_lnib hls hD hn (zu σ (16 + g) 0 (σ (16 + g) 0 + x)) g hg8 sz) rfl rfl (Nat.le_of_ble_eq_true rfl) ⟨Nat.le_of_ble_eq_true rfl, Nat.le_of_ble_eq_true rfl⟩ ⟨Nat.zero_le _, Nat.zero_le _⟩ dX7_add_60 ?_
  exact zw_iret X hr dX7_add_63 rfl rfl rfl

set_option maxHeartbeats 4000000 in
set_option maxRecDepth 100000 in
theorem c_add_over {l : Launch} (hls : l.stackTraces = false) {D : va_G} {cy : Nat → ClassId} {wa : Nat → Nat} {N n : Nat} {ad : Nat → Nat} (hD : zD n ad) (hn : 40 ≤ n) (σ : zS) (gc : Nat) (hgc : gc ≤ 8) (e0 : σ 0 11 = nI gc) (g : Nat) (hg : g < gc) (x : Int32) (h1 : ¬ x < 1) (h2 : x ≤ 99) (ho : ¬ σ (8 + g) 2 = 0) (sz : Nat) : vx_Met l yX7_add (.code yX7_add cX7_add 4 (some .int) :: zB) (zRx 2) (zPc [.ref (ad 0), .int (nI g), .int x] D cy wa N n ad σ sz) zNo (zXC "java/lang/UnsupportedOperationException" D cy N n ad (σ) sz) 1 6 (zA n ad sz) := by
  refine z_metx (by decide) hls (List.forall_mem_cons.mpr ⟨rfl, (List.forall_mem_cons.mpr ⟨rfl, (List.forall_mem_cons.mpr ⟨rfl, (fun _ h => nomatch h)⟩)⟩)⟩) (Nat.le_of_ble_eq_true rfl) (fun p_ e_ s_ m_ below_ meth_ c_ hsz hr hno X => ?_)
  have X : zX p_ l s_ m_ [.ref (ad 0), .int (nI g), .int x].toArray meth_ c_ cX7_add 4 RX7 D cy wa (zA n ad sz) := X
  have hAd : ∀ i, i < n → zA n ad sz (ad i) := fun i hi => Or.inl ⟨i, hi, rfl⟩
  have hg8 : g < 8 := by omega
  refine zw_run X (is := [(0, .aload_n 0, 1), (1, .iload_n 1, 1)]) (t' := (2, [some (.ref (ad 0)), some (.int (nI g)), some (.int x), none], [.int (nI g), .ref (ad 0)])) ⟨dX7_add_0, dX7_add_1, trivial⟩ rfl ?_
  refine zw_Vv X hAd (As := [.int (nI g)]) (rest := []) (d := 0) (i := 0) (by omega) zc_0 (q := (RX7, TX7, 16)) rfl ⟨zm_135, zm_136, zm_137, zm_2, zm_138, rfl, by decide, by decide, (show (parseMethodDescriptor yX7_needGuild.desc).map (fun d => d.parameters.length) = some 1 by decide +kernel)⟩ (fun sz => c_needGuild hls hD hn σ gc hgc e0 g hg sz) rfl rfl (Nat.le_of_ble_eq_true rfl) ⟨Nat.le_of_ble_eq_true rfl, Nat.le_of_ble_eq_true rfl⟩ ⟨Nat.zero_le _, Nat.zero_le _⟩ dX7_add_2 ?_
  refine zw_run X (is := [(5, .iload_n 2, 1), (6, .iconst 1, 1), (7, .bipush 99, 2)]) (t' := (9, [some (.ref (ad 0)), some (.int (nI g)), some (.int x), none], [.int 99, .int 1, .int x])) ⟨dX7_add_5, dX7_add_6, dX7_add_7, trivial⟩ rfl ?_
  refine zw_Sv X hAd (As := [.int x, .int 1, .int 99]) (rest := []) (d := 0) ⟨zm_114, zm_115, zm_2, zm_116, by decide, by decide, (show (parseMethodDescriptor yX7_needRange.desc).map (fun d => d.parameters.length) = some 3 by decide +kernel)⟩ (fun sz => c_needRange hls hD hn σ x 1 99 h1 h2 sz) rfl rfl (Nat.le_of_ble_eq_true rfl) ⟨Nat.le_of_ble_eq_true rfl, Nat.le_of_ble_eq_true rfl⟩ ⟨Nat.zero_le _, Nat.zero_le _⟩ dX7_add_9 ?_
  refine zw_run X (is := [(12, .aload_n 0, 1), (13, .iload_n 1, 1)]) (t' := (14, [some (.ref (ad 0)), some (.int (nI g)), some (.int x), none], [.int (nI g), .ref (ad 0)])) ⟨dX7_add_12, dX7_add_13, trivial⟩ rfl ?_
  exact zw_Vo X hno hAd rfl (As := [.int (nI g)]) (rest := []) (d := 0) (i := 0) (by omega) zc_0 (q := (RX7, TX7, 16)) rfl ⟨zm_240, zm_241, zm_242, zm_2, zm_243, rfl, by decide, by decide, (show (parseMethodDescriptor yX7_needNotOver.desc).map (fun d => d.parameters.length) = some 1 by decide +kernel)⟩ (fun sz => c_needNotOver_x hls hD hn σ g hg8 ho sz) rfl rfl (Nat.le_of_ble_eq_true rfl) ⟨Nat.le_of_ble_eq_true rfl, Nat.le_of_ble_eq_true rfl⟩ ⟨Nat.le_of_ble_eq_true rfl, Nat.le_of_ble_eq_true rfl⟩ dX7_add_14

set_option maxHeartbeats 4000000 in
set_option maxRecDepth 100000 in
theorem c_add_many {l : Launch} (hls : l.stackTraces = false) {D : va_G} {cy : Nat → ClassId} {wa : Nat → Nat} {N n : Nat} {ad : Nat → Nat} (hD : zD n ad) (hn : 40 ≤ n) (σ : zS) (gc : Nat) (hgc : gc ≤ 8) (e0 : σ 0 11 = nI gc) (g : Nat) (hg : g < gc) (x : Int32) (h1 : ¬ x < 1) (h2 : x ≤ 99) (ho : σ (8 + g) 2 = 0) (h3 : ¬ σ (16 + g) 0 + x ≤ 600) (sz : Nat) : vx_Met l yX7_add (.code yX7_add cX7_add 4 (some .int) :: zB) (zRx 2) (zPc [.ref (ad 0), .int (nI g), .int x] D cy wa N n ad σ sz) zNo (zXC "java/lang/UnsupportedOperationException" D cy N n ad (σ) sz) 1 6 (zA n ad sz) := by
  refine z_metx (by decide) hls (List.forall_mem_cons.mpr ⟨rfl, (List.forall_mem_cons.mpr ⟨rfl, (List.forall_mem_cons.mpr ⟨rfl, (fun _ h => nomatch h)⟩)⟩)⟩) (Nat.le_of_ble_eq_true rfl) (fun p_ e_ s_ m_ below_ meth_ c_ hsz hr hno X => ?_)
  have X : zX p_ l s_ m_ [.ref (ad 0), .int (nI g), .int x].toArray meth_ c_ cX7_add 4 RX7 D cy wa (zA n ad sz) := X
  have hAd : ∀ i, i < n → zA n ad sz (ad i) := fun i hi => Or.inl ⟨i, hi, rfl⟩
  have hg8 : g < 8 := by omega
  refine zw_run X (is := [(0, .aload_n 0, 1), (1, .iload_n 1, 1)]) (t' := (2, [some (.ref (ad 0)), some (.int (nI g)), some (.int x), none], [.int (nI g), .ref (ad 0)])) ⟨dX7_add_0, dX7_add_1, trivial⟩ rfl ?_
  refine zw_Vv X hAd (As := [.int (nI g)]) (rest := []) (d := 0) (i := 0) (by omega) zc_0 (q := (RX7, TX7, 16)) rfl ⟨zm_135, zm_136, zm_137, zm_2, zm_138, rfl, by decide, by decide, (show (parseMethodDescriptor yX7_needGuild.desc).map (fun d => d.parameters.length) = some 1 by decide +kernel)⟩ (fun sz => c_needGuild hls hD hn σ gc hgc e0 g hg sz) rfl rfl (Nat.le_of_ble_eq_true rfl) ⟨Nat.le_of_ble_eq_true rfl, Nat.le_of_ble_eq_true rfl⟩ ⟨Nat.zero_le _, Nat.zero_le _⟩ dX7_add_2 ?_
  refine zw_run X (is := [(5, .iload_n 2, 1), (6, .iconst 1, 1), (7, .bipush 99, 2)]) (t' := (9, [some (.ref (ad 0)), some (.int (nI g)), some (.int x), none], [.int 99, .int 1, .int x])) ⟨dX7_add_5, dX7_add_6, dX7_add_7, trivial⟩ rfl ?_
  refine zw_Sv X hAd (As := [.int x, .int 1, .int 99]) (rest := []) (d := 0) ⟨zm_114, zm_115, zm_2, zm_116, by decide, by decide, (show (parseMethodDescriptor yX7_needRange.desc).map (fun d => d.parameters.length) = some 3 by decide +kernel)⟩ (fun sz => c_needRange hls hD hn σ x 1 99 h1 h2 sz) rfl rfl (Nat.le_of_ble_eq_true rfl) ⟨Nat.le_of_ble_eq_true rfl, Nat.le_of_ble_eq_true rfl⟩ ⟨Nat.zero_le _, Nat.zero_le _⟩ dX7_add_9 ?_
  refine zw_run X (is := [(12, .aload_n 0, 1), (13, .iload_n 1, 1)]) (t' := (14, [some (.ref (ad 0)), some (.int (nI g)), some (.int x), none], [.int (nI g), .ref (ad 0)])) ⟨dX7_add_12, dX7_add_13, trivial⟩ rfl ?_
  refine zw_Vv X hAd (As := [.int (nI g)]) (rest := []) (d := 0) (i := 0) (by omega) zc_0 (q := (RX7, TX7, 16)) rfl ⟨zm_240, zm_241, zm_242, zm_2, zm_243, rfl, by decide, by decide, (show (parseMethodDescriptor yX7_needNotOver.desc).map (fun d => d.parameters.length) = some 1 by decide +kernel)⟩ (fun sz => c_needNotOver hls hD hn σ g hg8 ho sz) rfl rfl (Nat.le_of_ble_eq_true rfl) ⟨Nat.le_of_ble_eq_true rfl, Nat.le_of_ble_eq_true rfl⟩ ⟨Nat.zero_le _, Nat.zero_le _⟩ dX7_add_14 ?_
  refine zw_run X (is := [(17, .aload_n 0, 1)]) (t' := (18, [some (.ref (ad 0)), some (.int (nI g)), some (.int x), none], [.ref (ad 0)])) ⟨dX7_add_17, trivial⟩ rfl ?_
  refine zw_getf X (i := 0) (by omega) zc_0 (C := RX7) (T := TX7) (Nf := 16) rfl zi_X7 0 (by decide) rfl zm_18 rfl dX7_add_18 ?_
  refine zw_run X (is := [(21, .iload_n 1, 1)]) (t' := (22, [some (.ref (ad 0)), some (.int (nI g)), some (.int x), none], [.int (nI g), .ref (ad 1)])) ⟨dX7_add_21, trivial⟩ rfl ?_
  refine zw_guild X (by omega) (g := g) rfl hg8 dX7_add_22 ?_
  refine zw_getf X (i := 8 + g) (by omega) (zc_G hg8) (C := RX1) (T := TX1) (Nf := 7) rfl zi_X1 6 (by decide) rfl zm_112 rfl dX7_add_23 ?_
  refine zw_run X (is := [(26, .astore_n 3, 1), (27, .aload_n 3, 1)]) (t' := (28, [some (.ref (ad 0)), some (.int (nI g)), some (.int x), some (.ref (ad (16 + g)))], [.ref (ad (16 + g))])) ⟨dX7_add_26, dX7_add_27, trivial⟩ rfl ?_
  refine zw_getf X (i := 16 + g) (by omega) (zc_P hg8) (C := RX4) (T := TX4) (Nf := 7) rfl zi_X4 0 (by decide) rfl zm_280 rfl dX7_add_28 ?_
  refine zw_run X (is := [(31, .iload_n 2, 1), (32, .iadd, 1), (33, .sipush 600, 3)]) (t' := (36, [some (.ref (ad 0)), some (.int (nI g)), some (.int x), some (.ref (ad (16 + g)))], [.int 600, .int ((σ (16 + g) 0) + x)])) ⟨dX7_add_31, dX7_add_32, dX7_add_33, trivial⟩ rfl ?_
  refine zw_icmp_le X (tgt := 49) dX7_add_36 (by decide) (fun h_ => absurd h_ h3) (fun _ => ?_)
  exact zw_throw X hno zTh_uoe (is := 220) (text := "a play has at most 600 lines") (by decide +kernel) rfl rfl dX7_add_39 dX7_add_42 dX7_add_43 dX7_add_45 dX7_add_48 ⟨Nat.le_of_ble_eq_true rfl, Nat.le_of_ble_eq_true rfl, Nat.le_of_ble_eq_true rfl, Nat.le_of_ble_eq_true rfl⟩ ⟨rfl, rfl⟩

set_option maxHeartbeats 4000000 in
set_option maxRecDepth 100000 in
theorem c_add_bad {l : Launch} (hls : l.stackTraces = false) {D : va_G} {cy : Nat → ClassId} {wa : Nat → Nat} {N n : Nat} {ad : Nat → Nat} (hD : zD n ad) (hn : 40 ≤ n) (σ : zS) (gc : Nat) (hgc : gc ≤ 8) (e0 : σ 0 11 = nI gc) (g : Nat) (hg : g < gc)  (sz : Nat) : vx_Met l yX7_add (.code yX7_add cX7_add 4 (some .int) :: zB) (zRx 2) (zPc [.ref (ad 0), .int (nI g), .int 100] D cy wa N n ad σ sz) zNo (zXC "java/lang/IllegalArgumentException" D cy N n ad (σ) sz) 1 6 (zA n ad sz) := by
  refine z_metx (by decide) hls (List.forall_mem_cons.mpr ⟨rfl, (List.forall_mem_cons.mpr ⟨rfl, (List.forall_mem_cons.mpr ⟨rfl, (fun _ h => nomatch h)⟩)⟩)⟩) (Nat.le_of_ble_eq_true rfl) (fun p_ e_ s_ m_ below_ meth_ c_ hsz hr hno X => ?_)
  have X : zX p_ l s_ m_ [.ref (ad 0), .int (nI g), .int 100].toArray meth_ c_ cX7_add 4 RX7 D cy wa (zA n ad sz) := X
  have hAd : ∀ i, i < n → zA n ad sz (ad i) := fun i hi => Or.inl ⟨i, hi, rfl⟩
  have hg8 : g < 8 := by omega
  refine zw_run X (is := [(0, .aload_n 0, 1), (1, .iload_n 1, 1)]) (t' := (2, [some (.ref (ad 0)), some (.int (nI g)), some (.int 100), none], [.int (nI g), .ref (ad 0)])) ⟨dX7_add_0, dX7_add_1, trivial⟩ rfl ?_
  refine zw_Vv X hAd (As := [.int (nI g)]) (rest := []) (d := 0) (i := 0) (by omega) zc_0 (q := (RX7, TX7, 16)) rfl ⟨zm_135, zm_136, zm_137, zm_2, zm_138, rfl, by decide, by decide, (show (parseMethodDescriptor yX7_needGuild.desc).map (fun d => d.parameters.length) = some 1 by decide +kernel)⟩ (fun sz => c_needGuild hls hD hn σ gc hgc e0 g hg sz) rfl rfl (Nat.le_of_ble_eq_true rfl) ⟨Nat.le_of_ble_eq_true rfl, Nat.le_of_ble_eq_true rfl⟩ ⟨Nat.zero_le _, Nat.zero_le _⟩ dX7_add_2 ?_
  refine zw_run X (is := [(5, .iload_n 2, 1), (6, .iconst 1, 1), (7, .bipush 99, 2)]) (t' := (9, [some (.ref (ad 0)), some (.int (nI g)), some (.int 100), none], [.int 99, .int 1, .int 100])) ⟨dX7_add_5, dX7_add_6, dX7_add_7, trivial⟩ rfl ?_
  exact zw_So X hno hAd rfl (As := [.int 100, .int 1, .int 99]) (rest := []) (d := 0) ⟨zm_114, zm_115, zm_2, zm_116, by decide, by decide, (show (parseMethodDescriptor yX7_needRange.desc).map (fun d => d.parameters.length) = some 3 by decide +kernel)⟩ (fun sz => c_needRange_hi hls hD hn σ 100 1 99 (by decide) (by decide) sz) rfl rfl (Nat.le_of_ble_eq_true rfl) ⟨Nat.le_of_ble_eq_true rfl, Nat.le_of_ble_eq_true rfl⟩ ⟨Nat.le_of_ble_eq_true rfl, Nat.le_of_ble_eq_true rfl⟩ dX7_add_9

set_option maxHeartbeats 4000000 in
set_option maxRecDepth 100000 in
theorem c_merge {l : Launch} (hls : l.stackTraces = false) {D : va_G} {cy : Nat → ClassId} {wa : Nat → Nat} {N n : Nat} {ad : Nat → Nat} (hD : zD n ad) (hn : 40 ≤ n) (σ : zS) (gc : Nat) (hgc : gc ≤ 8) (e0 : σ 0 11 = nI gc) (g : Nat) (hg : g < gc) (h : Nat) (hh : h < gc) (hne : g ≠ h) (ho : σ (8 + g) 2 = 0) (ho2 : σ (8 + h) 2 = 0) (sz : Nat) : Met l yX7_merge (.code yX7_merge cX7_merge 5 (some .int) :: zB) (zRm 2) (zPc [.ref (ad 0), .int (nI g), .int (nI h)] D cy wa N n ad σ sz) (zQi ((zu (zu (zu σ (8 + h) 0 ((σ (8 + h) 0) + (σ (8 + g) 0))) (8 + g) 0 0) (8 + g) 2 1) (8 + h) 0) D cy N n ad (zu (zu (zu σ (8 + h) 0 ((σ (8 + h) 0) + (σ (8 + g) 0))) (8 + g) 0 0) (8 + g) 2 1) sz) 0 0 (zA n ad sz) := by
  refine z_met (by decide) hls (List.forall_mem_cons.mpr ⟨rfl, (List.forall_mem_cons.mpr ⟨rfl, (List.forall_mem_cons.mpr ⟨rfl, (fun _ h => nomatch h)⟩)⟩)⟩) (Nat.le_of_ble_eq_true rfl) (fun p_ e_ s_ m_ below_ meth_ c_ hsz hr X => ?_)
  have X : zX p_ l s_ m_ [.ref (ad 0), .int (nI g), .int (nI h)].toArray meth_ c_ cX7_merge 5 RX7 D cy wa (zA n ad sz) := X
  have hAd : ∀ i, i < n → zA n ad sz (ad i) := fun i hi => Or.inl ⟨i, hi, rfl⟩
  have hg8 : g < 8 := by omega
  have hh8 : h < 8 := by omega
  refine zw_run X (is := [(0, .aload_n 0, 1), (1, .iload_n 1, 1)]) (t' := (2, [some (.ref (ad 0)), some (.int (nI g)), some (.int (nI h)), none, none], [.int (nI g), .ref (ad 0)])) ⟨dX7_merge_0, dX7_merge_1, trivial⟩ rfl ?_
  refine zw_Vv X hAd (As := [.int (nI g)]) (rest := []) (d := 0) (i := 0) (by omega) zc_0 (q := (RX7, TX7, 16)) rfl ⟨zm_135, zm_136, zm_137, zm_2, zm_138, rfl, by decide, by decide, (show (parseMethodDescriptor yX7_needGuild.desc).map (fun d => d.parameters.length) = some 1 by decide +kernel)⟩ (fun sz => c_needGuild hls hD hn σ gc hgc e0 g hg sz) rfl rfl (Nat.le_of_ble_eq_true rfl) ⟨Nat.le_of_ble_eq_true rfl, Nat.le_of_ble_eq_true rfl⟩ ⟨Nat.zero_le _, Nat.zero_le _⟩ dX7_merge_2 ?_
  refine zw_run X (is := [(5, .aload_n 0, 1), (6, .iload_n 2, 1)]) (t' := (7, [some (.ref (ad 0)), some (.int (nI g)), some (.int (nI h)), none, none], [.int (nI h), .ref (ad 0)])) ⟨dX7_merge_5, dX7_merge_6, trivial⟩ rfl ?_
  refine zw_Vv X hAd (As := [.int (nI h)]) (rest := []) (d := 0) (i := 0) (by omega) zc_0 (q := (RX7, TX7, 16)) rfl ⟨zm_135, zm_136, zm_137, zm_2, zm_138, rfl, by decide, by decide, (show (parseMethodDescriptor yX7_needGuild.desc).map (fun d => d.parameters.length) = some 1 by decide +kernel)⟩ (fun sz => c_needGuild hls hD hn σ gc hgc e0 h hh sz) rfl rfl (Nat.le_of_ble_eq_true rfl) ⟨Nat.le_of_ble_eq_true rfl, Nat.le_of_ble_eq_true rfl⟩ ⟨Nat.zero_le _, Nat.zero_le _⟩ dX7_merge_7 ?_
  refine zw_run X (is := [(10, .iload_n 1, 1), (11, .iload_n 2, 1)]) (t' := (12, [some (.ref (ad 0)), some (.int (nI g)), some (.int (nI h)), none, none], [.int (nI h), .int (nI g)])) ⟨dX7_merge_10, dX7_merge_11, trivial⟩ rfl ?_
  refine zw_icmp_ne X (tgt := 25) dX7_merge_12 (by decide) (fun h_ => ?_) (fun h_ => absurd h_ (fun q => hne ((nI_eq (by omega) (by omega)).mp q)))
  refine zw_run X (is := [(25, .aload_n 0, 1), (26, .iload_n 1, 1)]) (t' := (27, [some (.ref (ad 0)), some (.int (nI g)), some (.int (nI h)), none, none], [.int (nI g), .ref (ad 0)])) ⟨dX7_merge_25, dX7_merge_26, trivial⟩ rfl ?_
  refine zw_Vv X hAd (As := [.int (nI g)]) (rest := []) (d := 0) (i := 0) (by omega) zc_0 (q := (RX7, TX7, 16)) rfl ⟨zm_240, zm_241, zm_242, zm_2, zm_243, rfl, by decide, by decide, (show (parseMethodDescriptor yX7_needNotOver.desc).map (fun d => d.parameters.length) = some 1 by decide +kernel)⟩ (fun sz => c_needNotOver hls hD hn σ g hg8 ho sz) rfl rfl (Nat.le_of_ble_eq_true rfl) ⟨Nat.le_of_ble_eq_true rfl, Nat.le_of_ble_eq_true rfl⟩ ⟨Nat.zero_le _, Nat.zero_le _⟩ dX7_merge_27 ?_
  refine zw_run X (is := [(30, .aload_n 0, 1), (31, .iload_n 2, 1)]) (t' := (32, [some (.ref (ad 0)), some (.int (nI g)), some (.int (nI h)), none, none], [.int (nI h), .ref (ad 0)])) ⟨dX7_merge_30, dX7_merge_31, trivial⟩ rfl ?_
  refine zw_Vv X hAd (As := [.int (nI h)]) (rest := []) (d := 0) (i := 0) (by omega) zc_0 (q := (RX7, TX7, 16)) rfl ⟨zm_240, zm_241, zm_242, zm_2, zm_243, rfl, by decide, by decide, (show (parseMethodDescriptor yX7_needNotOver.desc).map (fun d => d.parameters.length) = some 1 by decide +kernel)⟩ (fun sz => c_needNotOver hls hD hn σ h hh8 ho2 sz) rfl rfl (Nat.le_of_ble_eq_true rfl) ⟨Nat.le_of_ble_eq_true rfl, Nat.le_of_ble_eq_true rfl⟩ ⟨Nat.zero_le _, Nat.zero_le _⟩ dX7_merge_32 ?_
  refine zw_run X (is := [(35, .aload_n 0, 1)]) (t' := (36, [some (.ref (ad 0)), some (.int (nI g)), some (.int (nI h)), none, none], [.ref (ad 0)])) ⟨dX7_merge_35, trivial⟩ rfl ?_
  refine zw_getf X (i := 0) (by omega) zc_0 (C := RX7) (T := TX7) (Nf := 16) rfl zi_X7 0 (by decide) rfl zm_18 rfl dX7_merge_36 ?_
  refine zw_run X (is := [(39, .iload_n 1, 1)]) (t' := (40, [some (.ref (ad 0)), some (.int (nI g)), some (.int (nI h)), none, none], [.int (nI g), .ref (ad 1)])) ⟨dX7_merge_39, trivial⟩ rfl ?_
  refine zw_guild X (by omega) (g := g) rfl hg8 dX7_merge_40 ?_
  refine zw_run X (is := [(41, .astore_n 3, 1), (42, .aload_n 0, 1)]) (t' := (43, [some (.ref (ad 0)), some (.int (nI g)), some (.int (nI h)), some (.ref (ad (8 + g))), none], [.ref (ad 0)])) ⟨dX7_merge_41, dX7_merge_42, trivial⟩ rfl ?_
  refine zw_getf X (i := 0) (by omega) zc_0 (C := RX7) (T := TX7) (Nf := 16) rfl zi_X7 0 (by decide) rfl zm_18 rfl dX7_merge_43 ?_
  refine zw_run X (is := [(46, .iload_n 2, 1)]) (t' := (47, [some (.ref (ad 0)), some (.int (nI g)), some (.int (nI h)), some (.ref (ad (8 + g))), none], [.int (nI h), .ref (ad 1)])) ⟨dX7_merge_46, trivial⟩ rfl ?_
  refine zw_guild X (by omega) (g := h) rfl hh8 dX7_merge_47 ?_
  refine zw_run X (is := [(48, .astore 4, 2), (50, .aload 4, 2), (52, .dup, 1)]) (t' := (53, [some (.ref (ad 0)), some (.int (nI g)), some (.int (nI h)), some (.ref (ad (8 + g))), some (.ref (ad (8 + h)))], [.ref (ad (8 + h)), .ref (ad (8 + h))])) ⟨dX7_merge_48, dX7_merge_50, dX7_merge_52, trivial⟩ rfl ?_
  refine zw_getf X (i := 8 + h) (by omega) (zc_G hh8) (C := RX1) (T := TX1) (Nf := 7) rfl zi_X1 0 (by decide) rfl zm_111 rfl dX7_merge_53 ?_
  refine zw_run X (is := [(56, .aload_n 3, 1)]) (t' := (57, [some (.ref (ad 0)), some (.int (nI g)), some (.int (nI h)), some (.ref (ad (8 + g))), some (.ref (ad (8 + h)))], [.ref (ad (8 + g)), .int (σ (8 + h) 0), .ref (ad (8 + h))])) ⟨dX7_merge_56, trivial⟩ rfl ?_
  refine zw_getf X (i := 8 + g) (by omega) (zc_G hg8) (C := RX1) (T := TX1) (Nf := 7) rfl zi_X1 0 (by decide) rfl zm_111 rfl dX7_merge_57 ?_
  refine zw_run X (is := [(60, .iadd, 1)]) (t' := (61, [some (.ref (ad 0)), some (.int (nI g)), some (.int (nI h)), some (.ref (ad (8 + g))), some (.ref (ad (8 + h)))], [.int ((σ (8 + h) 0) + (σ (8 + g) 0)), .ref (ad (8 + h))])) ⟨dX7_merge_60, trivial⟩ rfl ?_
  refine zw_put X hD hAd (i := 8 + h) (by omega) (zc_G hh8) (C := RX1) (T := TX1) (Nf := 7) rfl zi_X1 tyX1 tyX1_ok nmX1 0 (by decide) rfl rfl zm_111 (ty := .int) (by decide +kernel) rfl rfl (Nat.le_of_ble_eq_true rfl) (zc_G hh8) dX7_merge_61 ?_
  refine zw_run X (is := [(64, .aload_n 3, 1), (65, .iconst 0, 1)]) (t' := (66, [some (.ref (ad 0)), some (.int (nI g)), some (.int (nI h)), some (.ref (ad (8 + g))), some (.ref (ad (8 + h)))], [.int 0, .ref (ad (8 + g))])) ⟨dX7_merge_64, dX7_merge_65, trivial⟩ rfl ?_
  refine zw_put X hD hAd (i := 8 + g) (by omega) (zc_G hg8) (C := RX1) (T := TX1) (Nf := 7) rfl zi_X1 tyX1 tyX1_ok nmX1 0 (by decide) rfl rfl zm_111 (ty := .int) (by decide +kernel) rfl rfl (Nat.le_of_ble_eq_true rfl) (zc_G hg8) dX7_merge_66 ?_
  refine zw_run X (is := [(69, .aload_n 3, 1), (70, .iconst 1, 1)]) (t' := (71, [some (.ref (ad 0)), some (.int (nI g)), some (.int (nI h)), some (.ref (ad (8 + g))), some (.ref (ad (8 + h)))], [.int 1, .ref (ad (8 + g))])) ⟨dX7_merge_69, dX7_merge_70, trivial⟩ rfl ?_
  refine zw_put X hD hAd (i := 8 + g) (by omega) (zc_G hg8) (C := RX1) (T := TX1) (Nf := 7) rfl zi_X1 tyX1 tyX1_ok nmX1 2 (by decide) rfl rfl zm_134 (ty := .boolean) (by decide +kernel) (by decide) (by decide) (Nat.le_of_ble_eq_true rfl) (zc_G hg8) dX7_merge_71 ?_
  refine zw_run X (is := [(74, .aload 4, 2)]) (t' := (76, [some (.ref (ad 0)), some (.int (nI g)), some (.int (nI h)), some (.ref (ad (8 + g))), some (.ref (ad (8 + h)))], [.ref (ad (8 + h))])) ⟨dX7_merge_74, trivial⟩ rfl ?_
  refine zw_getf X (i := 8 + h) (by omega) (zc_G hh8) (C := RX1) (T := TX1) (Nf := 7) rfl zi_X1 0 (by decide) rfl zm_111 rfl dX7_merge_76 ?_
  exact zw_iret X hr dX7_merge_79 rfl rfl rfl

set_option maxHeartbeats 4000000 in
set_option maxRecDepth 100000 in
theorem c_merge_same {l : Launch} (hls : l.stackTraces = false) {D : va_G} {cy : Nat → ClassId} {wa : Nat → Nat} {N n : Nat} {ad : Nat → Nat} (hD : zD n ad) (hn : 40 ≤ n) (σ : zS) (gc : Nat) (hgc : gc ≤ 8) (e0 : σ 0 11 = nI gc) (g : Nat) (hg : g < gc)  (sz : Nat) : vx_Met l yX7_merge (.code yX7_merge cX7_merge 5 (some .int) :: zB) (zRx 2) (zPc [.ref (ad 0), .int (nI g), .int (nI g)] D cy wa N n ad σ sz) zNo (zXC "java/lang/IllegalArgumentException" D cy N n ad (σ) sz) 1 6 (zA n ad sz) := by
  refine z_metx (by decide) hls (List.forall_mem_cons.mpr ⟨rfl, (List.forall_mem_cons.mpr ⟨rfl, (List.forall_mem_cons.mpr ⟨rfl, (fun _ h => nomatch h)⟩)⟩)⟩) (Nat.le_of_ble_eq_true rfl) (fun p_ e_ s_ m_ below_ meth_ c_ hsz hr hno X => ?_)
  have X : zX p_ l s_ m_ [.ref (ad 0), .int (nI g), .int (nI g)].toArray meth_ c_ cX7_merge 5 RX7 D cy wa (zA n ad sz) := X
  have hAd : ∀ i, i < n → zA n ad sz (ad i) := fun i hi => Or.inl ⟨i, hi, rfl⟩
  have hg8 : g < 8 := by omega
  refine zw_run X (is := [(0, .aload_n 0, 1), (1, .iload_n 1, 1)]) (t' := (2, [some (.ref (ad 0)), some (.int (nI g)), some (.int (nI g)), none, none], [.int (nI g), .ref (ad 0)])) ⟨dX7_merge_0, dX7_merge_1, trivial⟩ rfl ?_
  refine zw_Vv X hAd (As := [.int (nI g)]) (rest := []) (d := 0) (i := 0) (by omega) zc_0 (q := (RX7, TX7, 16)) rfl ⟨zm_135, zm_136, zm_137, zm_2, zm_138, rfl, by decide, by decide, (show (parseMethodDescriptor yX7_needGuild.desc).map (fun d => d.parameters.length) = some 1 by decide +kernel)⟩ (fun sz => c_needGuild hls hD hn σ gc hgc e0 g hg sz) rfl rfl (Nat.le_of_ble_eq_true rfl) ⟨Nat.le_of_ble_eq_true rfl, Nat.le_of_ble_eq_true rfl⟩ ⟨Nat.zero_le _, Nat.zero_le _⟩ dX7_merge_2 ?_
  refine zw_run X (is := [(5, .aload_n 0, 1), (6, .iload_n 2, 1)]) (t' := (7, [some (.ref (ad 0)), some (.int (nI g)), some (.int (nI g)), none, none], [.int (nI g), .ref (ad 0)])) ⟨dX7_merge_5, dX7_merge_6, trivial⟩ rfl ?_
  refine zw_Vv X hAd (As := [.int (nI g)]) (rest := []) (d := 0) (i := 0) (by omega) zc_0 (q := (RX7, TX7, 16)) rfl ⟨zm_135, zm_136, zm_137, zm_2, zm_138, rfl, by decide, by decide, (show (parseMethodDescriptor yX7_needGuild.desc).map (fun d => d.parameters.length) = some 1 by decide +kernel)⟩ (fun sz => c_needGuild hls hD hn σ gc hgc e0 g hg sz) rfl rfl (Nat.le_of_ble_eq_true rfl) ⟨Nat.le_of_ble_eq_true rfl, Nat.le_of_ble_eq_true rfl⟩ ⟨Nat.zero_le _, Nat.zero_le _⟩ dX7_merge_7 ?_
  refine zw_run X (is := [(10, .iload_n 1, 1), (11, .iload_n 2, 1)]) (t' := (12, [some (.ref (ad 0)), some (.int (nI g)), some (.int (nI g)), none, none], [.int (nI g), .int (nI g)])) ⟨dX7_merge_10, dX7_merge_11, trivial⟩ rfl ?_
  refine zw_icmp_ne X (tgt := 25) dX7_merge_12 (by decide) (fun h_ => absurd rfl h_) (fun h_ => ?_)
  exact zw_throw X hno zTh_iae (is := 94) (text := "a guild is not merged into itself") (by decide +kernel) rfl rfl dX7_merge_15 dX7_merge_18 dX7_merge_19 dX7_merge_21 dX7_merge_24 ⟨Nat.le_of_ble_eq_true rfl, Nat.le_of_ble_eq_true rfl, Nat.le_of_ble_eq_true rfl, Nat.le_of_ble_eq_true rfl⟩ ⟨rfl, rfl⟩

set_option maxHeartbeats 4000000 in
set_option maxRecDepth 100000 in
theorem c_merge_over {l : Launch} (hls : l.stackTraces = false) {D : va_G} {cy : Nat → ClassId} {wa : Nat → Nat} {N n : Nat} {ad : Nat → Nat} (hD : zD n ad) (hn : 40 ≤ n) (σ : zS) (gc : Nat) (hgc : gc ≤ 8) (e0 : σ 0 11 = nI gc) (g : Nat) (hg : g < gc) (h : Nat) (hh : h < gc) (hne : g ≠ h) (ho : ¬ σ (8 + g) 2 = 0) (sz : Nat) : vx_Met l yX7_merge (.code yX7_merge cX7_merge 5 (some .int) :: zB) (zRx 2) (zPc [.ref (ad 0), .int (nI g), .int (nI h)] D cy wa N n ad σ sz) zNo (zXC "java/lang/UnsupportedOperationException" D cy N n ad (σ) sz) 1 6 (zA n ad sz) := by
  refine z_metx (by decide) hls (List.forall_mem_cons.mpr ⟨rfl, (List.forall_mem_cons.mpr ⟨rfl, (List.forall_mem_cons.mpr ⟨rfl, (fun _ h => nomatch h)⟩)⟩)⟩) (Nat.le_of_ble_eq_true rfl) (fun p_ e_ s_ m_ below_ meth_ c_ hsz hr hno X => ?_)
  have X : zX p_ l s_ m_ [.ref (ad 0), .int (nI g), .int (nI h)].toArray meth_ c_ cX7_merge 5 RX7 D cy wa (zA n ad sz) := X
  have hAd : ∀ i, i < n → zA n ad sz (ad i) := fun i hi => Or.inl ⟨i, hi, rfl⟩
  have hg8 : g < 8 := by omega
  have hh8 : h < 8 := by omega
  refine zw_run X (is := [(0, .aload_n 0, 1), (1, .iload_n 1, 1)]) (t' := (2, [some (.ref (ad 0)), some (.int (nI g)), some (.int (nI h)), none, none], [.int (nI g), .ref (ad 0)])) ⟨dX7_merge_0, dX7_merge_1, trivial⟩ rfl ?_
  refine zw_Vv X hAd (As := [.int (nI g)]) (rest := []) (d := 0) (i := 0) (by omega) zc_0 (q := (RX7, TX7, 16)) rfl ⟨zm_135, zm_136, zm_137, zm_2, zm_138, rfl, by decide, by decide, (show (parseMethodDescriptor yX7_needGuild.desc).map (fun d => d.parameters.length) = some 1 by decide +kernel)⟩ (fun sz => c_needGuild hls hD hn σ gc hgc e0 g hg sz) rfl rfl (Nat.le_of_ble_eq_true rfl) ⟨Nat.le_of_ble_eq_true rfl, Nat.le_of_ble_eq_true rfl⟩ ⟨Nat.zero_le _, Nat.zero_le _⟩ dX7_merge_2 ?_
  refine zw_run X (is := [(5, .aload_n 0, 1), (6, .iload_n 2, 1)]) (t' := (7, [some (.ref (ad 0)), some (.int (nI g)), some (.int (nI h)), none, none], [.int (nI h), .ref (ad 0)])) ⟨dX7_merge_5, dX7_merge_6, trivial⟩ rfl ?_
  refine zw_Vv X hAd (As := [.int (nI h)]) (rest := []) (d := 0) (i := 0) (by omega) zc_0 (q := (RX7, TX7, 16)) rfl ⟨zm_135, zm_136, zm_137, zm_2, zm_138, rfl, by decide, by decide, (show (parseMethodDescriptor yX7_needGuild.desc).map (fun d => d.parameters.length) = some 1 by decide +kernel)⟩ (fun sz => c_needGuild hls hD hn σ gc hgc e0 h hh sz) rfl rfl (Nat.le_of_ble_eq_true rfl) ⟨Nat.le_of_ble_eq_true rfl, Nat.le_of_ble_eq_true rfl⟩ ⟨Nat.zero_le _, Nat.zero_le _⟩ dX7_merge_7 ?_
  refine zw_run X (is := [(10, .iload_n 1, 1), (11, .iload_n 2, 1)]) (t' := (12, [some (.ref (ad 0)), some (.int (nI g)), some (.int (nI h)), none, none], [.int (nI h), .int (nI g)])) ⟨dX7_merge_10, dX7_merge_11, trivial⟩ rfl ?_
  refine zw_icmp_ne X (tgt := 25) dX7_merge_12 (by decide) (fun h_ => ?_) (fun h_ => absurd h_ (fun q => hne ((nI_eq (by omega) (by omega)).mp q)))
  refine zw_run X (is := [(25, .aload_n 0, 1), (26, .iload_n 1, 1)]) (t' := (27, [some (.ref (ad 0)), some (.int (nI g)), some (.int (nI h)), none, none], [.int (nI g), .ref (ad 0)])) ⟨dX7_merge_25, dX7_merge_26, trivial⟩ rfl ?_
  exact zw_Vo X hno hAd rfl (As := [.int (nI g)]) (rest := []) (d := 0) (i := 0) (by omega) zc_0 (q := (RX7, TX7, 16)) rfl ⟨zm_240, zm_241, zm_242, zm_2, zm_243, rfl, by decide, by decide, (show (parseMethodDescriptor yX7_needNotOver.desc).map (fun d => d.parameters.length) = some 1 by decide +kernel)⟩ (fun sz => c_needNotOver_x hls hD hn σ g hg8 ho sz) rfl rfl (Nat.le_of_ble_eq_true rfl) ⟨Nat.le_of_ble_eq_true rfl, Nat.le_of_ble_eq_true rfl⟩ ⟨Nat.le_of_ble_eq_true rfl, Nat.le_of_ble_eq_true rfl⟩ dX7_merge_27

set_option maxHeartbeats 4000000 in
set_option maxRecDepth 100000 in
theorem c_merge_over2 {l : Launch} (hls : l.stackTraces = false) {D : va_G} {cy : Nat → ClassId} {wa : Nat → Nat} {N n : Nat} {ad : Nat → Nat} (hD : zD n ad) (hn : 40 ≤ n) (σ : zS) (gc : Nat) (hgc : gc ≤ 8) (e0 : σ 0 11 = nI gc) (g : Nat) (hg : g < gc) (h : Nat) (hh : h < gc) (hne : g ≠ h) (ho : σ (8 + g) 2 = 0) (ho2 : ¬ σ (8 + h) 2 = 0) (sz : Nat) : vx_Met l yX7_merge (.code yX7_merge cX7_merge 5 (some .int) :: zB) (zRx 2) (zPc [.ref (ad 0), .int (nI g), .int (nI h)] D cy wa N n ad σ sz) zNo (zXC "java/lang/UnsupportedOperationException" D cy N n ad (σ) sz) 1 6 (zA n ad sz) := by
  refine z_metx (by decide) hls (List.forall_mem_cons.mpr ⟨rfl, (List.forall_mem_cons.mpr ⟨rfl, (List.forall_mem_cons.mpr ⟨rfl, (fun _ h => nomatch h)⟩)⟩)⟩) (Nat.le_of_ble_eq_true rfl) (fun p_ e_ s_ m_ below_ meth_ c_ hsz hr hno X => ?_)
  have X : zX p_ l s_ m_ [.ref (ad 0), .int (nI g), .int (nI h)].toArray meth_ c_ cX7_merge 5 RX7 D cy wa (zA n ad sz) := X
  have hAd : ∀ i, i < n → zA n ad sz (ad i) := fun i hi => Or.inl ⟨i, hi, rfl⟩
  have hg8 : g < 8 := by omega
  have hh8 : h < 8 := by omega
  refine zw_run X (is := [(0, .aload_n 0, 1), (1, .iload_n 1, 1)]) (t' := (2, [some (.ref (ad 0)), some (.int (nI g)), some (.int (nI h)), none, none], [.int (nI g), .ref (ad 0)])) ⟨dX7_merge_0, dX7_merge_1, trivial⟩ rfl ?_
  refine zw_Vv X hAd (As := [.int (nI g)]) (rest := []) (d := 0) (i := 0) (by omega) zc_0 (q := (RX7, TX7, 16)) rfl ⟨zm_135, zm_136, zm_137, zm_2, zm_138, rfl, by decide, by decide, (show (parseMethodDescriptor yX7_needGuild.desc).map (fun d => d.parameters.length) = some 1 by decide +kernel)⟩ (fun sz => c_needGuild hls hD hn σ gc hgc e0 g hg sz) rfl rfl (Nat.le_of_ble_eq_true rfl) ⟨Nat.le_of_ble_eq_true rfl, Nat.le_of_ble_eq_true rfl⟩ ⟨Nat.zero_le _, Nat.zero_le _⟩ dX7_merge_2 ?_
  refine zw_run X (is := [(5, .aload_n 0, 1), (6, .iload_n 2, 1)]) (t' := (7, [some (.ref (ad 0)), some (.int (nI g)), some (.int (nI h)), none, none], [.int (nI h), .ref (ad 0)])) ⟨dX7_merge_5, dX7_merge_6, trivial⟩ rfl ?_
  refine zw_Vv X hAd (As := [.int (nI h)]) (rest := []) (d := 0) (i := 0) (by omega) zc_0 (q := (RX7, TX7, 16)) rfl ⟨zm_135, zm_136, zm_137, zm_2, zm_138, rfl, by decide, by decide, (show (parseMethodDescriptor yX7_needGuild.desc).map (fun d => d.parameters.length) = some 1 by decide +kernel)⟩ (fun sz => c_needGuild hls hD hn σ gc hgc e0 h hh sz) rfl rfl (Nat.le_of_ble_eq_true rfl) ⟨Nat.le_of_ble_eq_true rfl, Nat.le_of_ble_eq_true rfl⟩ ⟨Nat.zero_le _, Nat.zero_le _⟩ dX7_merge_7 ?_
  refine zw_run X (is := [(10, .iload_n 1, 1), (11, .iload_n 2, 1)]) (t' := (12, [some (.ref (ad 0)), some (.int (nI g)), some (.int (nI h)), none, none], [.int (nI h), .int (nI g)])) ⟨dX7_merge_10, dX7_merge_11, trivial⟩ rfl ?_
  refine zw_icmp_ne X (tgt := 25) dX7_merge_12 (by decide) (fun h_ => ?_) (fun h_ => absurd h_ (fun q => hne ((nI_eq (by omega) (by omega)).mp q)))
  refine zw_run X (is := [(25, .aload_n 0, 1), (26, .iload_n 1, 1)]) (t' := (27, [some (.ref (ad 0)), some (.int (nI g)), some (.int (nI h)), none, none], [.int (nI g), .ref (ad 0)])) ⟨dX7_merge_25, dX7_merge_26, trivial⟩ rfl ?_
  refine zw_Vv X hAd (As := [.int (nI g)]) (rest := []) (d := 0) (i := 0) (by omega) zc_0 (q := (RX7, TX7, 16)) rfl ⟨zm_240, zm_241, zm_242, zm_2, zm_243, rfl, by decide, by decide, (show (parseMethodDescriptor yX7_needNotOver.desc).map (fun d => d.parameters.length) = some 1 by decide +kernel)⟩ (fun sz => c_needNotOver hls hD hn σ g hg8 ho sz) rfl rfl (Nat.le_of_ble_eq_true rfl) ⟨Nat.le_of_ble_eq_true rfl, Nat.le_of_ble_eq_true rfl⟩ ⟨Nat.zero_le _, Nat.zero_le _⟩ dX7_merge_27 ?_
  refine zw_run X (is := [(30, .aload_n 0, 1), (31, .iload_n 2, 1)]) (t' := (32, [some (.ref (ad 0)), some (.int (nI g)), some (.int (nI h)), none, none], [.int (nI h), .ref (ad 0)])) ⟨dX7_merge_30, dX7_merge_31, trivial⟩ rfl ?_
  exact zw_Vo X hno hAd rfl (As := [.int (nI h)]) (rest := []) (d := 0) (i := 0) (by omega) zc_0 (q := (RX7, TX7, 16)) rfl ⟨zm_240, zm_241, zm_242, zm_2, zm_243, rfl, by decide, by decide, (show (parseMethodDescriptor yX7_needNotOver.desc).map (fun d => d.parameters.length) = some 1 by decide +kernel)⟩ (fun sz => c_needNotOver_x hls hD hn σ h hh8 ho2 sz) rfl rfl (Nat.le_of_ble_eq_true rfl) ⟨Nat.le_of_ble_eq_true rfl, Nat.le_of_ble_eq_true rfl⟩ ⟨Nat.le_of_ble_eq_true rfl, Nat.le_of_ble_eq_true rfl⟩ dX7_merge_32

set_option maxHeartbeats 4000000 in
set_option maxRecDepth 100000 in
theorem c_leaves {l : Launch} (hls : l.stackTraces = false) {D : va_G} {cy : Nat → ClassId} {wa : Nat → Nat} {N n : Nat} {ad : Nat → Nat} (hD : zD n ad) (hn : 40 ≤ n) (σ : zS) (gc : Nat) (hgc : gc ≤ 8) (e0 : σ 0 11 = nI gc) (g : Nat) (hg : g < gc)  (sz : Nat) : Met l yX7_leaves (.code yX7_leaves cX7_leaves 2 (some .int) :: zB) (zRm 2) (zPc [.ref (ad 0), .int (nI g)] D cy wa N n ad σ sz) (zQi ((σ (16 + g) 4 + 40 - 1) / 40) D cy N n ad (σ) sz) 0 0 (zA n ad sz) := by
  refine z_met (by decide) hls (List.forall_mem_cons.mpr ⟨rfl, (List.forall_mem_cons.mpr ⟨rfl, (fun _ h => nomatch h)⟩)⟩) (Nat.le_of_ble_eq_true rfl) (fun p_ e_ s_ m_ below_ meth_ c_ hsz hr X => ?_)
  have X : zX p_ l s_ m_ [.ref (ad 0), .int (nI g)].toArray meth_ c_ cX7_leaves 2 RX7 D cy wa (zA n ad sz) := X
  have hAd : ∀ i, i < n → zA n ad sz (ad i) := fun i hi => Or.inl ⟨i, hi, rfl⟩
  have hg8 : g < 8 := by omega
  refine zw_run X (is := [(0, .aload_n 0, 1), (1, .iload_n 1, 1)]) (t' := (2, [some (.ref (ad 0)), some (.int (nI g))], [.int (nI g), .ref (ad 0)])) ⟨dX7_leaves_0, dX7_leaves_1, trivial⟩ rfl ?_
  refine zw_Vv X hAd (As := [.int (nI g)]) (rest := []) (d := 0) (i := 0) (by omega) zc_0 (q := (RX7, TX7, 16)) rfl ⟨zm_135, zm_136, zm_137, zm_2, zm_138, rfl, by decide, by decide, (show (parseMethodDescriptor yX7_needGuild.desc).map (fun d => d.parameters.length) = some 1 by decide +kernel)⟩ (fun sz => c_needGuild hls hD hn σ gc hgc e0 g hg sz) rfl rfl (Nat.le_of_ble_eq_true rfl) ⟨Nat.le_of_ble_eq_true rfl, Nat.le_of_ble_eq_true rfl⟩ ⟨Nat.zero_le _, Nat.zero_le _⟩ dX7_leaves_2 ?_
  refine zw_run X (is := [(5, .aload_n 0, 1)]) (t' := (6, [some (.ref (ad 0)), some (.int (nI g))], [.ref (ad 0)])) ⟨dX7_leaves_5, trivial⟩ rfl ?_
  refine zw_getf X (i := 0) (by omega) zc_0 (C := RX7) (T := TX7) (Nf := 16) rfl zi_X7 0 (by decide) rfl zm_18 rfl dX7_leaves_6 ?_
  refine zw_run X (is := [(9, .iload_n 1, 1)]) (t' := (10, [some (.ref (ad 0)), some (.int (nI g))], [.int (nI g), .ref (ad 1)])) ⟨dX7_leaves_9, trivial⟩ rfl ?_
  refine zw_guild X (by omega) (g := g) rfl hg8 dX7_leaves_10 ?_
  refine zw_getf X (i := 8 + g) (by omega) (zc_G hg8) (C := RX1) (T := TX1) (Nf := 7) rfl zi_X1 6 (by decide) rfl zm_112 rfl dX7_leaves_11 ?_
  refine zw_Vi X hAd (As := []) (rest := []) (d := 0) (i := 16 + g) (by omega) (zc_P hg8) (q := (RX4, TX4, 7)) rfl ⟨zm_292, zm_293, zm_294, zm_81, zm_295, rfl, by decide, by decide, (show (parseMethodDescriptor yX4_leafCount.desc).map (fun d => d.parameters.length) = some 0 by decide +kernel)⟩ (fun sz => c_leafCount hls hD hn σ g hg8 sz) rfl rfl (Nat.le_of_ble_eq_true rfl) ⟨Nat.le_of_ble_eq_true rfl, Nat.le_of_ble_eq_true rfl⟩ ⟨Nat.zero_le _, Nat.zero_le _⟩ dX7_leaves_14 ?_
  exact zw_iret X hr dX7_leaves_17 rfl rfl rfl

set_option maxHeartbeats 4000000 in
set_option maxRecDepth 100000 in
theorem c_town {l : Launch} (hls : l.stackTraces = false) {D : va_G} {cy : Nat → ClassId} {wa : Nat → Nat} {N n : Nat} {ad : Nat → Nat} (hD : zD n ad) (hn : 40 ≤ n) (σ : zS)  (sz : Nat) : Met l yX7_town (.code yX7_town cX7_town 1 (some .int) :: zB) (zRm 2) (zPc [.ref (ad 0)] D cy wa N n ad σ sz) (zQi (σ (0) 13) D cy N n ad (σ) sz) 0 0 (zA n ad sz) := by
  refine z_met (by decide) hls (List.forall_mem_cons.mpr ⟨rfl, (fun _ h => nomatch h)⟩) (Nat.le_of_ble_eq_true rfl) (fun p_ e_ s_ m_ below_ meth_ c_ hsz hr X => ?_)
  have X : zX p_ l s_ m_ [.ref (ad 0)].toArray meth_ c_ cX7_town 1 RX7 D cy wa (zA n ad sz) := X
  have hAd : ∀ i, i < n → zA n ad sz (ad i) := fun i hi => Or.inl ⟨i, hi, rfl⟩
  refine zw_run X (is := [(0, .aload_n 0, 1)]) (t' := (1, [some (.ref (ad 0))], [.ref (ad 0)])) ⟨dX7_town_0, trivial⟩ rfl ?_
  refine zw_getf X (i := 0) (by omega) zc_0 (C := RX7) (T := TX7) (Nf := 16) rfl zi_X7 13 (by decide) rfl zm_265 rfl dX7_town_1 ?_
  exact zw_iret X hr dX7_town_4 rfl rfl rfl

set_option maxHeartbeats 4000000 in
set_option maxRecDepth 100000 in
theorem c_wipe {l : Launch} (hls : l.stackTraces = false) {D : va_G} {cy : Nat → ClassId} {wa : Nat → Nat} {N n : Nat} {ad : Nat → Nat} (hD : zD n ad) (hn : 40 ≤ n) (σ : zS)  (sz : Nat) : Met l yX7_wipe (.code yX7_wipe cX7_wipe 2 (some .int) :: zB) (zRm 2) (zPc [.ref (ad 0)] D cy wa N n ad σ sz) (zQi (σ (4) 1) D cy N n ad (zu σ (4) 1 0) sz) 0 0 (zA n ad sz) := by
  refine z_met (by decide) hls (List.forall_mem_cons.mpr ⟨rfl, (fun _ h => nomatch h)⟩) (Nat.le_of_ble_eq_true rfl) (fun p_ e_ s_ m_ below_ meth_ c_ hsz hr X => ?_)
  have X : zX p_ l s_ m_ [.ref (ad 0)].toArray meth_ c_ cX7_wipe 2 RX7 D cy wa (zA n ad sz) := X
  have hAd : ∀ i, i < n → zA n ad sz (ad i) := fun i hi => Or.inl ⟨i, hi, rfl⟩
  refine zw_run X (is := [(0, .aload_n 0, 1)]) (t' := (1, [some (.ref (ad 0)), none], [.ref (ad 0)])) ⟨dX7_wipe_0, trivial⟩ rfl ?_
  refine zw_getf X (i := 0) (by omega) zc_0 (C := RX7) (T := TX7) (Nf := 16) rfl zi_X7 3 (by decide) rfl zm_27 rfl dX7_wipe_1 ?_
  refine zw_getf X (i := 4) (by omega) zc_4 (C := RX2) (T := TX2) (Nf := 2) rfl zi_X2 1 (by decide) rfl zm_223 rfl dX7_wipe_4 ?_
  refine zw_run X (is := [(7, .istore_n 1, 1), (8, .aload_n 0, 1)]) (t' := (9, [some (.ref (ad 0)), some (.int (σ (4) 1))], [.ref (ad 0)])) ⟨dX7_wipe_7, dX7_wipe_8, trivial⟩ rfl ?_
  refine zw_getf X (i := 0) (by omega) zc_0 (C := RX7) (T := TX7) (Nf := 16) rfl zi_X7 3 (by decide) rfl zm_27 rfl dX7_wipe_9 ?_
  refine zw_run X (is := [(12, .iconst 0, 1)]) (t' := (13, [some (.ref (ad 0)), some (.int (σ (4) 1))], [.int 0, .ref (ad 4)])) ⟨dX7_wipe_12, trivial⟩ rfl ?_
  refine zw_put X hD hAd (i := 4) (by omega) zc_4 (C := RX2) (T := TX2) (Nf := 2) rfl zi_X2 tyX2 tyX2_ok nmX2 1 (by decide) rfl rfl zm_223 (ty := .int) (by decide +kernel) rfl rfl (Nat.le_of_ble_eq_true rfl) zc_4 dX7_wipe_13 ?_
  refine zw_run X (is := [(16, .iload_n 1, 1)]) (t' := (17, [some (.ref (ad 0)), some (.int (σ (4) 1))], [.int (σ (4) 1)])) ⟨dX7_wipe_16, trivial⟩ rfl ?_
  exact zw_iret X hr dX7_wipe_17 rfl rfl rfl

set_option maxHeartbeats 4000000 in
set_option maxRecDepth 100000 in
theorem c_append {l : Launch} (hls : l.stackTraces = false) {D : va_G} {cy : Nat → ClassId} {wa : Nat → Nat} {N n : Nat} {ad : Nat → Nat} (hD : zD n ad) (hn : 40 ≤ n) (σ : zS) (k : Nat) (hk : k < 10) (e1 : σ 4 1 = nI k) (x : Int32) (hx : vp_nar .char x = x) (sz : Nat) : Met l yX2_append (.code yX2_append cX2_append 2 none :: zB) (zRm 0) (zPc [.ref (ad 4), .int x] D cy wa N n ad σ sz) (zQv D cy N n ad (zu (zu σ (5) k x) (4) 1 (((zu σ (5) k x) (4) 1) + 1)) sz) 0 0 (zA n ad sz) := by
  refine z_met (by decide) hls (List.forall_mem_cons.mpr ⟨rfl, (List.forall_mem_cons.mpr ⟨rfl, (fun _ h => nomatch h)⟩)⟩) (Nat.le_of_ble_eq_true rfl) (fun p_ e_ s_ m_ below_ meth_ c_ hsz hr X => ?_)
  have X : zX p_ l s_ m_ [.ref (ad 4), .int x].toArray meth_ c_ cX2_append 2 RX2 D cy wa (zA n ad sz) := X
  have hAd : ∀ i, i < n → zA n ad sz (ad i) := fun i hi => Or.inl ⟨i, hi, rfl⟩
  refine zw_run X (is := [(0, .aload_n 0, 1)]) (t' := (1, [some (.ref (ad 4)), some (.int x)], [.ref (ad 4)])) ⟨dX2_append_0, trivial⟩ rfl ?_
  refine zw_getf X (i := 4) (by omega) zc_4 (C := RX2) (T := TX2) (Nf := 2) rfl zi_X2 1 (by decide) rfl zm_166 rfl dX2_append_1 ?_
  refine zw_run X (is := [(4, .bipush 10, 2)]) (t' := (6, [some (.ref (ad 4)), some (.int x)], [.int 10, .int (σ (4) 1)])) ⟨dX2_append_4, trivial⟩ rfl ?_
  refine zw_icmp_ge X (tgt := 29) dX2_append_6 (by decide) (fun h_ => absurd h_ (by rw [e1]; exact nI_ge hk (by decide))) (fun _ => ?_)
  refine zw_run X (is := [(9, .aload_n 0, 1)]) (t' := (10, [some (.ref (ad 4)), some (.int x)], [.ref (ad 4)])) ⟨dX2_append_9, trivial⟩ rfl ?_
  refine zw_getf X (i := 4) (by omega) zc_4 (C := RX2) (T := TX2) (Nf := 2) rfl zi_X2 0 (by decide) rfl zm_55 rfl dX2_append_10 ?_
  refine zw_run X (is := [(13, .aload_n 0, 1)]) (t' := (14, [some (.ref (ad 4)), some (.int x)], [.ref (ad 4), .ref (ad 5)])) ⟨dX2_append_13, trivial⟩ rfl ?_
  refine zw_getf X (i := 4) (by omega) zc_4 (C := RX2) (T := TX2) (Nf := 2) rfl zi_X2 1 (by decide) rfl zm_166 rfl dX2_append_14 ?_
  refine zw_run X (is := [(17, .iload_n 1, 1)]) (t' := (18, [some (.ref (ad 4)), some (.int x)], [.int x, .int (σ (4) 1), .ref (ad 5)])) ⟨dX2_append_17, trivial⟩ rfl ?_
  refine zw_cast X hD hAd (i := 5) (by omega) (len := 10) (fun _ => zc_5) (j := k) e1 hk (by decide) hx dX2_append_18 ?_
  refine zw_run X (is := [(19, .aload_n 0, 1), (20, .dup, 1)]) (t' := (21, [some (.ref (ad 4)), some (.int x)], [.ref (ad 4), .ref (ad 4)])) ⟨dX2_append_19, dX2_append_20, trivial⟩ rfl ?_
  refine zw_getf X (i := 4) (by omega) zc_4 (C := RX2) (T := TX2) (Nf := 2) rfl zi_X2 1 (by decide) rfl zm_166 rfl dX2_append_21 ?_
  refine zw_run X (is := [(24, .iconst 1, 1), (25, .iadd, 1)]) (t' := (26, [some (.ref (ad 4)), some (.int x)], [.int (((zu σ (5) k x) (4) 1) + 1), .ref (ad 4)])) ⟨dX2_append_24, dX2_append_25, trivial⟩ rfl ?_
  refine zw_put X hD hAd (i := 4) (by omega) zc_4 (C := RX2) (T := TX2) (Nf := 2) rfl zi_X2 tyX2 tyX2_ok nmX2 1 (by decide) rfl rfl zm_166 (ty := .int) (by decide +kernel) rfl rfl (Nat.le_of_ble_eq_true rfl) zc_4 dX2_append_26 ?_
  exact zw_vret X hr dX2_append_29 rfl rfl

set_option maxHeartbeats 4000000 in
set_option maxRecDepth 100000 in
theorem c_type {l : Launch} (hls : l.stackTraces = false) {D : va_G} {cy : Nat → ClassId} {wa : Nat → Nat} {N n : Nat} {ad : Nat → Nat} (hD : zD n ad) (hn : 40 ≤ n) (σ : zS) (k : Nat) (hk : k < 10) (e1 : σ 4 1 = nI k) (x : Int32) (h1 : ¬ x < 97) (h2 : x ≤ 122) (hx : vp_nar .char x = x) (sz : Nat) : Met l yX7_type (.code yX7_type cX7_type 2 (some .int) :: zB) (zRm 2) (zPc [.ref (ad 0), .int x] D cy wa N n ad σ sz) (zQi (nI (k + 1)) D cy N n ad (zu (zu σ (5) k x) (4) 1 (zu σ (5) k x (4) 1 + 1)) sz) 0 0 (zA n ad sz) := by
  refine z_met (by decide) hls (List.forall_mem_cons.mpr ⟨rfl, (List.forall_mem_cons.mpr ⟨rfl, (fun _ h => nomatch h)⟩)⟩) (Nat.le_of_ble_eq_true rfl) (fun p_ e_ s_ m_ below_ meth_ c_ hsz hr X => ?_)
  have X : zX p_ l s_ m_ [.ref (ad 0), .int x].toArray meth_ c_ cX7_type 2 RX7 D cy wa (zA n ad sz) := X
  have hAd : ∀ i, i < n → zA n ad sz (ad i) := fun i hi => Or.inl ⟨i, hi, rfl⟩
  refine zw_run X (is := [(0, .iload_n 1, 1), (1, .bipush 97, 2)]) (t' := (3, [some (.ref (ad 0)), some (.int x)], [.int 97, .int x])) ⟨dX7_type_0, dX7_type_1, trivial⟩ rfl ?_
  refine zw_icmp_lt X (tgt := 12) dX7_type_3 (by decide) (fun h_ => absurd h_ h1) (fun _ => ?_)
  refine zw_run X (is := [(6, .iload_n 1, 1), (7, .bipush 122, 2)]) (t' := (9, [some (.ref (ad 0)), some (.int x)], [.int 122, .int x])) ⟨dX7_type_6, dX7_type_7, trivial⟩ rfl ?_
  refine zw_icmp_le X (tgt := 22) dX7_type_9 (by decide) (fun _ => ?_) (fun h_ => absurd h2 h_)
  refine zw_run X (is := [(22, .aload_n 0, 1)]) (t' := (23, [some (.ref (ad 0)), some (.int x)], [.ref (ad 0)])) ⟨dX7_type_22, trivial⟩ rfl ?_
  refine zw_getf X (i := 0) (by omega) zc_0 (C := RX7) (T := TX7) (Nf := 16) rfl zi_X7 3 (by decide) rfl zm_27 rfl dX7_type_23 ?_
  refine zw_getf X (i := 4) (by omega) zc_4 (C := RX2) (T := TX2) (Nf := 2) rfl zi_X2 1 (by decide) rfl zm_223 rfl dX7_type_26 ?_
  refine zw_run X (is := [(29, .bipush 10, 2)]) (t' := (31, [some (.ref (ad 0)), some (.int x)], [.int 10, .int (σ (4) 1)])) ⟨dX7_type_29, trivial⟩ rfl ?_
  refine zw_icmp_lt X (tgt := 44) dX7_type_31 (by decide) (fun _ => ?_) (fun h_ => absurd (by rw [e1]; exact nI_lt hk (by decide)) h_)
  refine zw_run X (is := [(44, .aload_n 0, 1)]) (t' := (45, [some (.ref (ad 0)), some (.int x)], [.ref (ad 0)])) ⟨dX7_type_44, trivial⟩ rfl ?_
  refine zw_getf X (i := 0) (by omega) zc_0 (C := RX7) (T := TX7) (Nf := 16) rfl zi_X7 3 (by decide) rfl zm_27 rfl dX7_type_45 ?_
  refine zw_run X (is := [(48, .iload_n 1, 1)]) (t' := (49, [some (.ref (ad 0)), some (.int x)], [.int x, .ref (ad 4)])) ⟨dX7_type_48, trivial⟩ rfl ?_
  refine zw_Vv X hAd (As := [.int x]) (rest := []) (d := 0) (i := 4) (by omega) zc_4 (q := (RX2, TX2, 2)) rfl ⟨zm_224, zm_225, zm_226, zm_26, zm_227, rfl, by decide, by decide, (show (parseMethodDescriptor yX2_append.desc).map (fun d => d.parameters.length) = some 1 by decide +kernel)⟩ (fun sz => c_append hls hD hn σ k hk e1 x hx sz) rfl rfl (Nat.le_of_ble_eq_true rfl) ⟨Nat.le_of_ble_eq_true rfl, Nat.le_of_ble_eq_true rfl⟩ ⟨Nat.zero_le _, Nat.zero_le _⟩ dX7_type_49 ?_
  refine zw_run X (is := [(52, .aload_n 0, 1)]) (t' := (53, [some (.ref (ad 0)), some (.int x)], [.ref (ad 0)])) ⟨dX7_type_52, trivial⟩ rfl ?_
  refine zw_getf X (i := 0) (by omega) zc_0 (C := RX7) (T := TX7) (Nf := 16) rfl zi_X7 3 (by decide) rfl zm_27 rfl dX7_type_53 ?_
  refine zw_getf X (i := 4) (by omega) zc_4 (C := RX2) (T := TX2) (Nf := 2) rfl zi_X2 1 (by decide) rfl zm_223 rfl dX7_type_56 ?_
  exact zw_iret X hr dX7_type_59 rfl (by rw [zu_s, zu_n (by omega), e1, nI_1]) rfl

set_option maxHeartbeats 4000000 in
set_option maxRecDepth 100000 in
theorem c_type_bad {l : Launch} (hls : l.stackTraces = false) {D : va_G} {cy : Nat → ClassId} {wa : Nat → Nat} {N n : Nat} {ad : Nat → Nat} (hD : zD n ad) (hn : 40 ≤ n) (σ : zS) (x : Int32) (h1 : x < 97) (sz : Nat) : vx_Met l yX7_type (.code yX7_type cX7_type 2 (some .int) :: zB) (zRx 2) (zPc [.ref (ad 0), .int x] D cy wa N n ad σ sz) zNo (zXC "java/lang/IllegalArgumentException" D cy N n ad (σ) sz) 1 6 (zA n ad sz) := by
  refine z_metx (by decide) hls (List.forall_mem_cons.mpr ⟨rfl, (List.forall_mem_cons.mpr ⟨rfl, (fun _ h => nomatch h)⟩)⟩) (Nat.le_of_ble_eq_true rfl) (fun p_ e_ s_ m_ below_ meth_ c_ hsz hr hno X => ?_)
  have X : zX p_ l s_ m_ [.ref (ad 0), .int x].toArray meth_ c_ cX7_type 2 RX7 D cy wa (zA n ad sz) := X
  have hAd : ∀ i, i < n → zA n ad sz (ad i) := fun i hi => Or.inl ⟨i, hi, rfl⟩
  refine zw_run X (is := [(0, .iload_n 1, 1), (1, .bipush 97, 2)]) (t' := (3, [some (.ref (ad 0)), some (.int x)], [.int 97, .int x])) ⟨dX7_type_0, dX7_type_1, trivial⟩ rfl ?_
  refine zw_icmp_lt X (tgt := 12) dX7_type_3 (by decide) (fun _ => ?_) (fun h_ => absurd h1 h_)
  exact zw_throw X hno zTh_iae (is := 125) (text := "no small letter") (by decide +kernel) rfl rfl dX7_type_12 dX7_type_15 dX7_type_16 dX7_type_18 dX7_type_21 ⟨Nat.le_of_ble_eq_true rfl, Nat.le_of_ble_eq_true rfl, Nat.le_of_ble_eq_true rfl, Nat.le_of_ble_eq_true rfl⟩ ⟨rfl, rfl⟩

set_option maxHeartbeats 4000000 in
set_option maxRecDepth 100000 in
theorem c_needStations_x {l : Launch} (hls : l.stackTraces = false) {D : va_G} {cy : Nat → ClassId} {wa : Nat → Nat} {N n : Nat} {ad : Nat → Nat} (hD : zD n ad) (hn : 40 ≤ n) (σ : zS) (e3 : σ 3 2 = 0) (sz : Nat) : vx_Met l yX7_needStations (.code yX7_needStations cX7_needStations 1 none :: zB) (zRx 0) (zPc [.ref (ad 0)] D cy wa N n ad σ sz) zNo (zXC "java/lang/IllegalStateException" D cy N n ad (σ) sz) 1 6 (zA n ad sz) := by
  refine z_metx (by decide) hls (List.forall_mem_cons.mpr ⟨rfl, (fun _ h => nomatch h)⟩) (Nat.le_of_ble_eq_true rfl) (fun p_ e_ s_ m_ below_ meth_ c_ hsz hr hno X => ?_)
  have X : zX p_ l s_ m_ [.ref (ad 0)].toArray meth_ c_ cX7_needStations 1 RX7 D cy wa (zA n ad sz) := X
  have hAd : ∀ i, i < n → zA n ad sz (ad i) := fun i hi => Or.inl ⟨i, hi, rfl⟩
  refine zw_run X (is := [(0, .aload_n 0, 1)]) (t' := (1, [some (.ref (ad 0))], [.ref (ad 0)])) ⟨dX7_needStations_0, trivial⟩ rfl ?_
  refine zw_getf X (i := 0) (by omega) zc_0 (C := RX7) (T := TX7) (Nf := 16) rfl zi_X7 2 (by decide) rfl zm_23 rfl dX7_needStations_1 ?_
  refine zw_getf X (i := 3) (by omega) zc_3 (C := RX0) (T := TX0) (Nf := 3) rfl zi_X0 2 (by decide) rfl zm_364 rfl dX7_needStations_4 ?_
  refine zw_if_ne X (tgt := 21) dX7_needStations_7 (by decide) (fun h_ => absurd e3 h_) (fun h_ => ?_)
  exact zw_throwW X hno zTh_ise (is := 362) (text := "there are no stations") (by decide +kernel) rfl rfl dX7_needStations_10 dX7_needStations_13 dX7_needStations_14 dX7_needStations_17 dX7_needStations_20 ⟨Nat.le_of_ble_eq_true rfl, Nat.le_of_ble_eq_true rfl, Nat.le_of_ble_eq_true rfl, Nat.le_of_ble_eq_true rfl⟩ ⟨rfl, rfl⟩

set_option maxHeartbeats 4000000 in
set_option maxRecDepth 100000 in
theorem c_needDayPlayed_x {l : Launch} (hls : l.stackTraces = false) {D : va_G} {cy : Nat → ClassId} {wa : Nat → Nat} {N n : Nat} {ad : Nat → Nat} (hD : zD n ad) (hn : 40 ≤ n) (σ : zS) (e4 : σ 0 15 = 0) (sz : Nat) : vx_Met l yX7_needDayPlayed (.code yX7_needDayPlayed cX7_needDayPlayed 1 none :: zB) (zRx 0) (zPc [.ref (ad 0)] D cy wa N n ad σ sz) zNo (zXC "java/lang/IllegalStateException" D cy N n ad (σ) sz) 1 6 (zA n ad sz) := by
  refine z_metx (by decide) hls (List.forall_mem_cons.mpr ⟨rfl, (fun _ h => nomatch h)⟩) (Nat.le_of_ble_eq_true rfl) (fun p_ e_ s_ m_ below_ meth_ c_ hsz hr hno X => ?_)
  have X : zX p_ l s_ m_ [.ref (ad 0)].toArray meth_ c_ cX7_needDayPlayed 1 RX7 D cy wa (zA n ad sz) := X
  have hAd : ∀ i, i < n → zA n ad sz (ad i) := fun i hi => Or.inl ⟨i, hi, rfl⟩
  refine zw_run X (is := [(0, .aload_n 0, 1)]) (t' := (1, [some (.ref (ad 0))], [.ref (ad 0)])) ⟨dX7_needDayPlayed_0, trivial⟩ rfl ?_
  refine zw_getf X (i := 0) (by omega) zc_0 (C := RX7) (T := TX7) (Nf := 16) rfl zi_X7 15 (by decide) rfl zm_363 rfl dX7_needDayPlayed_1 ?_
  refine zw_if_ne X (tgt := 18) dX7_needDayPlayed_4 (by decide) (fun h_ => absurd e4 h_) (fun h_ => ?_)
  exact zw_throwW X hno zTh_ise (is := 364) (text := "no day was played in this year") (by decide +kernel) rfl rfl dX7_needDayPlayed_7 dX7_needDayPlayed_10 dX7_needDayPlayed_11 dX7_needDayPlayed_14 dX7_needDayPlayed_17 ⟨Nat.le_of_ble_eq_true rfl, Nat.le_of_ble_eq_true rfl, Nat.le_of_ble_eq_true rfl, Nat.le_of_ble_eq_true rfl⟩ ⟨rfl, rfl⟩

set_option maxHeartbeats 4000000 in
set_option maxRecDepth 100000 in
theorem c_day_x {l : Launch} (hls : l.stackTraces = false) {D : va_G} {cy : Nat → ClassId} {wa : Nat → Nat} {N n : Nat} {ad : Nat → Nat} (hD : zD n ad) (hn : 40 ≤ n) (σ : zS) (e3 : σ 3 2 = 0) (sz : Nat) : vx_Met l yX7_day (.code yX7_day cX7_day 2 (some .int) :: zB) (zRx 2) (zPc [.ref (ad 0)] D cy wa N n ad σ sz) zNo (zXC "java/lang/IllegalStateException" D cy N n ad (σ) sz) 1 6 (zA n ad sz) := by
  refine z_metx (by decide) hls (List.forall_mem_cons.mpr ⟨rfl, (fun _ h => nomatch h)⟩) (Nat.le_of_ble_eq_true rfl) (fun p_ e_ s_ m_ below_ meth_ c_ hsz hr hno X => ?_)
  have X : zX p_ l s_ m_ [.ref (ad 0)].toArray meth_ c_ cX7_day 2 RX7 D cy wa (zA n ad sz) := X
  have hAd : ∀ i, i < n → zA n ad sz (ad i) := fun i hi => Or.inl ⟨i, hi, rfl⟩
  refine zw_run X (is := [(0, .aload_n 0, 1)]) (t' := (1, [some (.ref (ad 0)), none], [.ref (ad 0)])) ⟨dX7_day_0, trivial⟩ rfl ?_
  exact zw_Vo X hno hAd rfl (As := []) (rest := []) (d := 0) (i := 0) (by omega) zc_0 (q := (RX7, TX7, 16)) rfl ⟨zm_420, zm_421, zm_422, zm_2, zm_423, rfl, by decide, by decide, (show (parseMethodDescriptor yX7_needStations.desc).map (fun d => d.parameters.length) = some 0 by decide +kernel)⟩ (fun sz => c_needStations_x hls hD hn σ e3 sz) rfl rfl (Nat.le_of_ble_eq_true rfl) ⟨Nat.le_of_ble_eq_true rfl, Nat.le_of_ble_eq_true rfl⟩ ⟨Nat.le_of_ble_eq_true rfl, Nat.le_of_ble_eq_true rfl⟩ dX7_day_1

set_option maxHeartbeats 4000000 in
set_option maxRecDepth 100000 in
theorem c_foresee_x {l : Launch} (hls : l.stackTraces = false) {D : va_G} {cy : Nat → ClassId} {wa : Nat → Nat} {N n : Nat} {ad : Nat → Nat} (hD : zD n ad) (hn : 40 ≤ n) (σ : zS) (e3 : σ 3 2 = 0) (sz : Nat) : vx_Met l yX7_foresee (.code yX7_foresee cX7_foresee 1 (some .int) :: zB) (zRx 2) (zPc [.ref (ad 0)] D cy wa N n ad σ sz) zNo (zXC "java/lang/IllegalStateException" D cy N n ad (σ) sz) 1 6 (zA n ad sz) := by
  refine z_metx (by decide) hls (List.forall_mem_cons.mpr ⟨rfl, (fun _ h => nomatch h)⟩) (Nat.le_of_ble_eq_true rfl) (fun p_ e_ s_ m_ below_ meth_ c_ hsz hr hno X => ?_)
  have X : zX p_ l s_ m_ [.ref (ad 0)].toArray meth_ c_ cX7_foresee 1 RX7 D cy wa (zA n ad sz) := X
  have hAd : ∀ i, i < n → zA n ad sz (ad i) := fun i hi => Or.inl ⟨i, hi, rfl⟩
  refine zw_run X (is := [(0, .aload_n 0, 1)]) (t' := (1, [some (.ref (ad 0))], [.ref (ad 0)])) ⟨dX7_foresee_0, trivial⟩ rfl ?_
  exact zw_Vo X hno hAd rfl (As := []) (rest := []) (d := 0) (i := 0) (by omega) zc_0 (q := (RX7, TX7, 16)) rfl ⟨zm_420, zm_421, zm_422, zm_2, zm_423, rfl, by decide, by decide, (show (parseMethodDescriptor yX7_needStations.desc).map (fun d => d.parameters.length) = some 0 by decide +kernel)⟩ (fun sz => c_needStations_x hls hD hn σ e3 sz) rfl rfl (Nat.le_of_ble_eq_true rfl) ⟨Nat.le_of_ble_eq_true rfl, Nat.le_of_ble_eq_true rfl⟩ ⟨Nat.le_of_ble_eq_true rfl, Nat.le_of_ble_eq_true rfl⟩ dX7_foresee_1

set_option maxHeartbeats 4000000 in
set_option maxRecDepth 100000 in
theorem c_end_x {l : Launch} (hls : l.stackTraces = false) {D : va_G} {cy : Nat → ClassId} {wa : Nat → Nat} {N n : Nat} {ad : Nat → Nat} (hD : zD n ad) (hn : 40 ≤ n) (σ : zS) (e4 : σ 0 15 = 0) (sz : Nat) : vx_Met l yX7_end (.code yX7_end cX7_end 1 (some .int) :: zB) (zRx 2) (zPc [.ref (ad 0)] D cy wa N n ad σ sz) zNo (zXC "java/lang/IllegalStateException" D cy N n ad (σ) sz) 1 6 (zA n ad sz) := by
  refine z_metx (by decide) hls (List.forall_mem_cons.mpr ⟨rfl, (fun _ h => nomatch h)⟩) (Nat.le_of_ble_eq_true rfl) (fun p_ e_ s_ m_ below_ meth_ c_ hsz hr hno X => ?_)
  have X : zX p_ l s_ m_ [.ref (ad 0)].toArray meth_ c_ cX7_end 1 RX7 D cy wa (zA n ad sz) := X
  have hAd : ∀ i, i < n → zA n ad sz (ad i) := fun i hi => Or.inl ⟨i, hi, rfl⟩
  refine zw_run X (is := [(0, .aload_n 0, 1)]) (t' := (1, [some (.ref (ad 0))], [.ref (ad 0)])) ⟨dX7_end_0, trivial⟩ rfl ?_
  exact zw_Vo X hno hAd rfl (As := []) (rest := []) (d := 0) (i := 0) (by omega) zc_0 (q := (RX7, TX7, 16)) rfl ⟨zm_452, zm_453, zm_454, zm_2, zm_455, rfl, by decide, by decide, (show (parseMethodDescriptor yX7_needDayPlayed.desc).map (fun d => d.parameters.length) = some 0 by decide +kernel)⟩ (fun sz => c_needDayPlayed_x hls hD hn σ e4 sz) rfl rfl (Nat.le_of_ble_eq_true rfl) ⟨Nat.le_of_ble_eq_true rfl, Nat.le_of_ble_eq_true rfl⟩ ⟨Nat.le_of_ble_eq_true rfl, Nat.le_of_ble_eq_true rfl⟩ dX7_end_1
