set_option maxHeartbeats 4000000 in
set_option maxRecDepth 100000 in
theorem c_addGuild {l : Launch} (hls : l.stackTraces = false) {D : va_G} {cy : Nat → ClassId} {wa : Nat → Nat} {N n : Nat} {ad : Nat → Nat} (hD : zD n ad) (hn : 40 ≤ n) (σ : zS) (gc : Nat) (hgc : gc < 8) (e0 : σ 0 11 = nI gc) (x y z : Int32) (h1 : ¬ x < 0) (h2 : x ≤ 9999) (h3 : ¬ y < 20) (h4 : y ≤ 400) (h5 : ¬ z < 1) (h6 : z ≤ 8)  (sz : Nat) : Met l yX7_addGuild (.code yX7_addGuild cX7_addGuild 6 (some .int) :: zB) (zRm 2) (zPc [.ref (ad 0), .int x, .int y, .int z] D cy wa N n ad σ sz) (zQi (nI gc) D cy N n ad (zu (zu (zu (zu (zu (zu (zu σ (8 + gc) 0 x) (16 + gc) 0 y) (16 + gc) 4 y) (16 + gc) 1 z) (0) 14 (((zu (zu (zu (zu σ (8 + gc) 0 x) (16 + gc) 0 y) (16 + gc) 4 y) (16 + gc) 1 z) (0) 14) + x)) (2) gc (nI gc)) (0) 11 (((zu (zu (zu (zu (zu (zu σ (8 + gc) 0 x) (16 + gc) 0 y) (16 + gc) 4 y) (16 + gc) 1 z) (0) 14 (((zu (zu (zu (zu σ (8 + gc) 0 x) (16 + gc) 0 y) (16 + gc) 4 y) (16 + gc) 1 z) (0) 14) + x)) (2) gc (nI gc)) (0) 11) + 1)) sz) 0 0 (zA n ad sz) := by
  refine z_met (by decide) hls (List.forall_mem_cons.mpr ⟨rfl, (List.forall_mem_cons.mpr ⟨rfl, (List.forall_mem_cons.mpr ⟨rfl, (List.forall_mem_cons.mpr ⟨rfl, (fun _ h => nomatch h)⟩)⟩)⟩)⟩) (Nat.le_of_ble_eq_true rfl) (fun p_ e_ s_ m_ below_ meth_ c_ hsz hr X => ?_)
  have X : zX p_ l s_ m_ [.ref (ad 0), .int x, .int y, .int z].toArray meth_ c_ cX7_addGuild 6 RX7 D cy wa (zA n ad sz) := X
  have hAd : ∀ i, i < n → zA n ad sz (ad i) := fun i hi => Or.inl ⟨i, hi, rfl⟩
  refine zw_run X (is := [(0, .iload_n 1, 1), (1, .iconst 0, 1), (2, .sipush 9999, 3)]) (t' := (5, [some (.ref (ad 0)), some (.int x), some (.int y), some (.int z), none, none], [.int 9999, .int 0, .int x])) ⟨dX7_addGuild_0, dX7_addGuild_1, dX7_addGuild_2, trivial⟩ rfl ?_
  refine zw_Sv X hAd (As := [.int x, .int 0, .int 9999]) (rest := []) (d := 0) ⟨zm_114, zm_115, zm_2, zm_116, by decide, by decide, (show (parseMethodDescriptor yX7_needRange.desc).map (fun d => d.parameters.length) = some 3 by decide +kernel)⟩ (fun sz => c_needRange hls hD hn σ x 0 9999 h1 h2 sz) rfl rfl (Nat.le_of_ble_eq_true rfl) ⟨Nat.le_of_ble_eq_true rfl, Nat.le_of_ble_eq_true rfl⟩ ⟨Nat.zero_le _, Nat.zero_le _⟩ dX7_addGuild_5 ?_
  refine zw_run X (is := [(8, .iload_n 2, 1), (9, .bipush 20, 2), (11, .sipush 400, 3)]) (t' := (14, [some (.ref (ad 0)), some (.int x), some (.int y), some (.int z), none, none], [.int 400, .int 20, .int y])) ⟨dX7_addGuild_8, dX7_addGuild_9, dX7_addGuild_11, trivial⟩ rfl ?_
  refine zw_Sv X hAd (As := [.int y, .int 20, .int 400]) (rest := []) (d := 0) ⟨zm_114, zm_115, zm_2, zm_116, by decide, by decide, (show (parseMethodDescriptor yX7_needRange.desc).map (fun d => d.parameters.length) = some 3 by decide +kernel)⟩ (fun sz => c_needRange hls hD hn σ y 20 400 h3 h4 sz) rfl rfl (Nat.le_of_ble_eq_true rfl) ⟨Nat.le_of_ble_eq_true rfl, Nat.le_of_ble_eq_true rfl⟩ ⟨Nat.zero_le _, Nat.zero_le _⟩ dX7_addGuild_14 ?_
  refine zw_run X (is := [(17, .iload_n 3, 1), (18, .iconst 1, 1), (19, .bipush 8, 2)]) (t' := (21, [some (.ref (ad 0)), some (.int x), some (.int y), some (.int z), none, none], [.int 8, .int 1, .int z])) ⟨dX7_addGuild_17, dX7_addGuild_18, dX7_addGuild_19, trivial⟩ rfl ?_
  refine zw_Sv X hAd (As := [.int z, .int 1, .int 8]) (rest := []) (d := 0) ⟨zm_114, zm_115, zm_2, zm_116, by decide, by decide, (show (parseMethodDescriptor yX7_needRange.desc).map (fun d => d.parameters.length) = some 3 by decide +kernel)⟩ (fun sz => c_needRange hls hD hn σ z 1 8 h5 h6 sz) rfl rfl (Nat.le_of_ble_eq_true rfl) ⟨Nat.le_of_ble_eq_true rfl, Nat.le_of_ble_eq_true rfl⟩ ⟨Nat.zero_le _, Nat.zero_le _⟩ dX7_addGuild_21 ?_
  refine zw_run X (is := [(24, .aload_n 0, 1)]) (t' := (25, [some (.ref (ad 0)), some (.int x), some (.int y), some (.int z), none, none], [.ref (ad 0)])) ⟨dX7_addGuild_24, trivial⟩ rfl ?_
  refine zw_getf X (i := 0) (by omega) zc_0 (C := RX7) (T := TX7) (Nf := 16) rfl zi_X7 11 (by decide) rfl zm_110 rfl dX7_addGuild_25 ?_
  rw [e0]
  refine zw_run X (is := [(28, .bipush 8, 2)]) (t' := (30, [some (.ref (ad 0)), some (.int x), some (.int y), some (.int z), none, none], [.int 8, .int (nI gc)])) ⟨dX7_addGuild_28, trivial⟩ rfl ?_
  refine zw_icmp_lt X (tgt := 43) dX7_addGuild_30 (by decide) (fun _ => ?_) (fun h_ => absurd (nI_lt hgc (by decide)) h_)
  refine zw_run X (is := [(43, .aload_n 0, 1)]) (t' := (44, [some (.ref (ad 0)), some (.int x), some (.int y), some (.int z), none, none], [.ref (ad 0)])) ⟨dX7_addGuild_43, trivial⟩ rfl ?_
  refine zw_getf X (i := 0) (by omega) zc_0 (C := RX7) (T := TX7) (Nf := 16) rfl zi_X7 11 (by decide) rfl zm_110 rfl dX7_addGuild_44 ?_
  rw [e0]
  refine zw_run X (is := [(47, .istore 4, 2), (49, .aload_n 0, 1)]) (t' := (50, [some (.ref (ad 0)), some (.int x), some (.int y), some (.int z), some (.int (nI gc)), none], [.ref (ad 0)])) ⟨dX7_addGuild_47, dX7_addGuild_49, trivial⟩ rfl ?_
  refine zw_getf X (i := 0) (by omega) zc_0 (C := RX7) (T := TX7) (Nf := 16) rfl zi_X7 0 (by decide) rfl zm_18 rfl dX7_addGuild_50 ?_
  refine zw_run X (is := [(53, .iload 4, 2)]) (t' := (55, [some (.ref (ad 0)), some (.int x), some (.int y), some (.int z), some (.int (nI gc)), none], [.int (nI gc), .ref (ad 1)])) ⟨dX7_addGuild_53, trivial⟩ rfl ?_
  refine zw_guild X (by omega) (g := gc) rfl hgc dX7_addGuild_55 ?_
  refine zw_run X (is := [(56, .astore 5, 2), (58, .aload 5, 2), (60, .iload_n 1, 1)]) (t' := (61, [some (.ref (ad 0)), some (.int x), some (.int y), some (.int z), some (.int (nI gc)), some (.ref (ad (8 + gc)))], [.int x, .ref (ad (8 + gc))])) ⟨dX7_addGuild_56, dX7_addGuild_58, dX7_addGuild_60, trivial⟩ rfl ?_
  refine zw_put X hD hAd (i := 8 + gc) (by omega) (zc_G hgc) (C := RX1) (T := TX1) (Nf := 7) rfl zi_X1 tyX1 tyX1_ok nmX1 0 (by decide) rfl rfl zm_111 (ty := .int) (by decide +kernel) rfl rfl (Nat.le_of_ble_eq_true rfl) (zc_G hgc) dX7_addGuild_61 ?_
  refine zw_run X (is := [(64, .aload 5, 2)]) (t' := (66, [some (.ref (ad 0)), some (.int x), some (.int y), some (.int z), some (.int (nI gc)), some (.ref (ad (8 + gc)))], [.ref (ad (8 + gc))])) ⟨dX7_addGuild_64, trivial⟩ rfl ?_
  refine zw_getf X (i := 8 + gc) (by omega) (zc_G hgc) (C := RX1) (T := TX1) (Nf := 7) rfl zi_X1 6 (by decide) rfl zm_112 rfl dX7_addGuild_66 ?_
  refine zw_run X (is := [(69, .iload_n 2, 1), (70, .iload_n 3, 1)]) (t' := (71, [some (.ref (ad 0)), some (.int x), some (.int y), some (.int z), some (.int (nI gc)), some (.ref (ad (8 + gc)))], [.int z, .int y, .ref (ad (16 + gc))])) ⟨dX7_addGuild_69, dX7_addGuild_70, trivial⟩ rfl ?_
  refine zw_Vv X hAd (As := [.int y, .int z]) (rest := []) (d := 0) (i := 16 + gc) (by omega) (zc_P hgc) (q := (RX4, TX4, 7)) rfl ⟨zm_119, zm_120, zm_121, zm_81, zm_122, rfl, by decide, by decide, (show (parseMethodDescriptor yX4_write.desc).map (fun d => d.parameters.length) = some 2 by decide +kernel)⟩ (fun sz => c_write hls hD hn (zu σ (8 + gc) 0 x) gc hgc y z sz) rfl rfl (Nat.le_of_ble_eq_true rfl) ⟨Nat.le_of_ble_eq_true rfl, Nat.le_of_ble_eq_true rfl⟩ ⟨Nat.zero_le _, Nat.zero_le _⟩ dX7_addGuild_71 ?_
  refine zw_run X (is := [(74, .aload_n 0, 1), (75, .dup, 1)]) (t' := (76, [some (.ref (ad 0)), some (.int x), some (.int y), some (.int z), some (.int (nI gc)), some (.ref (ad (8 + gc)))], [.ref (ad 0), .ref (ad 0)])) ⟨dX7_addGuild_74, dX7_addGuild_75, trivial⟩ rfl ?_
  refine zw_getf X (i := 0) (by omega) zc_0 (C := RX7) (T := TX7) (Nf := 16) rfl zi_X7 14 (by decide) rfl zm_113 rfl dX7_addGuild_76 ?_
  refine zw_run X (is := [(79, .iload_n 1, 1), (80, .iadd, 1)]) (t' := (81, [some (.ref (ad 0)), some (.int x), some (.int y), some (.int z), some (.int (nI gc)), some (.ref (ad (8 + gc)))], [.int (((zu (zu (zu (zu σ (8 + gc) 0 x) (16 + gc) 0 y) (16 + gc) 4 y) (16 + gc) 1 z) (0) 14) + x), .ref (ad 0)])) ⟨dX7_addGuild_79, dX7_addGuild_80, trivial⟩ rfl ?_
  refine zw_put X hD hAd (i := 0) (by omega) zc_0 (C := RX7) (T := TX7) (Nf := 16) rfl zi_X7 tyX7 tyX7_ok nmX7 14 (by decide) rfl rfl zm_113 (ty := .int) (by decide +kernel) rfl rfl (Nat.le_of_ble_eq_true rfl) zc_0 dX7_addGuild_81 ?_
  refine zw_run X (is := [(84, .aload_n 0, 1)]) (t' := (85, [some (.ref (ad 0)), some (.int x), some (.int y), some (.int z), some (.int (nI gc)), some (.ref (ad (8 + gc)))], [.ref (ad 0)])) ⟨dX7_addGuild_84, trivial⟩ rfl ?_
  refine zw_getf X (i := 0) (by omega) zc_0 (C := RX7) (T := TX7) (Nf := 16) rfl zi_X7 1 (by decide) rfl zm_19 rfl dX7_addGuild_85 ?_
  refine zw_run X (is := [(88, .iload 4, 2), (90, .iload 4, 2)]) (t' := (92, [some (.ref (ad 0)), some (.int x), some (.int y), some (.int z), some (.int (nI gc)), some (.ref (ad (8 + gc)))], [.int (nI gc), .int (nI gc), .ref (ad 2)])) ⟨dX7_addGuild_88, dX7_addGuild_90, trivial⟩ rfl ?_
  refine zw_iast X hD hAd (i := 2) (by omega) (len := 8) (fun _ => zc_2) (j := gc) rfl hgc (by decide) dX7_addGuild_92 ?_
  refine zw_run X (is := [(93, .aload_n 0, 1), (94, .dup, 1)]) (t' := (95, [some (.ref (ad 0)), some (.int x), some (.int y), some (.int z), some (.int (nI gc)), some (.ref (ad (8 + gc)))], [.ref (ad 0), .ref (ad 0)])) ⟨dX7_addGuild_93, dX7_addGuild_94, trivial⟩ rfl ?_
  refine zw_getf X (i := 0) (by omega) zc_0 (C := RX7) (T := TX7) (Nf := 16) rfl zi_X7 11 (by decide) rfl zm_110 rfl dX7_addGuild_95 ?_
  refine zw_run X (is := [(98, .iconst 1, 1), (99, .iadd, 1)]) (t' := (100, [some (.ref (ad 0)), some (.int x), some (.int y), some (.int z), some (.int (nI gc)), some (.ref (ad (8 + gc)))], [.int (((zu (zu (zu (zu (zu (zu σ (8 + gc) 0 x) (16 + gc) 0 y) (16 + gc) 4 y) (16 + gc) 1 z) (0) 14 (((zu (zu (zu (zu σ (8 + gc) 0 x) (16 + gc) 0 y) (16 + gc) 4 y) (16 + gc) 1 z) (0) 14) + x)) (2) gc (nI gc)) (0) 11) + 1), .ref (ad 0)])) ⟨dX7_addGuild_98, dX7_addGuild_99, trivial⟩ rfl ?_
  refine zw_put X hD hAd (i := 0) (by omega) zc_0 (C := RX7) (T := TX7) (Nf := 16) rfl zi_X7 tyX7 tyX7_ok nmX7 11 (by decide) rfl rfl zm_110 (ty := .int) (by decide +kernel) rfl rfl (Nat.le_of_ble_eq_true rfl) zc_0 dX7_addGuild_100 ?_
  refine zw_run X (is := [(103, .iload 4, 2)]) (t' := (105, [some (.ref (ad 0)), some (.int x), some (.int y), some (.int z), some (.int (nI gc)), some (.ref (ad (8 + gc)))], [.int (nI gc)])) ⟨dX7_addGuild_103, trivial⟩ rfl ?_
  exact zw_iret X hr dX7_addGuild_105 rfl rfl rfl

set_option maxHeartbeats 4000000 in
set_option maxRecDepth 100000 in
theorem c_addGuild_w {l : Launch} (hls : l.stackTraces = false) {D : va_G} {cy : Nat → ClassId} {wa : Nat → Nat} {N n : Nat} {ad : Nat → Nat} (hD : zD n ad) (hn : 40 ≤ n) (σ : zS) (y z : Int32) (sz : Nat) : vx_Met l yX7_addGuild (.code yX7_addGuild cX7_addGuild 6 (some .int) :: zB) (zRx 2) (zPc [.ref (ad 0), .int 10000, .int y, .int z] D cy wa N n ad σ sz) zNo (zXC "java/lang/IllegalArgumentException" D cy N n ad (σ) sz) 1 6 (zA n ad sz) := by
  refine z_metx (by decide) hls (List.forall_mem_cons.mpr ⟨rfl, (List.forall_mem_cons.mpr ⟨rfl, (List.forall_mem_cons.mpr ⟨rfl, (List.forall_mem_cons.mpr ⟨rfl, (fun _ h => nomatch h)⟩)⟩)⟩)⟩) (Nat.le_of_ble_eq_true rfl) (fun p_ e_ s_ m_ below_ meth_ c_ hsz hr hno X => ?_)
  have X : zX p_ l s_ m_ [.ref (ad 0), .int 10000, .int y, .int z].toArray meth_ c_ cX7_addGuild 6 RX7 D cy wa (zA n ad sz) := X
  have hAd : ∀ i, i < n → zA n ad sz (ad i) := fun i hi => Or.inl ⟨i, hi, rfl⟩
  refine zw_run X (is := [(0, .iload_n 1, 1), (1, .iconst 0, 1), (2, .sipush 9999, 3)]) (t' := (5, [some (.ref (ad 0)), some (.int 10000), some (.int y), some (.int z), none, none], [.int 9999, .int 0, .int 10000])) ⟨dX7_addGuild_0, dX7_addGuild_1, dX7_addGuild_2, trivial⟩ rfl ?_
  exact zw_So X hno hAd rfl (As := [.int 10000, .int 0, .int 9999]) (rest := []) (d := 0) ⟨zm_114, zm_115, zm_2, zm_116, by decide, by decide, (show (parseMethodDescriptor yX7_needRange.desc).map (fun d => d.parameters.length) = some 3 by decide +kernel)⟩ (fun sz => c_needRange_hi hls hD hn σ 10000 0 9999 (by decide) (by decide) sz) rfl rfl (Nat.le_of_ble_eq_true rfl) ⟨Nat.le_of_ble_eq_true rfl, Nat.le_of_ble_eq_true rfl⟩ ⟨Nat.le_of_ble_eq_true rfl, Nat.le_of_ble_eq_true rfl⟩ dX7_addGuild_5

set_option maxHeartbeats 4000000 in
set_option maxRecDepth 100000 in
theorem c_addGuild_l {l : Launch} (hls : l.stackTraces = false) {D : va_G} {cy : Nat → ClassId} {wa : Nat → Nat} {N n : Nat} {ad : Nat → Nat} (hD : zD n ad) (hn : 40 ≤ n) (σ : zS) (x z : Int32) (h1 : ¬ x < 0) (h2 : x ≤ 9999) (sz : Nat) : vx_Met l yX7_addGuild (.code yX7_addGuild cX7_addGuild 6 (some .int) :: zB) (zRx 2) (zPc [.ref (ad 0), .int x, .int 19, .int z] D cy wa N n ad σ sz) zNo (zXC "java/lang/IllegalArgumentException" D cy N n ad (σ) sz) 1 6 (zA n ad sz) := by
  refine z_metx (by decide) hls (List.forall_mem_cons.mpr ⟨rfl, (List.forall_mem_cons.mpr ⟨rfl, (List.forall_mem_cons.mpr ⟨rfl, (List.forall_mem_cons.mpr ⟨rfl, (fun _ h => nomatch h)⟩)⟩)⟩)⟩) (Nat.le_of_ble_eq_true rfl) (fun p_ e_ s_ m_ below_ meth_ c_ hsz hr hno X => ?_)
  have X : zX p_ l s_ m_ [.ref (ad 0), .int x, .int 19, .int z].toArray meth_ c_ cX7_addGuild 6 RX7 D cy wa (zA n ad sz) := X
  have hAd : ∀ i, i < n → zA n ad sz (ad i) := fun i hi => Or.inl ⟨i, hi, rfl⟩
  refine zw_run X (is := [(0, .iload_n 1, 1), (1, .iconst 0, 1), (2, .sipush 9999, 3)]) (t' := (5, [some (.ref (ad 0)), some (.int x), some (.int 19), some (.int z), none, none], [.int 9999, .int 0, .int x])) ⟨dX7_addGuild_0, dX7_addGuild_1, dX7_addGuild_2, trivial⟩ rfl ?_
  refine zw_Sv X hAd (As := [.int x, .int 0, .int 9999]) (rest := []) (d := 0) ⟨zm_114, zm_115, zm_2, zm_116, by decide, by decide, (show (parseMethodDescriptor yX7_needRange.desc).map (fun d => d.parameters.length) = some 3 by decide +kernel)⟩ (fun sz => c_needRange hls hD hn σ x 0 9999 h1 h2 sz) rfl rfl (Nat.le_of_ble_eq_true rfl) ⟨Nat.le_of_ble_eq_true rfl, Nat.le_of_ble_eq_true rfl⟩ ⟨Nat.zero_le _, Nat.zero_le _⟩ dX7_addGuild_5 ?_
  refine zw_run X (is := [(8, .iload_n 2, 1), (9, .bipush 20, 2), (11, .sipush 400, 3)]) (t' := (14, [some (.ref (ad 0)), some (.int x), some (.int 19), some (.int z), none, none], [.int 400, .int 20, .int 19])) ⟨dX7_addGuild_8, dX7_addGuild_9, dX7_addGuild_11, trivial⟩ rfl ?_
  exact zw_So X hno hAd rfl (As := [.int 19, .int 20, .int 400]) (rest := []) (d := 0) ⟨zm_114, zm_115, zm_2, zm_116, by decide, by decide, (show (parseMethodDescriptor yX7_needRange.desc).map (fun d => d.parameters.length) = some 3 by decide +kernel)⟩ (fun sz => c_needRange_lo hls hD hn σ 19 20 400 (by decide) sz) rfl rfl (Nat.le_of_ble_eq_true rfl) ⟨Nat.le_of_ble_eq_true rfl, Nat.le_of_ble_eq_true rfl⟩ ⟨Nat.le_of_ble_eq_true rfl, Nat.le_of_ble_eq_true rfl⟩ dX7_addGuild_14

set_option maxHeartbeats 4000000 in
set_option maxRecDepth 100000 in
theorem c_addGuild_p {l : Launch} (hls : l.stackTraces = false) {D : va_G} {cy : Nat → ClassId} {wa : Nat → Nat} {N n : Nat} {ad : Nat → Nat} (hD : zD n ad) (hn : 40 ≤ n) (σ : zS) (x y : Int32) (h1 : ¬ x < 0) (h2 : x ≤ 9999) (h3 : ¬ y < 20) (h4 : y ≤ 400) (sz : Nat) : vx_Met l yX7_addGuild (.code yX7_addGuild cX7_addGuild 6 (some .int) :: zB) (zRx 2) (zPc [.ref (ad 0), .int x, .int y, .int 9] D cy wa N n ad σ sz) zNo (zXC "java/lang/IllegalArgumentException" D cy N n ad (σ) sz) 1 6 (zA n ad sz) := by
  refine z_metx (by decide) hls (List.forall_mem_cons.mpr ⟨rfl, (List.forall_mem_cons.mpr ⟨rfl, (List.forall_mem_cons.mpr ⟨rfl, (List.forall_mem_cons.mpr ⟨rfl, (fun _ h => nomatch h)⟩)⟩)⟩)⟩) (Nat.le_of_ble_eq_true rfl) (fun p_ e_ s_ m_ below_ meth_ c_ hsz hr hno X => ?_)
  have X : zX p_ l s_ m_ [.ref (ad 0), .int x, .int y, .int 9].toArray meth_ c_ cX7_addGuild 6 RX7 D cy wa (zA n ad sz) := X
  have hAd : ∀ i, i < n → zA n ad sz (ad i) := fun i hi => Or.inl ⟨i, hi, rfl⟩
  refine zw_run X (is := [(0, .iload_n 1, 1), (1, .iconst 0, 1), (2, .sipush 9999, 3)]) (t' := (5, [some (.ref (ad 0)), some (.int x), some (.int y), some (.int 9), none, none], [.int 9999, .int 0, .int x])) ⟨dX7_addGuild_0, dX7_addGuild_1, dX7_addGuild_2, trivial⟩ rfl ?_
  refine zw_Sv X hAd (As := [.int x, .int 0, .int 9999]) (rest := []) (d := 0) ⟨zm_114, zm_115, zm_2, zm_116, by decide, by decide, (show (parseMethodDescriptor yX7_needRange.desc).map (fun d => d.parameters.length) = some 3 by decide +kernel)⟩ (fun sz => c_needRange hls hD hn σ x 0 9999 h1 h2 sz) rfl rfl (Nat.le_of_ble_eq_true rfl) ⟨Nat.le_of_ble_eq_true rfl, Nat.le_of_ble_eq_true rfl⟩ ⟨Nat.zero_le _, Nat.zero_le _⟩ dX7_addGuild_5 ?_
  refine zw_run X (is := [(8, .iload_n 2, 1), (9, .bipush 20, 2), (11, .sipush 400, 3)]) (t' := (14, [some (.ref (ad 0)), some (.int x), some (.int y), some (.int 9), none, none], [.int 400, .int 20, .int y])) ⟨dX7_addGuild_8, dX7_addGuild_9, dX7_addGuild_11, trivial⟩ rfl ?_
  refine zw_Sv X hAd (As := [.int y, .int 20, .int 400]) (rest := []) (d := 0) ⟨zm_114, zm_115, zm_2, zm_116, by decide, by decide, (show (parseMethodDescriptor yX7_needRange.desc).map (fun d => d.parameters.length) = some 3 by decide +kernel)⟩ (fun sz => c_needRange hls hD hn σ y 20 400 h3 h4 sz) rfl rfl (Nat.le_of_ble_eq_true rfl) ⟨Nat.le_of_ble_eq_true rfl, Nat.le_of_ble_eq_true rfl⟩ ⟨Nat.zero_le _, Nat.zero_le _⟩ dX7_addGuild_14 ?_
  refine zw_run X (is := [(17, .iload_n 3, 1), (18, .iconst 1, 1), (19, .bipush 8, 2)]) (t' := (21, [some (.ref (ad 0)), some (.int x), some (.int y), some (.int 9), none, none], [.int 8, .int 1, .int 9])) ⟨dX7_addGuild_17, dX7_addGuild_18, dX7_addGuild_19, trivial⟩ rfl ?_
  exact zw_So X hno hAd rfl (As := [.int 9, .int 1, .int 8]) (rest := []) (d := 0) ⟨zm_114, zm_115, zm_2, zm_116, by decide, by decide, (show (parseMethodDescriptor yX7_needRange.desc).map (fun d => d.parameters.length) = some 3 by decide +kernel)⟩ (fun sz => c_needRange_hi hls hD hn σ 9 1 8 (by decide) (by decide) sz) rfl rfl (Nat.le_of_ble_eq_true rfl) ⟨Nat.le_of_ble_eq_true rfl, Nat.le_of_ble_eq_true rfl⟩ ⟨Nat.le_of_ble_eq_true rfl, Nat.le_of_ble_eq_true rfl⟩ dX7_addGuild_21

theorem z_forget {k : Nat} (hk : k ≤ 100) : (if (0 : Int32) < nI k - 30 then nI k - 30 else 0) = nI (k - 30) := by
  by_cases h : 30 < k
  · rw [show nI k - 30 = nI (k - 30) from pk_sub (b := 30) (by omega), if_pos (show (0 : Int32) < nI (k - 30) from nI_lt (a := 0) (b := k - 30) (by omega) (by omega))]
  · by_cases h3 : k = 30
    · subst h3
      rfl
    · rw [if_neg (fun q => absurd (pk_sneg (a := k) (b := 30) (by decide) (by omega)) (by
        have q1 : (0 : Int32) < nI k - nI 30 := q
        rw [Int32.lt_iff_toInt_lt] at q1 ⊢
        intro q2
        have e : (0 : Int32).toInt = 0 := rfl
        rw [e] at q1 q2
        omega)), show k - 30 = 0 by omega]
      rfl
/-- every guild's learning, a year on -/
def zyr (σ : zS) (E : Nat → Nat) : Nat → zS
  | 0 => σ
  | k + 1 => zu (zyr σ E k) (16 + k) 3 (nI (E k - 30))
theorem zyr_off {σ : zS} {E : Nat → Nat} {a b : Nat} (h : b ≠ 3 ∨ a < 16) : ∀ k, zyr σ E k a b = σ a b
  | 0 => rfl
  | k + 1 => by
    show zu (zyr σ E k) (16 + k) 3 _ a b = σ a b
    rw [zu_n (by omega), zyr_off h k]
theorem zyr_hi {σ : zS} {E : Nat → Nat} {g : Nat} : ∀ k, k ≤ g → zyr σ E k (16 + g) 3 = σ (16 + g) 3
  | 0, _ => rfl
  | k + 1, h => by
    show zu (zyr σ E k) (16 + k) 3 _ (16 + g) 3 = _
    rw [zu_n (by omega), zyr_hi k (by omega)]
theorem zyr_lo {σ : zS} {E : Nat → Nat} {g : Nat} : ∀ k, g < k → zyr σ E k (16 + g) 3 = nI (E g - 30)
  | 0, h => absurd h (by omega)
  | k + 1, h => by
    show zu (zyr σ E k) (16 + k) 3 _ (16 + g) 3 = _
    by_cases e : g = k
    · subst e
      exact zu_s
    · rw [zu_n (by omega), zyr_lo k (by omega)]
theorem zyr_big {σ : zS} {E : Nat → Nat} {a b : Nat} (h : 24 ≤ a) : ∀ k, k ≤ 8 → zyr σ E k a b = σ a b
  | 0, _ => rfl
  | k + 1, hk => by
    show zu (zyr σ E k) (16 + k) 3 _ a b = σ a b
    rw [zu_n (by omega), zyr_big h k (by omega)]

set_option maxHeartbeats 4000000 in
set_option maxRecDepth 100000 in
theorem c_forget {l : Launch} (hls : l.stackTraces = false) {D : va_G} {cy : Nat → ClassId} {wa : Nat → Nat} {N n : Nat} {ad : Nat → Nat} (hD : zD n ad) (hn : 40 ≤ n) (σ : zS) (g : Nat) (hg8 : g < 8) (k : Nat) (hk : k ≤ 100) (ek : σ (16 + g) 3 = nI k) (sz : Nat) : Met l yX4_forget (.code yX4_forget cX4_forget 1 none :: zB) (zRm 1) (zPc [.ref (ad (16 + g))] D cy wa N n ad σ sz) (zQv D cy N n ad (zu σ (16 + g) 3 (nI (k - 30))) sz) 0 0 (zA n ad sz) := by
  refine z_met (by decide) hls (List.forall_mem_cons.mpr ⟨rfl, (fun _ h => nomatch h)⟩) (Nat.le_of_ble_eq_true rfl) (fun p_ e_ s_ m_ below_ meth_ c_ hsz hr X => ?_)
  have X : zX p_ l s_ m_ [.ref (ad (16 + g))].toArray meth_ c_ cX4_forget 1 RX4 D cy wa (zA n ad sz) := X
  have hAd : ∀ i, i < n → zA n ad sz (ad i) := fun i hi => Or.inl ⟨i, hi, rfl⟩
  refine zw_run X (is := [(0, .aload_n 0, 1), (1, .iconst 0, 1), (2, .aload_n 0, 1)]) (t' := (3, [some (.ref (ad (16 + g)))], [.ref (ad (16 + g)), .int 0, .ref (ad (16 + g))])) ⟨dX4_forget_0, dX4_forget_1, dX4_forget_2, trivial⟩ rfl ?_
  refine zw_getf X (i := 16 + g) (by omega) (zc_P hg8) (C := RX4) (T := TX4) (Nf := 7) rfl zi_X4 3 (by decide) rfl zm_370 rfl dX4_forget_3 ?_
  rw [ek]
  refine zw_run X (is := [(6, .bipush 30, 2), (8, .isub, 1)]) (t' := (9, [some (.ref (ad (16 + g)))], [.int ((nI k) - 30), .int 0, .ref (ad (16 + g))])) ⟨dX4_forget_6, dX4_forget_8, trivial⟩ rfl ?_
  refine zw_max X zm_371 zm_372 zm_238 zm_373 rfl ⟨Nat.le_of_ble_eq_true rfl, Nat.le_of_ble_eq_true rfl⟩ ⟨Nat.zero_le _, Nat.zero_le _⟩ (v := nI (k - 30)) (z_forget hk) dX4_forget_9 ?_
  refine zw_put X hD hAd (i := 16 + g) (by omega) (zc_P hg8) (C := RX4) (T := TX4) (Nf := 7) rfl zi_X4 tyX4 tyX4_ok nmX4 3 (by decide) rfl rfl zm_370 (ty := .int) (by decide +kernel) rfl rfl (Nat.le_of_ble_eq_true rfl) (zc_P hg8) dX4_forget_12 ?_
  exact zw_vret X hr dX4_forget_15 rfl rfl

set_option maxHeartbeats 4000000 in
set_option maxRecDepth 100000 in
theorem lp_year {p : Program} {l : Launch} {e : Env} {R : Room} {s : State} {m : MethodId} {args : Array Value} {below : List Frame} {meth : Method} {c : Code} {D : va_G} {cy : Nat → ClassId} {wa : Nat → Nat} {N : Nat} {A : Nat → Prop} {n : Nat} {ad : Nat → Nat} {cells slots : Nat} {Q : State → Prop} (X : zX p l s m args meth c cX7_year 2 RX7 D cy wa A) (hD : zD n ad) (hAd : ∀ i, i < n → A (ad i)) (hn : 40 ≤ n) (σ : zS) (hls : l.stackTraces = false) (hR : 5 ≤ R.frames ∧ 200 ≤ R.locals ∧ cells ≤ R.cells ∧ slots ≤ R.slots) (gc : Nat) (hgc : gc ≤ 8) (e0 : σ 0 11 = nI gc) (E : Nat → Nat) (hE : ∀ k, k < gc → σ (16 + k) 3 = nI (E k) ∧ E k ≤ 100)  (kk : zW p l e R s m args below meth c D cy N A n ad cells slots Q (63, [some (.ref (ad 0)), some (.int (nI gc))], []) (zyr σ E gc)) : ∀ (d k : Nat), k + d = gc → zW p l e R s m args below meth c D cy N A n ad cells slots Q (37, [some (.ref (ad 0)), some (.int (nI k))], []) (zyr σ E k) := by
  intro d
  induction d with
  | zero =>
    intro k hk
    obtain rfl : k = gc := by omega
    refine zw_run X (is := [(37, .iload_n 1, 1), (38, .aload_n 0, 1)]) (t' := (39, [some (.ref (ad 0)), some (.int (nI k))], [.ref (ad 0), .int (nI k)])) ⟨dX7_year_37, dX7_year_38, trivial⟩ rfl ?_
    refine zw_getf X (i := 0) (by omega) zc_0 (C := RX7) (T := TX7) (Nf := 16) rfl zi_X7 11 (by decide) rfl zm_110 rfl dX7_year_39 ?_
    refine zw_icmp_ge X (tgt := 63) dX7_year_42 (by decide) (fun _ => ?_) (fun h_ => absurd (by rw [zyr_off (by omega), e0]; exact nI_le (Nat.le_refl _) (by omega)) h_)
    exact kk
  | succ d ih =>
    intro k hk
    have hk8 : k < 8 := by omega
    obtain ⟨ek, hk1⟩ := hE k (by omega)
    refine zw_run X (is := [(37, .iload_n 1, 1), (38, .aload_n 0, 1)]) (t' := (39, [some (.ref (ad 0)), some (.int (nI k))], [.ref (ad 0), .int (nI k)])) ⟨dX7_year_37, dX7_year_38, trivial⟩ rfl ?_
    refine zw_getf X (i := 0) (by omega) zc_0 (C := RX7) (T := TX7) (Nf := 16) rfl zi_X7 11 (by decide) rfl zm_110 rfl dX7_year_39 ?_
    refine zw_icmp_ge X (tgt := 63) dX7_year_42 (by decide) (fun h_ => absurd h_ (by rw [zyr_off (by omega), e0]; exact nI_ge (by omega) (by omega))) (fun _ => ?_)
    refine zw_run X (is := [(45, .aload_n 0, 1)]) (t' := (46, [some (.ref (ad 0)), some (.int (nI k))], [.ref (ad 0)])) ⟨dX7_year_45, trivial⟩ rfl ?_
    refine zw_getf X (i := 0) (by omega) zc_0 (C := RX7) (T := TX7) (Nf := 16) rfl zi_X7 0 (by decide) rfl zm_18 rfl dX7_year_46 ?_
    refine zw_run X (is := [(49, .iload_n 1, 1)]) (t' := (50, [some (.ref (ad 0)), some (.int (nI k))], [.int (nI k), .ref (ad 1)])) ⟨dX7_year_49, trivial⟩ rfl ?_
    refine zw_guild X (by omega) (g := k) rfl hk8 dX7_year_50 ?_
    refine zw_getf X (i := 8 + k) (by omega) (zc_G hk8) (C := RX1) (T := TX1) (Nf := 7) rfl zi_X1 6 (by decide) rfl zm_112 rfl dX7_year_51 ?_
    refine zw_Vv X hAd (As := []) (rest := []) (d := 1) (i := 16 + k) (by omega) (zc_P hk8) (q := (RX4, TX4, 7)) rfl ⟨zm_366, zm_367, zm_368, zm_81, zm_369, rfl, by decide, by decide, (show (parseMethodDescriptor yX4_forget.desc).map (fun d => d.parameters.length) = some 0 by decide +kernel)⟩ (fun sz => c_forget hls hD hn (zyr σ E k) k hk8 (E k) hk1 (by rw [zyr_hi k (Nat.le_refl _)]; exact ek) sz) rfl rfl (Nat.le_of_ble_eq_true rfl) ⟨by omega, by omega⟩ ⟨hR.2.2.1, hR.2.2.2⟩ dX7_year_54 ?_
    refine zw_run X (is := [(57, .iinc 1 1, 3)]) (t' := (60, [some (.ref (ad 0)), some (.int (nI k + 1))], [])) ⟨dX7_year_57, trivial⟩ rfl ?_
    refine zw_go X (tgt := 37) dX7_year_60 (by decide) ?_
    rw [nI_1]
    exact ih (k + 1) (by omega)

set_option maxHeartbeats 4000000 in
set_option maxRecDepth 100000 in
theorem c_year {l : Launch} (hls : l.stackTraces = false) {D : va_G} {cy : Nat → ClassId} {wa : Nat → Nat} {N n : Nat} {ad : Nat → Nat} (hD : zD n ad) (hn : 40 ≤ n) (σ : zS) (gc : Nat) (hgc : gc ≤ 8) (e0 : σ 0 11 = nI gc) (E : Nat → Nat) (hE : ∀ k, k < gc → σ (16 + k) 3 = nI (E k) ∧ E k ≤ 100) (e3 : σ 3 2 = 0) (y : Nat) (hy : y < 99) (e12 : σ 0 12 = nI y) (sz : Nat) : Met l yX7_year (.code yX7_year cX7_year 2 (some .int) :: zB) (zRm 5) (zPc [.ref (ad 0)] D cy wa N n ad σ sz) (zQi (nI (y + 1)) D cy N n ad (zyr (zu (zu σ 0 12 (nI (y + 1))) 0 15 0) E gc) sz) 0 0 (zA n ad sz) := by
  refine z_met (by decide) hls (List.forall_mem_cons.mpr ⟨rfl, (fun _ h => nomatch h)⟩) (Nat.le_of_ble_eq_true rfl) (fun p_ e_ s_ m_ below_ meth_ c_ hsz hr X => ?_)
  have X : zX p_ l s_ m_ [.ref (ad 0)].toArray meth_ c_ cX7_year 2 RX7 D cy wa (zA n ad sz) := X
  have hAd : ∀ i, i < n → zA n ad sz (ad i) := fun i hi => Or.inl ⟨i, hi, rfl⟩
  refine zw_run X (is := [(0, .aload_n 0, 1)]) (t' := (1, [some (.ref (ad 0)), none], [.ref (ad 0)])) ⟨dX7_year_0, trivial⟩ rfl ?_
  refine zw_getf X (i := 0) (by omega) zc_0 (C := RX7) (T := TX7) (Nf := 16) rfl zi_X7 12 (by decide) rfl zm_362 rfl dX7_year_1 ?_
  rw [e12]
  refine zw_run X (is := [(4, .bipush 99, 2)]) (t' := (6, [some (.ref (ad 0)), none], [.int 99, .int (nI y)])) ⟨dX7_year_4, trivial⟩ rfl ?_
  refine zw_icmp_lt X (tgt := 20) dX7_year_6 (by decide) (fun _ => ?_) (fun h_ => absurd (nI_lt hy (by decide)) h_)
  refine zw_run X (is := [(20, .aload_n 0, 1), (21, .dup, 1)]) (t' := (22, [some (.ref (ad 0)), none], [.ref (ad 0), .ref (ad 0)])) ⟨dX7_year_20, dX7_year_21, trivial⟩ rfl ?_
  refine zw_getf X (i := 0) (by omega) zc_0 (C := RX7) (T := TX7) (Nf := 16) rfl zi_X7 12 (by decide) rfl zm_362 rfl dX7_year_22 ?_
  rw [e12]
  refine zw_run X (is := [(25, .iconst 1, 1), (26, .iadd, 1)]) (t' := (27, [some (.ref (ad 0)), none], [.int ((nI y) + 1), .ref (ad 0)])) ⟨dX7_year_25, dX7_year_26, trivial⟩ rfl ?_
  rw [nI_1]
  refine zw_put X hD hAd (i := 0) (by omega) zc_0 (C := RX7) (T := TX7) (Nf := 16) rfl zi_X7 tyX7 tyX7_ok nmX7 12 (by decide) rfl rfl zm_362 (ty := .int) (by decide +kernel) rfl rfl (Nat.le_of_ble_eq_true rfl) zc_0 dX7_year_27 ?_
  refine zw_run X (is := [(30, .aload_n 0, 1), (31, .iconst 0, 1)]) (t' := (32, [some (.ref (ad 0)), none], [.int 0, .ref (ad 0)])) ⟨dX7_year_30, dX7_year_31, trivial⟩ rfl ?_
  refine zw_put X hD hAd (i := 0) (by omega) zc_0 (C := RX7) (T := TX7) (Nf := 16) rfl zi_X7 tyX7 tyX7_ok nmX7 15 (by decide) rfl rfl zm_363 (ty := .boolean) (by decide +kernel) (by decide) (by decide) (Nat.le_of_ble_eq_true rfl) zc_0 dX7_year_32 ?_
  refine zw_run X (is := [(35, .iconst 0, 1), (36, .istore_n 1, 1)]) (t' := (37, [some (.ref (ad 0)), some (.int 0)], [])) ⟨dX7_year_35, dX7_year_36, trivial⟩ rfl ?_
  refine lp_year X hD hAd hn (zu (zu σ 0 12 (nI (y + 1))) 0 15 0) hls ⟨Nat.le_of_ble_eq_true rfl, Nat.le_of_ble_eq_true rfl, Nat.zero_le _, Nat.zero_le _⟩ gc hgc (by rw [zu_n (by omega), zu_n (by omega)]; exact e0) E (fun k hk => by rw [zu_n (by omega), zu_n (by omega)]; exact hE k hk) ?_ gc 0 (by omega)
  refine zw_run X (is := [(63, .iconst 0, 1), (64, .istore_n 1, 1), (65, .iload_n 1, 1), (66, .aload_n 0, 1)]) (t' := (67, [some (.ref (ad 0)), some (.int 0)], [.ref (ad 0), .int 0])) ⟨dX7_year_63, dX7_year_64, dX7_year_65, dX7_year_66, trivial⟩ rfl ?_
  refine zw_getf X (i := 0) (by omega) zc_0 (C := RX7) (T := TX7) (Nf := 16) rfl zi_X7 2 (by decide) rfl zm_23 rfl dX7_year_67 ?_
  refine zw_getf X (i := 3) (by omega) zc_3 (C := RX0) (T := TX0) (Nf := 3) rfl zi_X0 2 (by decide) rfl zm_364 rfl dX7_year_70 ?_
  refine zw_icmp_ge X (tgt := 94) dX7_year_73 (by decide) (fun _ => ?_) (fun h_ => absurd (by rw [zyr_off (by omega), zu_n (by omega), zu_n (by omega), e3]; decide) h_)
  refine zw_run X (is := [(94, .aload_n 0, 1)]) (t' := (95, [some (.ref (ad 0)), some (.int 0)], [.ref (ad 0)])) ⟨dX7_year_94, trivial⟩ rfl ?_
  refine zw_getf X (i := 0) (by omega) zc_0 (C := RX7) (T := TX7) (Nf := 16) rfl zi_X7 12 (by decide) rfl zm_362 rfl dX7_year_95 ?_
  exact zw_iret X hr dX7_year_98 rfl (by rw [zyr_off (by omega), zu_n (by omega), zu_s]) rfl

/-- the book brought up to date for the first k guilds -/
def zca (σ : zS) (T : Nat → Nat) : Nat → zS
  | 0 => σ
  | k + 1 => zbb (zca σ T k) k (T k)
theorem zbb_off {σ : zS} {g t a b : Nat} (h1 : a ≠ 32 + g) (h2 : ¬ (a = 16 + g ∧ b = 4)) : zbb σ g t a b = σ a b := by
  unfold zbb
  rw [zcl_off h1, zu_n h2]
theorem zca_off {σ : zS} {T : Nat → Nat} {a b : Nat} (h1 : a < 32 ∨ 40 ≤ a) (h2 : b ≠ 4 ∨ a < 16 ∨ 24 ≤ a) : ∀ k, k ≤ 8 → zca σ T k a b = σ a b
  | 0, _ => rfl
  | k + 1, hk => by
    show zbb (zca σ T k) k (T k) a b = σ a b
    rw [zbb_off (by omega) (by omega), zca_off h1 h2 k (by omega)]
theorem zca_hi {σ : zS} {T : Nat → Nat} {g b : Nat} (hg : g < 8) : ∀ k, k ≤ g → k ≤ 8 → zca σ T k (16 + g) b = σ (16 + g) b
  | 0, _, _ => rfl
  | k + 1, h, hk => by
    show zbb (zca σ T k) k (T k) (16 + g) b = _
    rw [zbb_off (by omega) (by omega), zca_hi hg k (by omega) (by omega)]
def zsm (f : Nat → Nat) : Nat → Nat
  | 0 => 0
  | k + 1 => zsm f k + f k

set_option maxHeartbeats 4000000 in
set_option maxRecDepth 100000 in
theorem lp_callIn {p : Program} {l : Launch} {e : Env} {R : Room} {s : State} {m : MethodId} {args : Array Value} {below : List Frame} {meth : Method} {c : Code} {D : va_G} {cy : Nat → ClassId} {wa : Nat → Nat} {N : Nat} {A : Nat → Prop} {n : Nat} {ad : Nat → Nat} {cells slots : Nat} {Q : State → Prop} (X : zX p l s m args meth c cX7_callIn 3 RX7 D cy wa A) (hD : zD n ad) (hAd : ∀ i, i < n → A (ad i)) (hn : 40 ≤ n) (σ : zS) (hls : l.stackTraces = false) (hR : 5 ≤ R.frames ∧ 200 ≤ R.locals ∧ cells ≤ R.cells ∧ slots ≤ R.slots) (gc : Nat) (hgc : gc ≤ 8) (e0 : σ 0 11 = nI gc) (T B : Nat → Nat) (hT : ∀ k, k < gc → σ (16 + k) 0 = nI (T k) ∧ T k ≤ 600 ∧ σ (16 + k) 4 = nI (B k) ∧ B k ≤ T k)  (kk : zW p l e R s m args below meth c D cy N A n ad cells slots Q (45, [some (.ref (ad 0)), some (.int (nI (zsm (fun i => T i - B i) gc))), some (.int (nI gc))], []) (zca σ T gc)) : ∀ (d k : Nat), k + d = gc → zW p l e R s m args below meth c D cy N A n ad cells slots Q (4, [some (.ref (ad 0)), some (.int (nI (zsm (fun i => T i - B i) k))), some (.int (nI k))], []) (zca σ T k) := by
  intro d
  induction d with
  | zero =>
    intro k hk
    obtain rfl : k = gc := by omega
    refine zw_run X (is := [(4, .iload_n 2, 1), (5, .aload_n 0, 1)]) (t' := (6, [some (.ref (ad 0)), some (.int (nI (zsm (fun i => T i - B i) k))), some (.int (nI k))], [.ref (ad 0), .int (nI k)])) ⟨dX7_callIn_4, dX7_callIn_5, trivial⟩ rfl ?_
    refine zw_getf X (i := 0) (by omega) zc_0 (C := RX7) (T := TX7) (Nf := 16) rfl zi_X7 11 (by decide) rfl zm_110 rfl dX7_callIn_6 ?_
    refine zw_icmp_ge X (tgt := 45) dX7_callIn_9 (by decide) (fun _ => ?_) (fun h_ => absurd (by rw [zca_off (by omega) (by omega) k (by omega), e0]; exact nI_le (Nat.le_refl _) (by omega)) h_)
    exact kk
  | succ d ih =>
    intro k hk
    have hk8 : k < 8 := by omega
    obtain ⟨eT, hT6, eB, hBT⟩ := hT k (by omega)
    refine zw_run X (is := [(4, .iload_n 2, 1), (5, .aload_n 0, 1)]) (t' := (6, [some (.ref (ad 0)), some (.int (nI (zsm (fun i => T i - B i) k))), some (.int (nI k))], [.ref (ad 0), .int (nI k)])) ⟨dX7_callIn_4, dX7_callIn_5, trivial⟩ rfl ?_
    refine zw_getf X (i := 0) (by omega) zc_0 (C := RX7) (T := TX7) (Nf := 16) rfl zi_X7 11 (by decide) rfl zm_110 rfl dX7_callIn_6 ?_
    refine zw_icmp_ge X (tgt := 45) dX7_callIn_9 (by decide) (fun h_ => absurd h_ (by rw [zca_off (by omega) (by omega) k (by omega), e0]; exact nI_ge (by omega) (by omega))) (fun _ => ?_)
    refine zw_run X (is := [(12, .iload_n 1, 1), (13, .aload_n 0, 1)]) (t' := (14, [some (.ref (ad 0)), some (.int (nI (zsm (fun i => T i - B i) k))), some (.int (nI k))], [.ref (ad 0), .int (nI (zsm (fun i => T i - B i) k))])) ⟨dX7_callIn_12, dX7_callIn_13, trivial⟩ rfl ?_
    refine zw_getf X (i := 0) (by omega) zc_0 (C := RX7) (T := TX7) (Nf := 16) rfl zi_X7 0 (by decide) rfl zm_18 rfl dX7_callIn_14 ?_
    refine zw_run X (is := [(17, .iload_n 2, 1)]) (t' := (18, [some (.ref (ad 0)), some (.int (nI (zsm (fun i => T i - B i) k))), some (.int (nI k))], [.int (nI k), .ref (ad 1), .int (nI (zsm (fun i => T i - B i) k))])) ⟨dX7_callIn_17, trivial⟩ rfl ?_
    refine zw_guild X (by omega) (g := k) rfl hk8 dX7_callIn_18 ?_
    refine zw_getf X (i := 8 + k) (by omega) (zc_G hk8) (C := RX1) (T := TX1) (Nf := 7) rfl zi_X1 6 (by decide) rfl zm_112 rfl dX7_callIn_19 ?_
    refine zw_Vi X hAd (As := []) (rest := [.int (nI (zsm (fun i => T i - B i) k))]) (d := 0) (i := 16 + k) (by omega) (zc_P hk8) (q := (RX4, TX4, 7)) rfl ⟨zm_281, zm_282, zm_283, zm_81, zm_284, rfl, by decide, by decide, (show (parseMethodDescriptor yX4_linesNotInBook.desc).map (fun d => d.parameters.length) = some 0 by decide +kernel)⟩ (fun sz => c_lnib hls hD hn (zca σ T k) k hk8 sz) rfl rfl (Nat.le_of_ble_eq_true rfl) ⟨by omega, by omega⟩ ⟨hR.2.2.1, hR.2.2.2⟩ dX7_callIn_22 ?_
    rw [zca_hi hk8 k (Nat.le_refl _) (by omega), zca_hi hk8 k (Nat.le_refl _) (by omega), eT, eB, pk_sub hBT]
    refine zw_run X (is := [(25, .iadd, 1), (26, .istore_n 1, 1)]) (t' := (27, [some (.ref (ad 0)), some (.int ((nI (zsm (fun i => T i - B i) k)) + (nI (T k - B k)))), some (.int (nI k))], [])) ⟨dX7_callIn_25, dX7_callIn_26, trivial⟩ rfl ?_
    rw [show nI (zsm (fun i => T i - B i) k) + nI (T k - B k) = nI (zsm (fun i => T i - B i) (k + 1)) from nI_add _ _]
    refine zw_run X (is := [(27, .aload_n 0, 1)]) (t' := (28, [some (.ref (ad 0)), some (.int (nI (zsm (fun i => T i - B i) (k + 1)))), some (.int (nI k))], [.ref (ad 0)])) ⟨dX7_callIn_27, trivial⟩ rfl ?_
    refine zw_getf X (i := 0) (by omega) zc_0 (C := RX7) (T := TX7) (Nf := 16) rfl zi_X7 0 (by decide) rfl zm_18 rfl dX7_callIn_28 ?_
    refine zw_run X (is := [(31, .iload_n 2, 1)]) (t' := (32, [some (.ref (ad 0)), some (.int (nI (zsm (fun i => T i - B i) (k + 1)))), some (.int (nI k))], [.int (nI k), .ref (ad 1)])) ⟨dX7_callIn_31, trivial⟩ rfl ?_
    refine zw_guild X (by omega) (g := k) rfl hk8 dX7_callIn_32 ?_
    refine zw_getf X (i := 8 + k) (by omega) (zc_G hk8) (C := RX1) (T := TX1) (Nf := 7) rfl zi_X1 6 (by decide) rfl zm_112 rfl dX7_callIn_33 ?_
    refine zw_Vv X hAd (As := []) (rest := []) (d := 3) (i := 16 + k) (by omega) (zc_P hk8) (q := (RX4, TX4, 7)) rfl ⟨zm_341, zm_342, zm_343, zm_81, zm_344, rfl, by decide, by decide, (show (parseMethodDescriptor yX4_bringBookUpToDate.desc).map (fun d => d.parameters.length) = some 0 by decide +kernel)⟩ (fun sz => c_bringBook hls hD hn (zca σ T k) k hk8 (T k) hT6 (by rw [zca_hi hk8 k (Nat.le_refl _) (by omega)]; exact eT) sz) rfl rfl (Nat.le_of_ble_eq_true rfl) ⟨by omega, by omega⟩ ⟨hR.2.2.1, hR.2.2.2⟩ dX7_callIn_36 ?_
    refine zw_run X (is := [(39, .iinc 2 1, 3)]) (t' := (42, [some (.ref (ad 0)), some (.int (nI (zsm (fun i => T i - B i) (k + 1)))), some (.int (nI k + 1))], [])) ⟨dX7_callIn_39, trivial⟩ rfl ?_
    refine zw_go X (tgt := 4) dX7_callIn_42 (by decide) ?_
    rw [nI_1]
    exact ih (k + 1) (by omega)

set_option maxHeartbeats 4000000 in
set_option maxRecDepth 100000 in
theorem c_callIn {l : Launch} (hls : l.stackTraces = false) {D : va_G} {cy : Nat → ClassId} {wa : Nat → Nat} {N n : Nat} {ad : Nat → Nat} (hD : zD n ad) (hn : 40 ≤ n) (σ : zS) (gc : Nat) (hgc : gc ≤ 8) (e0 : σ 0 11 = nI gc) (T B : Nat → Nat) (hT : ∀ k, k < gc → σ (16 + k) 0 = nI (T k) ∧ T k ≤ 600 ∧ σ (16 + k) 4 = nI (B k) ∧ B k ≤ T k)  (sz : Nat) : Met l yX7_callIn (.code yX7_callIn cX7_callIn 3 (some .int) :: zB) (zRm 5) (zPc [.ref (ad 0)] D cy wa N n ad σ sz) (zQi (nI (zsm (fun i => T i - B i) gc)) D cy N n ad (zca σ T gc) sz) 0 0 (zA n ad sz) := by
  refine z_met (by decide) hls (List.forall_mem_cons.mpr ⟨rfl, (fun _ h => nomatch h)⟩) (Nat.le_of_ble_eq_true rfl) (fun p_ e_ s_ m_ below_ meth_ c_ hsz hr X => ?_)
  have X : zX p_ l s_ m_ [.ref (ad 0)].toArray meth_ c_ cX7_callIn 3 RX7 D cy wa (zA n ad sz) := X
  have hAd : ∀ i, i < n → zA n ad sz (ad i) := fun i hi => Or.inl ⟨i, hi, rfl⟩
  refine zw_run X (is := [(0, .iconst 0, 1), (1, .istore_n 1, 1), (2, .iconst 0, 1), (3, .istore_n 2, 1)]) (t' := (4, [some (.ref (ad 0)), some (.int 0), some (.int 0)], [])) ⟨dX7_callIn_0, dX7_callIn_1, dX7_callIn_2, dX7_callIn_3, trivial⟩ rfl ?_
  refine lp_callIn X hD hAd hn σ hls ⟨Nat.le_of_ble_eq_true rfl, Nat.le_of_ble_eq_true rfl, Nat.zero_le _, Nat.zero_le _⟩ gc hgc e0 T B hT ?_ gc 0 (by omega)
  refine zw_run X (is := [(45, .iload_n 1, 1)]) (t' := (46, [some (.ref (ad 0)), some (.int (nI (zsm (fun i => T i - B i) gc))), some (.int (nI gc))], [.int (nI (zsm (fun i => T i - B i) gc))])) ⟨dX7_callIn_45, trivial⟩ rfl ?_
  exact zw_iret X hr dX7_callIn_46 rfl rfl rfl

def zms (σ : zS) : Nat → Int32
  | 0 => σ 0 14
  | k + 1 => zms σ k - σ (8 + k) 0
/-- the places' bits -/
def zor (po : Nat → Nat) : Nat → Nat
  | 0 => 0
  | k + 1 => zor po k ||| 2 ^ (po k)
theorem z_or (a b : Nat) : nI a ||| nI b = nI (a ||| b) := by
  apply Int32.toBitVec_inj.1
  show BitVec.ofNat 32 a ||| BitVec.ofNat 32 b = BitVec.ofNat 32 (a ||| b)
  apply BitVec.eq_of_getLsbD_eq
  intro i hi
  simp [hi]
theorem z_sh : ∀ x, x < 9 → (1 : Int32) <<< (nI x &&& 31) = nI (2 ^ x) := by decide

set_option maxHeartbeats 4000000 in
set_option maxRecDepth 100000 in
theorem lp_ms1 {p : Program} {l : Launch} {e : Env} {R : Room} {s : State} {m : MethodId} {args : Array Value} {below : List Frame} {meth : Method} {c : Code} {D : va_G} {cy : Nat → ClassId} {wa : Nat → Nat} {N : Nat} {A : Nat → Prop} {n : Nat} {ad : Nat → Nat} {cells slots : Nat} {Q : State → Prop} (X : zX p l s m args meth c cX7_isMoneySound 3 RX7 D cy wa A) (hD : zD n ad) (hAd : ∀ i, i < n → A (ad i)) (hn : 40 ≤ n) (σ : zS) (gc : Nat) (hgc : gc ≤ 8) (e0 : σ 0 11 = nI gc)  (kk : zW p l e R s m args below meth c D cy N A n ad cells slots Q (33, [some (.ref (ad 0)), some (.int (zms σ gc)), some (.int (nI gc))], []) (σ)) : ∀ (d k : Nat), k + d = gc → zW p l e R s m args below meth c D cy N A n ad cells slots Q (7, [some (.ref (ad 0)), some (.int (zms σ k)), some (.int (nI k))], []) (σ) := by
  intro d
  induction d with
  | zero =>
    intro k hk
    obtain rfl : k = gc := by omega
    refine zw_run X (is := [(7, .iload_n 2, 1), (8, .aload_n 0, 1)]) (t' := (9, [some (.ref (ad 0)), some (.int (zms σ k)), some (.int (nI k))], [.ref (ad 0), .int (nI k)])) ⟨dX7_isMoneySound_7, dX7_isMoneySound_8, trivial⟩ rfl ?_
    refine zw_getf X (i := 0) (by omega) zc_0 (C := RX7) (T := TX7) (Nf := 16) rfl zi_X7 11 (by decide) rfl zm_110 rfl dX7_isMoneySound_9 ?_
    refine zw_icmp_ge X (tgt := 33) dX7_isMoneySound_12 (by decide) (fun _ => ?_) (fun h_ => absurd (by rw [e0]; exact nI_le (Nat.le_refl _) (by omega)) h_)
    exact kk
  | succ d ih =>
    intro k hk
    have hk8 : k < 8 := by omega
    refine zw_run X (is := [(7, .iload_n 2, 1), (8, .aload_n 0, 1)]) (t' := (9, [some (.ref (ad 0)), some (.int (zms σ k)), some (.int (nI k))], [.ref (ad 0), .int (nI k)])) ⟨dX7_isMoneySound_7, dX7_isMoneySound_8, trivial⟩ rfl ?_
    refine zw_getf X (i := 0) (by omega) zc_0 (C := RX7) (T := TX7) (Nf := 16) rfl zi_X7 11 (by decide) rfl zm_110 rfl dX7_isMoneySound_9 ?_
    refine zw_icmp_ge X (tgt := 33) dX7_isMoneySound_12 (by decide) (fun h_ => absurd h_ (by rw [e0]; exact nI_ge (by omega) (by omega))) (fun _ => ?_)
    refine zw_run X (is := [(15, .iload_n 1, 1), (16, .aload_n 0, 1)]) (t' := (17, [some (.ref (ad 0)), some (.int (zms σ k)), some (.int (nI k))], [.ref (ad 0), .int (zms σ k)])) ⟨dX7_isMoneySound_15, dX7_isMoneySound_16, trivial⟩ rfl ?_
    refine zw_getf X (i := 0) (by omega) zc_0 (C := RX7) (T := TX7) (Nf := 16) rfl zi_X7 0 (by decide) rfl zm_18 rfl dX7_isMoneySound_17 ?_
    refine zw_run X (is := [(20, .iload_n 2, 1)]) (t' := (21, [some (.ref (ad 0)), some (.int (zms σ k)), some (.int (nI k))], [.int (nI k), .ref (ad 1), .int (zms σ k)])) ⟨dX7_isMoneySound_20, trivial⟩ rfl ?_
    refine zw_guild X (by omega) (g := k) rfl hk8 dX7_isMoneySound_21 ?_
    refine zw_getf X (i := 8 + k) (by omega) (zc_G hk8) (C := RX1) (T := TX1) (Nf := 7) rfl zi_X1 0 (by decide) rfl zm_111 rfl dX7_isMoneySound_22 ?_
    refine zw_run X (is := [(25, .isub, 1), (26, .istore_n 1, 1), (27, .iinc 2 1, 3)]) (t' := (30, [some (.ref (ad 0)), some (.int ((zms σ k) - (σ (8 + k) 0))), some (.int (nI k + 1))], [])) ⟨dX7_isMoneySound_25, dX7_isMoneySound_26, dX7_isMoneySound_27, trivial⟩ rfl ?_
    refine zw_go X (tgt := 7) dX7_isMoneySound_30 (by decide) ?_
    rw [nI_1]
    exact ih (k + 1) (by omega)

set_option maxHeartbeats 4000000 in
set_option maxRecDepth 100000 in
theorem lp_ms2 {p : Program} {l : Launch} {e : Env} {R : Room} {s : State} {m : MethodId} {args : Array Value} {below : List Frame} {meth : Method} {c : Code} {D : va_G} {cy : Nat → ClassId} {wa : Nat → Nat} {N : Nat} {A : Nat → Prop} {n : Nat} {ad : Nat → Nat} {cells slots : Nat} {Q : State → Prop} (X : zX p l s m args meth c cX7_isMoneySound 3 RX7 D cy wa A) (hD : zD n ad) (hAd : ∀ i, i < n → A (ad i)) (hn : 40 ≤ n) (σ : zS) (hz : ∀ k, k < 10 → σ 6 k = 0) (v : Int32)  (kk : zW p l e R s m args below meth c D cy N A n ad cells slots Q (56, [some (.ref (ad 0)), some (.int v), some (.int (nI 10))], []) (σ)) : ∀ (d k : Nat), k + d = 10 → zW p l e R s m args below meth c D cy N A n ad cells slots Q (35, [some (.ref (ad 0)), some (.int v), some (.int (nI k))], []) (σ) := by
  intro d
  induction d with
  | zero =>
    intro k hk
    obtain rfl : k = 10 := by omega
    refine zw_run X (is := [(35, .iload_n 2, 1), (36, .bipush 10, 2)]) (t' := (38, [some (.ref (ad 0)), some (.int v), some (.int (nI 10))], [.int 10, .int (nI 10)])) ⟨dX7_isMoneySound_35, dX7_isMoneySound_36, trivial⟩ rfl ?_
    refine zw_icmp_ge X (tgt := 56) dX7_isMoneySound_38 (by decide) (fun _ => ?_) (fun h_ => absurd (by decide) h_)
    exact kk
  | succ d ih =>
    intro k hk
    refine zw_run X (is := [(35, .iload_n 2, 1), (36, .bipush 10, 2)]) (t' := (38, [some (.ref (ad 0)), some (.int v), some (.int (nI k))], [.int 10, .int (nI k)])) ⟨dX7_isMoneySound_35, dX7_isMoneySound_36, trivial⟩ rfl ?_
    refine zw_icmp_ge X (tgt := 56) dX7_isMoneySound_38 (by decide) (fun h_ => absurd h_ (nI_ge (b := 10) (by omega) (by decide))) (fun _ => ?_)
    refine zw_run X (is := [(41, .iload_n 1, 1), (42, .aload_n 0, 1)]) (t' := (43, [some (.ref (ad 0)), some (.int v), some (.int (nI k))], [.ref (ad 0), .int v])) ⟨dX7_isMoneySound_41, dX7_isMoneySound_42, trivial⟩ rfl ?_
    refine zw_getf X (i := 0) (by omega) zc_0 (C := RX7) (T := TX7) (Nf := 16) rfl zi_X7 5 (by decide) rfl zm_29 rfl dX7_isMoneySound_43 ?_
    refine zw_run X (is := [(46, .iload_n 2, 1)]) (t' := (47, [some (.ref (ad 0)), some (.int v), some (.int (nI k))], [.int (nI k), .ref (ad 6), .int v])) ⟨dX7_isMoneySound_46, trivial⟩ rfl ?_
    refine zw_iald X (i := 6) (by omega) (len := 10) zc_6 (j := k) rfl (by omega) (by decide) dX7_isMoneySound_47 ?_
    rw [hz k (by omega)]
    refine zw_run X (is := [(48, .iadd, 1), (49, .istore_n 1, 1)]) (t' := (50, [some (.ref (ad 0)), some (.int (v + 0)), some (.int (nI k))], [])) ⟨dX7_isMoneySound_48, dX7_isMoneySound_49, trivial⟩ rfl ?_
    rw [Int32.add_zero]
    refine zw_run X (is := [(50, .iinc 2 1, 3)]) (t' := (53, [some (.ref (ad 0)), some (.int v), some (.int (nI k + 1))], [])) ⟨dX7_isMoneySound_50, trivial⟩ rfl ?_
    refine zw_go X (tgt := 35) dX7_isMoneySound_53 (by decide) ?_
    rw [nI_1]
    exact ih (k + 1) (by omega)

set_option maxHeartbeats 4000000 in
set_option maxRecDepth 100000 in
theorem c_isMoneySound {l : Launch} (hls : l.stackTraces = false) {D : va_G} {cy : Nat → ClassId} {wa : Nat → Nat} {N n : Nat} {ad : Nat → Nat} (hD : zD n ad) (hn : 40 ≤ n) (σ : zS) (gc : Nat) (hgc : gc ≤ 8) (e0 : σ 0 11 = nI gc) (hz : ∀ k, k < 10 → σ 6 k = 0) (hs : zms σ gc = σ 0 13) (sz : Nat) : Met l yX7_isMoneySound (.code yX7_isMoneySound cX7_isMoneySound 3 (some .boolean) :: zB) (zRm 0) (zPc [.ref (ad 0)] D cy wa N n ad σ sz) (zQi (1) D cy N n ad (σ) sz) 0 0 (zA n ad sz) := by
  refine z_met (by decide) hls (List.forall_mem_cons.mpr ⟨rfl, (fun _ h => nomatch h)⟩) (Nat.le_of_ble_eq_true rfl) (fun p_ e_ s_ m_ below_ meth_ c_ hsz hr X => ?_)
  have X : zX p_ l s_ m_ [.ref (ad 0)].toArray meth_ c_ cX7_isMoneySound 3 RX7 D cy wa (zA n ad sz) := X
  have hAd : ∀ i, i < n → zA n ad sz (ad i) := fun i hi => Or.inl ⟨i, hi, rfl⟩
  refine zw_run X (is := [(0, .aload_n 0, 1)]) (t' := (1, [some (.ref (ad 0)), none, none], [.ref (ad 0)])) ⟨dX7_isMoneySound_0, trivial⟩ rfl ?_
  refine zw_getf X (i := 0) (by omega) zc_0 (C := RX7) (T := TX7) (Nf := 16) rfl zi_X7 14 (by decide) rfl zm_113 rfl dX7_isMoneySound_1 ?_
  refine zw_run X (is := [(4, .istore_n 1, 1), (5, .iconst 0, 1), (6, .istore_n 2, 1)]) (t' := (7, [some (.ref (ad 0)), some (.int (σ (0) 14)), some (.int 0)], [])) ⟨dX7_isMoneySound_4, dX7_isMoneySound_5, dX7_isMoneySound_6, trivial⟩ rfl ?_
  refine lp_ms1 X hD hAd hn σ gc hgc e0 ?_ gc 0 (by omega)
  refine zw_run X (is := [(33, .iconst 0, 1), (34, .istore_n 2, 1)]) (t' := (35, [some (.ref (ad 0)), some (.int (zms σ gc)), some (.int 0)], [])) ⟨dX7_isMoneySound_33, dX7_isMoneySound_34, trivial⟩ rfl ?_
  refine lp_ms2 X hD hAd hn σ hz (zms σ gc) ?_ 10 0 (by omega)
  refine zw_run X (is := [(56, .iload_n 1, 1), (57, .aload_n 0, 1)]) (t' := (58, [some (.ref (ad 0)), some (.int (zms σ gc)), some (.int (nI 10))], [.ref (ad 0), .int (zms σ gc)])) ⟨dX7_isMoneySound_56, dX7_isMoneySound_57, trivial⟩ rfl ?_
  refine zw_getf X (i := 0) (by omega) zc_0 (C := RX7) (T := TX7) (Nf := 16) rfl zi_X7 13 (by decide) rfl zm_265 rfl dX7_isMoneySound_58 ?_
  refine zw_icmp_ne X (tgt := 68) dX7_isMoneySound_61 (by decide) (fun h_ => absurd hs h_) (fun h_ => ?_)
  refine zw_run X (is := [(64, .iconst 1, 1)]) (t' := (65, [some (.ref (ad 0)), some (.int (zms σ gc)), some (.int (nI 10))], [.int 1])) ⟨dX7_isMoneySound_64, trivial⟩ rfl ?_
  refine zw_go X (tgt := 69) dX7_isMoneySound_65 (by decide) ?_
  exact zw_zret X hr dX7_isMoneySound_69 rfl rfl rfl rfl

set_option maxHeartbeats 4000000 in
set_option maxRecDepth 100000 in
theorem lp_os {p : Program} {l : Launch} {e : Env} {R : Room} {s : State} {m : MethodId} {args : Array Value} {below : List Frame} {meth : Method} {c : Code} {D : va_G} {cy : Nat → ClassId} {wa : Nat → Nat} {N : Nat} {A : Nat → Prop} {n : Nat} {ad : Nat → Nat} {cells slots : Nat} {Q : State → Prop} (X : zX p l s m args meth c cX7_isOrderSound 3 RX7 D cy wa A) (hD : zD n ad) (hAd : ∀ i, i < n → A (ad i)) (hn : 40 ≤ n) (σ : zS) (gc : Nat) (hgc : gc ≤ 8) (e0 : σ 0 11 = nI gc) (po : Nat → Nat) (hpo : ∀ k, k < gc → σ 2 k = nI (po k) ∧ po k < gc)  (kk : zW p l e R s m args below meth c D cy N A n ad cells slots Q (29, [some (.ref (ad 0)), some (.int (nI (zor po gc))), some (.int (nI gc))], []) (σ)) : ∀ (d k : Nat), k + d = gc → zW p l e R s m args below meth c D cy N A n ad cells slots Q (4, [some (.ref (ad 0)), some (.int (nI (zor po k))), some (.int (nI k))], []) (σ) := by
  intro d
  induction d with
  | zero =>
    intro k hk
    obtain rfl : k = gc := by omega
    refine zw_run X (is := [(4, .iload_n 2, 1), (5, .aload_n 0, 1)]) (t' := (6, [some (.ref (ad 0)), some (.int (nI (zor po k))), some (.int (nI k))], [.ref (ad 0), .int (nI k)])) ⟨dX7_isOrderSound_4, dX7_isOrderSound_5, trivial⟩ rfl ?_
    refine zw_getf X (i := 0) (by omega) zc_0 (C := RX7) (T := TX7) (Nf := 16) rfl zi_X7 11 (by decide) rfl zm_110 rfl dX7_isOrderSound_6 ?_
    refine zw_icmp_ge X (tgt := 29) dX7_isOrderSound_9 (by decide) (fun _ => ?_) (fun h_ => absurd (by rw [e0]; exact nI_le (Nat.le_refl _) (by omega)) h_)
    exact kk
  | succ d ih =>
    intro k hk
    have hk8 : k < 8 := by omega
    obtain ⟨ep, hp⟩ := hpo k (by omega)
    refine zw_run X (is := [(4, .iload_n 2, 1), (5, .aload_n 0, 1)]) (t' := (6, [some (.ref (ad 0)), some (.int (nI (zor po k))), some (.int (nI k))], [.ref (ad 0), .int (nI k)])) ⟨dX7_isOrderSound_4, dX7_isOrderSound_5, trivial⟩ rfl ?_
    refine zw_getf X (i := 0) (by omega) zc_0 (C := RX7) (T := TX7) (Nf := 16) rfl zi_X7 11 (by decide) rfl zm_110 rfl dX7_isOrderSound_6 ?_
    refine zw_icmp_ge X (tgt := 29) dX7_isOrderSound_9 (by decide) (fun h_ => absurd h_ (by rw [e0]; exact nI_ge (by omega) (by omega))) (fun _ => ?_)
    refine zw_run X (is := [(12, .iload_n 1, 1), (13, .iconst 1, 1), (14, .aload_n 0, 1)]) (t' := (15, [some (.ref (ad 0)), some (.int (nI (zor po k))), some (.int (nI k))], [.ref (ad 0), .int 1, .int (nI (zor po k))])) ⟨dX7_isOrderSound_12, dX7_isOrderSound_13, dX7_isOrderSound_14, trivial⟩ rfl ?_
    refine zw_getf X (i := 0) (by omega) zc_0 (C := RX7) (T := TX7) (Nf := 16) rfl zi_X7 1 (by decide) rfl zm_19 rfl dX7_isOrderSound_15 ?_
    refine zw_run X (is := [(18, .iload_n 2, 1)]) (t' := (19, [some (.ref (ad 0)), some (.int (nI (zor po k))), some (.int (nI k))], [.int (nI k), .ref (ad 2), .int 1, .int (nI (zor po k))])) ⟨dX7_isOrderSound_18, trivial⟩ rfl ?_
    refine zw_iald X (i := 2) (by omega) (len := 8) zc_2 (j := k) rfl hk8 (by decide) dX7_isOrderSound_19 ?_
    rw [ep]
    refine zw_shl X dX7_isOrderSound_20 ?_
    rw [z_sh (po k) (by omega)]
    refine zw_run X (is := [(21, .ior, 1), (22, .istore_n 1, 1)]) (t' := (23, [some (.ref (ad 0)), some (.int ((nI (zor po k)) ||| (nI (2 ^ (po k))))), some (.int (nI k))], [])) ⟨dX7_isOrderSound_21, dX7_isOrderSound_22, trivial⟩ rfl ?_
    rw [show nI (zor po k) ||| nI (2 ^ (po k)) = nI (zor po (k + 1)) from z_or _ _]
    refine zw_run X (is := [(23, .iinc 2 1, 3)]) (t' := (26, [some (.ref (ad 0)), some (.int (nI (zor po (k + 1)))), some (.int (nI k + 1))], [])) ⟨dX7_isOrderSound_23, trivial⟩ rfl ?_
    refine zw_go X (tgt := 4) dX7_isOrderSound_26 (by decide) ?_
    rw [nI_1]
    exact ih (k + 1) (by omega)

set_option maxHeartbeats 4000000 in
set_option maxRecDepth 100000 in
theorem c_isOrderSound {l : Launch} (hls : l.stackTraces = false) {D : va_G} {cy : Nat → ClassId} {wa : Nat → Nat} {N n : Nat} {ad : Nat → Nat} (hD : zD n ad) (hn : 40 ≤ n) (σ : zS) (gc : Nat) (hgc : gc ≤ 8) (e0 : σ 0 11 = nI gc) (po : Nat → Nat) (hpo : ∀ k, k < gc → σ 2 k = nI (po k) ∧ po k < gc) (hs : zor po gc = 2 ^ gc - 1) (sz : Nat) : Met l yX7_isOrderSound (.code yX7_isOrderSound cX7_isOrderSound 3 (some .boolean) :: zB) (zRm 0) (zPc [.ref (ad 0)] D cy wa N n ad σ sz) (zQi (1) D cy N n ad (σ) sz) 0 0 (zA n ad sz) := by
  refine z_met (by decide) hls (List.forall_mem_cons.mpr ⟨rfl, (fun _ h => nomatch h)⟩) (Nat.le_of_ble_eq_true rfl) (fun p_ e_ s_ m_ below_ meth_ c_ hsz hr X => ?_)
  have X : zX p_ l s_ m_ [.ref (ad 0)].toArray meth_ c_ cX7_isOrderSound 3 RX7 D cy wa (zA n ad sz) := X
  have hAd : ∀ i, i < n → zA n ad sz (ad i) := fun i hi => Or.inl ⟨i, hi, rfl⟩
  refine zw_run X (is := [(0, .iconst 0, 1), (1, .istore_n 1, 1), (2, .iconst 0, 1), (3, .istore_n 2, 1)]) (t' := (4, [some (.ref (ad 0)), some (.int 0), some (.int 0)], [])) ⟨dX7_isOrderSound_0, dX7_isOrderSound_1, dX7_isOrderSound_2, dX7_isOrderSound_3, trivial⟩ rfl ?_
  refine lp_os X hD hAd hn σ gc hgc e0 po hpo ?_ gc 0 (by omega)
  refine zw_run X (is := [(29, .iload_n 1, 1), (30, .iconst 1, 1), (31, .aload_n 0, 1)]) (t' := (32, [some (.ref (ad 0)), some (.int (nI (zor po gc))), some (.int (nI gc))], [.ref (ad 0), .int 1, .int (nI (zor po gc))])) ⟨dX7_isOrderSound_29, dX7_isOrderSound_30, dX7_isOrderSound_31, trivial⟩ rfl ?_
  refine zw_getf X (i := 0) (by omega) zc_0 (C := RX7) (T := TX7) (Nf := 16) rfl zi_X7 11 (by decide) rfl zm_110 rfl dX7_isOrderSound_32 ?_
  rw [e0]
  refine zw_shl X dX7_isOrderSound_35 ?_
  rw [z_sh gc (by omega)]
  refine zw_run X (is := [(36, .iconst 1, 1), (37, .isub, 1)]) (t' := (38, [some (.ref (ad 0)), some (.int (nI (zor po gc))), some (.int (nI gc))], [.int ((nI (2 ^ gc)) - 1), .int (nI (zor po gc))])) ⟨dX7_isOrderSound_36, dX7_isOrderSound_37, trivial⟩ rfl ?_
  rw [hs, show nI (2 ^ gc) - 1 = nI (2 ^ gc - 1) from pk_sub (b := 1) Nat.one_le_two_pow]
  refine zw_icmp_ne X (tgt := 45) dX7_isOrderSound_38 (by decide) (fun h_ => absurd rfl h_) (fun h_ => ?_)
  refine zw_run X (is := [(41, .iconst 1, 1)]) (t' := (42, [some (.ref (ad 0)), some (.int (nI (2 ^ gc - 1))), some (.int (nI gc))], [.int 1])) ⟨dX7_isOrderSound_41, trivial⟩ rfl ?_
  refine zw_go X (tgt := 46) dX7_isOrderSound_42 (by decide) ?_
  exact zw_zret X hr dX7_isOrderSound_46 rfl rfl rfl rfl

set_option maxHeartbeats 4000000 in
set_option maxRecDepth 100000 in
theorem c_isSound {l : Launch} (hls : l.stackTraces = false) {D : va_G} {cy : Nat → ClassId} {wa : Nat → Nat} {N n : Nat} {ad : Nat → Nat} (hD : zD n ad) (hn : 40 ≤ n) (σ : zS) (gc : Nat) (hgc : gc ≤ 8) (e0 : σ 0 11 = nI gc) (hz : ∀ k, k < 10 → σ 6 k = 0) (hs : zms σ gc = σ 0 13) (po : Nat → Nat) (hpo : ∀ k, k < gc → σ 2 k = nI (po k) ∧ po k < gc) (ho : zor po gc = 2 ^ gc - 1) (e4 : σ 0 15 = 0) (sz : Nat) : Met l yX7_isSound (.code yX7_isSound cX7_isSound 1 (some .boolean) :: zB) (zRm 2) (zPc [.ref (ad 0)] D cy wa N n ad σ sz) (zQi (1) D cy N n ad (σ) sz) 0 0 (zA n ad sz) := by
  refine z_met (by decide) hls (List.forall_mem_cons.mpr ⟨rfl, (fun _ h => nomatch h)⟩) (Nat.le_of_ble_eq_true rfl) (fun p_ e_ s_ m_ below_ meth_ c_ hsz hr X => ?_)
  have X : zX p_ l s_ m_ [.ref (ad 0)].toArray meth_ c_ cX7_isSound 1 RX7 D cy wa (zA n ad sz) := X
  have hAd : ∀ i, i < n → zA n ad sz (ad i) := fun i hi => Or.inl ⟨i, hi, rfl⟩
  refine zw_run X (is := [(0, .aload_n 0, 1)]) (t' := (1, [some (.ref (ad 0))], [.ref (ad 0)])) ⟨dX7_isSound_0, trivial⟩ rfl ?_
  refine zw_Vi X hAd (As := []) (rest := []) (d := 0) (i := 0) (by omega) zc_0 (q := (RX7, TX7, 16)) rfl ⟨zm_460, zm_461, zm_462, zm_2, zm_463, rfl, by decide, by decide, (show (parseMethodDescriptor yX7_isMoneySound.desc).map (fun d => d.parameters.length) = some 0 by decide +kernel)⟩ (fun sz => c_isMoneySound hls hD hn σ gc hgc e0 hz hs sz) rfl rfl (Nat.le_of_ble_eq_true rfl) ⟨Nat.le_of_ble_eq_true rfl, Nat.le_of_ble_eq_true rfl⟩ ⟨Nat.zero_le _, Nat.zero_le _⟩ dX7_isSound_1 ?_
  refine zw_if_eq X (tgt := 35) dX7_isSound_4 (by decide) (fun h_ => absurd h_ (by decide)) (fun _ => ?_)
  refine zw_run X (is := [(7, .aload_n 0, 1)]) (t' := (8, [some (.ref (ad 0))], [.ref (ad 0)])) ⟨dX7_isSound_7, trivial⟩ rfl ?_
  refine zw_Vi X hAd (As := []) (rest := []) (d := 0) (i := 0) (by omega) zc_0 (q := (RX7, TX7, 16)) rfl ⟨zm_464, zm_465, zm_466, zm_2, zm_467, rfl, by decide, by decide, (show (parseMethodDescriptor yX7_isOrderSound.desc).map (fun d => d.parameters.length) = some 0 by decide +kernel)⟩ (fun sz => c_isOrderSound hls hD hn σ gc hgc e0 po hpo ho sz) rfl rfl (Nat.le_of_ble_eq_true rfl) ⟨Nat.le_of_ble_eq_true rfl, Nat.le_of_ble_eq_true rfl⟩ ⟨Nat.zero_le _, Nat.zero_le _⟩ dX7_isSound_8 ?_
  refine zw_if_eq X (tgt := 35) dX7_isSound_11 (by decide) (fun h_ => absurd h_ (by decide)) (fun _ => ?_)
  refine zw_run X (is := [(14, .aload_n 0, 1)]) (t' := (15, [some (.ref (ad 0))], [.ref (ad 0)])) ⟨dX7_isSound_14, trivial⟩ rfl ?_
  refine zw_getf X (i := 0) (by omega) zc_0 (C := RX7) (T := TX7) (Nf := 16) rfl zi_X7 15 (by decide) rfl zm_363 rfl dX7_isSound_15 ?_
  refine zw_if_eq X (tgt := 31) dX7_isSound_18 (by decide) (fun _ => ?_) (fun h_ => absurd e4 h_)
  refine zw_run X (is := [(31, .iconst 1, 1)]) (t' := (32, [some (.ref (ad 0))], [.int 1])) ⟨dX7_isSound_31, trivial⟩ rfl ?_
  refine zw_go X (tgt := 36) dX7_isSound_32 (by decide) ?_
  exact zw_zret X hr dX7_isSound_36 rfl rfl rfl rfl
