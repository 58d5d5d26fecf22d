set_option maxHeartbeats 4000000 in
set_option maxRecDepth 100000 in
theorem c_needRange {l : Launch} (hls : l.stackTraces = false) {D : va_G} {cy : Nat → ClassId} {wa : Nat → Nat} {N n : Nat} {ad : Nat → Nat} (hD : zD n ad) (hn : 40 ≤ n) (σ : zS) (a b c : Int32) (h1 : ¬ a < b) (h2 : a ≤ c) (sz : Nat) : Met l yX7_needRange (.code yX7_needRange cX7_needRange 3 none :: zB) (zRm 0) (zPc [.int a, .int b, .int c] D cy wa N n ad σ sz) (zQv D cy N n ad (σ) sz) 0 0 (zA n ad sz) := by
  refine z_met (by decide) hls (List.forall_mem_cons.mpr ⟨rfl, (List.forall_mem_cons.mpr ⟨rfl, (List.forall_mem_cons.mpr ⟨rfl, (fun _ h => nomatch h)⟩)⟩)⟩) (Nat.le_of_ble_eq_true rfl) (fun p_ e_ s_ m_ below_ meth_ c_ hsz hr X => ?_)
  have X : zX p_ l s_ m_ [.int a, .int b, .int c].toArray meth_ c_ cX7_needRange 3 RX7 D cy wa (zA n ad sz) := X
  have hAd : ∀ i, i < n → zA n ad sz (ad i) := fun i hi => Or.inl ⟨i, hi, rfl⟩
  refine zw_run X (is := [(0, .iload_n 0, 1), (1, .iload_n 1, 1)]) (t' := (2, [some (.int a), some (.int b), some (.int c)], [.int b, .int a])) ⟨dX7_needRange_0, dX7_needRange_1, trivial⟩ rfl ?_
  refine zw_icmp_lt X (tgt := 10) dX7_needRange_2 (by decide) (fun h_ => absurd h_ h1) (fun _ => ?_)
  refine zw_run X (is := [(5, .iload_n 0, 1), (6, .iload_n 2, 1)]) (t' := (7, [some (.int a), some (.int b), some (.int c)], [.int c, .int a])) ⟨dX7_needRange_5, dX7_needRange_6, trivial⟩ rfl ?_
  refine zw_icmp_le X (tgt := 21) dX7_needRange_7 (by decide) (fun _ => ?_) (fun h_ => absurd h2 h_)
  exact zw_vret X hr dX7_needRange_21 rfl rfl

set_option maxHeartbeats 4000000 in
set_option maxRecDepth 100000 in
theorem c_needRange_lo {l : Launch} (hls : l.stackTraces = false) {D : va_G} {cy : Nat → ClassId} {wa : Nat → Nat} {N n : Nat} {ad : Nat → Nat} (hD : zD n ad) (hn : 40 ≤ n) (σ : zS) (a b c : Int32) (h1 : a < b) (sz : Nat) : vx_Met l yX7_needRange (.code yX7_needRange cX7_needRange 3 none :: zB) (zRx 0) (zPc [.int a, .int b, .int c] D cy wa N n ad σ sz) zNo (zXC "java/lang/IllegalArgumentException" D cy N n ad (σ) sz) 1 6 (zA n ad sz) := by
  refine z_metx (by decide) hls (List.forall_mem_cons.mpr ⟨rfl, (List.forall_mem_cons.mpr ⟨rfl, (List.forall_mem_cons.mpr ⟨rfl, (fun _ h => nomatch h)⟩)⟩)⟩) (Nat.le_of_ble_eq_true rfl) (fun p_ e_ s_ m_ below_ meth_ c_ hsz hr hno X => ?_)
  have X : zX p_ l s_ m_ [.int a, .int b, .int c].toArray meth_ c_ cX7_needRange 3 RX7 D cy wa (zA n ad sz) := X
  have hAd : ∀ i, i < n → zA n ad sz (ad i) := fun i hi => Or.inl ⟨i, hi, rfl⟩
  refine zw_run X (is := [(0, .iload_n 0, 1), (1, .iload_n 1, 1)]) (t' := (2, [some (.int a), some (.int b), some (.int c)], [.int b, .int a])) ⟨dX7_needRange_0, dX7_needRange_1, trivial⟩ rfl ?_
  refine zw_icmp_lt X (tgt := 10) dX7_needRange_2 (by decide) (fun _ => ?_) (fun h_ => absurd h1 h_)
  exact zw_throwW X hno zTh_iae (is := 354) (text := "out of range") (by decide +kernel) rfl rfl dX7_needRange_10 dX7_needRange_13 dX7_needRange_14 dX7_needRange_17 dX7_needRange_20 ⟨Nat.le_of_ble_eq_true rfl, Nat.le_of_ble_eq_true rfl, Nat.le_of_ble_eq_true rfl, Nat.le_of_ble_eq_true rfl⟩ ⟨rfl, rfl⟩

set_option maxHeartbeats 4000000 in
set_option maxRecDepth 100000 in
theorem c_needRange_hi {l : Launch} (hls : l.stackTraces = false) {D : va_G} {cy : Nat → ClassId} {wa : Nat → Nat} {N n : Nat} {ad : Nat → Nat} (hD : zD n ad) (hn : 40 ≤ n) (σ : zS) (a b c : Int32) (h1 : ¬ a < b) (h2 : ¬ a ≤ c) (sz : Nat) : vx_Met l yX7_needRange (.code yX7_needRange cX7_needRange 3 none :: zB) (zRx 0) (zPc [.int a, .int b, .int c] D cy wa N n ad σ sz) zNo (zXC "java/lang/IllegalArgumentException" D cy N n ad (σ) sz) 1 6 (zA n ad sz) := by
  refine z_metx (by decide) hls (List.forall_mem_cons.mpr ⟨rfl, (List.forall_mem_cons.mpr ⟨rfl, (List.forall_mem_cons.mpr ⟨rfl, (fun _ h => nomatch h)⟩)⟩)⟩) (Nat.le_of_ble_eq_true rfl) (fun p_ e_ s_ m_ below_ meth_ c_ hsz hr hno X => ?_)
  have X : zX p_ l s_ m_ [.int a, .int b, .int c].toArray meth_ c_ cX7_needRange 3 RX7 D cy wa (zA n ad sz) := X
  have hAd : ∀ i, i < n → zA n ad sz (ad i) := fun i hi => Or.inl ⟨i, hi, rfl⟩
  refine zw_run X (is := [(0, .iload_n 0, 1), (1, .iload_n 1, 1)]) (t' := (2, [some (.int a), some (.int b), some (.int c)], [.int b, .int a])) ⟨dX7_needRange_0, dX7_needRange_1, trivial⟩ rfl ?_
  refine zw_icmp_lt X (tgt := 10) dX7_needRange_2 (by decide) (fun h_ => absurd h_ h1) (fun _ => ?_)
  refine zw_run X (is := [(5, .iload_n 0, 1), (6, .iload_n 2, 1)]) (t' := (7, [some (.int a), some (.int b), some (.int c)], [.int c, .int a])) ⟨dX7_needRange_5, dX7_needRange_6, trivial⟩ rfl ?_
  refine zw_icmp_le X (tgt := 21) dX7_needRange_7 (by decide) (fun h_ => absurd h_ h2) (fun _ => ?_)
  exact zw_throwW X hno zTh_iae (is := 354) (text := "out of range") (by decide +kernel) rfl rfl dX7_needRange_10 dX7_needRange_13 dX7_needRange_14 dX7_needRange_17 dX7_needRange_20 ⟨Nat.le_of_ble_eq_true rfl, Nat.le_of_ble_eq_true rfl, Nat.le_of_ble_eq_true rfl, Nat.le_of_ble_eq_true rfl⟩ ⟨rfl, rfl⟩

set_option maxHeartbeats 4000000 in
set_option maxRecDepth 100000 in
theorem c_needGuild {l : Launch} (hls : l.stackTraces = false) {D : va_G} {cy : Nat → ClassId} {wa : Nat → Nat} {N n : Nat} {ad : Nat → Nat} (hD : zD n ad) (hn : 40 ≤ n) (σ : zS) (gc : Nat) (hgc : gc ≤ 8) (e0 : σ 0 11 = nI gc) (g : Nat) (hg : g < gc) (sz : Nat) : Met l yX7_needGuild (.code yX7_needGuild cX7_needGuild 2 none :: zB) (zRm 0) (zPc [.ref (ad 0), .int (nI g)] D cy wa N n ad σ sz) (zQv D cy N n ad (σ) sz) 0 0 (zA n ad sz) := by
  refine z_met (by decide) hls (List.forall_mem_cons.mpr ⟨rfl, (List.forall_mem_cons.mpr ⟨rfl, (fun _ h => nomatch h)⟩)⟩) (Nat.le_of_ble_eq_true rfl) (fun p_ e_ s_ m_ below_ meth_ c_ hsz hr X => ?_)
  have X : zX p_ l s_ m_ [.ref (ad 0), .int (nI g)].toArray meth_ c_ cX7_needGuild 2 RX7 D cy wa (zA n ad sz) := X
  have hAd : ∀ i, i < n → zA n ad sz (ad i) := fun i hi => Or.inl ⟨i, hi, rfl⟩
  refine zw_run X (is := [(0, .iload_n 1, 1)]) (t' := (1, [some (.ref (ad 0)), some (.int (nI g))], [.int (nI g)])) ⟨dX7_needGuild_0, trivial⟩ rfl ?_
  refine zw_if_lt X (tgt := 12) dX7_needGuild_1 (by decide) (fun h_ => absurd h_ (nI_pos (by omega))) (fun _ => ?_)
  refine zw_run X (is := [(4, .iload_n 1, 1), (5, .aload_n 0, 1)]) (t' := (6, [some (.ref (ad 0)), some (.int (nI g))], [.ref (ad 0), .int (nI g)])) ⟨dX7_needGuild_4, dX7_needGuild_5, trivial⟩ rfl ?_
  refine zw_getf X (i := 0) (by omega) zc_0 (C := RX7) (T := TX7) (Nf := 16) rfl zi_X7 11 (by decide) rfl zm_110 rfl dX7_needGuild_6 ?_
  refine zw_icmp_lt X (tgt := 23) dX7_needGuild_9 (by decide) (fun _ => ?_) (fun h_ => absurd (by rw [e0]; exact nI_lt hg (by omega)) h_)
  exact zw_vret X hr dX7_needGuild_23 rfl rfl

set_option maxHeartbeats 4000000 in
set_option maxRecDepth 100000 in
theorem c_needGuild_x {l : Launch} (hls : l.stackTraces = false) {D : va_G} {cy : Nat → ClassId} {wa : Nat → Nat} {N n : Nat} {ad : Nat → Nat} (hD : zD n ad) (hn : 40 ≤ n) (σ : zS) (gc : Nat) (hgc : gc ≤ 8) (e0 : σ 0 11 = nI gc) (g : Nat) (hg : gc ≤ g) (hg2 : g < 100) (sz : Nat) : vx_Met l yX7_needGuild (.code yX7_needGuild cX7_needGuild 2 none :: zB) (zRx 0) (zPc [.ref (ad 0), .int (nI g)] D cy wa N n ad σ sz) zNo (zXC "java/lang/IndexOutOfBoundsException" D cy N n ad (σ) sz) 1 6 (zA n ad sz) := by
  refine z_metx (by decide) hls (List.forall_mem_cons.mpr ⟨rfl, (List.forall_mem_cons.mpr ⟨rfl, (fun _ h => nomatch h)⟩)⟩) (Nat.le_of_ble_eq_true rfl) (fun p_ e_ s_ m_ below_ meth_ c_ hsz hr hno X => ?_)
  have X : zX p_ l s_ m_ [.ref (ad 0), .int (nI g)].toArray meth_ c_ cX7_needGuild 2 RX7 D cy wa (zA n ad sz) := X
  have hAd : ∀ i, i < n → zA n ad sz (ad i) := fun i hi => Or.inl ⟨i, hi, rfl⟩
  refine zw_run X (is := [(0, .iload_n 1, 1)]) (t' := (1, [some (.ref (ad 0)), some (.int (nI g))], [.int (nI g)])) ⟨dX7_needGuild_0, trivial⟩ rfl ?_
  refine zw_if_lt X (tgt := 12) dX7_needGuild_1 (by decide) (fun h_ => absurd h_ (nI_pos (by omega))) (fun _ => ?_)
  refine zw_run X (is := [(4, .iload_n 1, 1), (5, .aload_n 0, 1)]) (t' := (6, [some (.ref (ad 0)), some (.int (nI g))], [.ref (ad 0), .int (nI g)])) ⟨dX7_needGuild_4, dX7_needGuild_5, trivial⟩ rfl ?_
  refine zw_getf X (i := 0) (by omega) zc_0 (C := RX7) (T := TX7) (Nf := 16) rfl zi_X7 11 (by decide) rfl zm_110 rfl dX7_needGuild_6 ?_
  refine zw_icmp_lt X (tgt := 23) dX7_needGuild_9 (by decide) (fun h_ => absurd h_ (by rw [e0]; exact nI_nlt hg (by omega))) (fun _ => ?_)
  exact zw_throwW X hno zTh_ioobe (is := 356) (text := "no such guild") (by decide +kernel) rfl rfl dX7_needGuild_12 dX7_needGuild_15 dX7_needGuild_16 dX7_needGuild_19 dX7_needGuild_22 ⟨Nat.le_of_ble_eq_true rfl, Nat.le_of_ble_eq_true rfl, Nat.le_of_ble_eq_true rfl, Nat.le_of_ble_eq_true rfl⟩ ⟨rfl, rfl⟩

set_option maxHeartbeats 4000000 in
set_option maxRecDepth 100000 in
theorem c_needNotOver {l : Launch} (hls : l.stackTraces = false) {D : va_G} {cy : Nat → ClassId} {wa : Nat → Nat} {N n : Nat} {ad : Nat → Nat} (hD : zD n ad) (hn : 40 ≤ n) (σ : zS) (g : Nat) (hg : g < 8) (ho : σ (8 + g) 2 = 0) (sz : Nat) : Met l yX7_needNotOver (.code yX7_needNotOver cX7_needNotOver 2 none :: zB) (zRm 0) (zPc [.ref (ad 0), .int (nI g)] D cy wa N n ad σ sz) (zQv D cy N n ad (σ) sz) 0 0 (zA n ad sz) := by
  refine z_met (by decide) hls (List.forall_mem_cons.mpr ⟨rfl, (List.forall_mem_cons.mpr ⟨rfl, (fun _ h => nomatch h)⟩)⟩) (Nat.le_of_ble_eq_true rfl) (fun p_ e_ s_ m_ below_ meth_ c_ hsz hr X => ?_)
  have X : zX p_ l s_ m_ [.ref (ad 0), .int (nI g)].toArray meth_ c_ cX7_needNotOver 2 RX7 D cy wa (zA n ad sz) := X
  have hAd : ∀ i, i < n → zA n ad sz (ad i) := fun i hi => Or.inl ⟨i, hi, rfl⟩
  refine zw_run X (is := [(0, .aload_n 0, 1)]) (t' := (1, [some (.ref (ad 0)), some (.int (nI g))], [.ref (ad 0)])) ⟨dX7_needNotOver_0, trivial⟩ rfl ?_
  refine zw_getf X (i := 0) (by omega) zc_0 (C := RX7) (T := TX7) (Nf := 16) rfl zi_X7 0 (by decide) rfl zm_18 rfl dX7_needNotOver_1 ?_
  refine zw_run X (is := [(4, .iload_n 1, 1)]) (t' := (5, [some (.ref (ad 0)), some (.int (nI g))], [.int (nI g), .ref (ad 1)])) ⟨dX7_needNotOver_4, trivial⟩ rfl ?_
  refine zw_guild X (by omega) (g := g) rfl hg dX7_needNotOver_5 ?_
  refine zw_getf X (i := 8 + g) (by omega) (zc_G hg) (C := RX1) (T := TX1) (Nf := 7) rfl zi_X1 2 (by decide) rfl zm_134 rfl dX7_needNotOver_6 ?_
  refine zw_if_eq X (tgt := 23) dX7_needNotOver_9 (by decide) (fun _ => ?_) (fun h_ => absurd ho h_)
  exact zw_vret X hr dX7_needNotOver_23 rfl rfl

set_option maxHeartbeats 4000000 in
set_option maxRecDepth 100000 in
theorem c_needNotOver_x {l : Launch} (hls : l.stackTraces = false) {D : va_G} {cy : Nat → ClassId} {wa : Nat → Nat} {N n : Nat} {ad : Nat → Nat} (hD : zD n ad) (hn : 40 ≤ n) (σ : zS) (g : Nat) (hg : g < 8) (ho : ¬ σ (8 + g) 2 = 0) (sz : Nat) : vx_Met l yX7_needNotOver (.code yX7_needNotOver cX7_needNotOver 2 none :: zB) (zRx 0) (zPc [.ref (ad 0), .int (nI g)] D cy wa N n ad σ sz) zNo (zXC "java/lang/UnsupportedOperationException" D cy N n ad (σ) sz) 1 6 (zA n ad sz) := by
  refine z_metx (by decide) hls (List.forall_mem_cons.mpr ⟨rfl, (List.forall_mem_cons.mpr ⟨rfl, (fun _ h => nomatch h)⟩)⟩) (Nat.le_of_ble_eq_true rfl) (fun p_ e_ s_ m_ below_ meth_ c_ hsz hr hno X => ?_)
  have X : zX p_ l s_ m_ [.ref (ad 0), .int (nI g)].toArray meth_ c_ cX7_needNotOver 2 RX7 D cy wa (zA n ad sz) := X
  have hAd : ∀ i, i < n → zA n ad sz (ad i) := fun i hi => Or.inl ⟨i, hi, rfl⟩
  refine zw_run X (is := [(0, .aload_n 0, 1)]) (t' := (1, [some (.ref (ad 0)), some (.int (nI g))], [.ref (ad 0)])) ⟨dX7_needNotOver_0, trivial⟩ rfl ?_
  refine zw_getf X (i := 0) (by omega) zc_0 (C := RX7) (T := TX7) (Nf := 16) rfl zi_X7 0 (by decide) rfl zm_18 rfl dX7_needNotOver_1 ?_
  refine zw_run X (is := [(4, .iload_n 1, 1)]) (t' := (5, [some (.ref (ad 0)), some (.int (nI g))], [.int (nI g), .ref (ad 1)])) ⟨dX7_needNotOver_4, trivial⟩ rfl ?_
  refine zw_guild X (by omega) (g := g) rfl hg dX7_needNotOver_5 ?_
  refine zw_getf X (i := 8 + g) (by omega) (zc_G hg) (C := RX1) (T := TX1) (Nf := 7) rfl zi_X1 2 (by decide) rfl zm_134 rfl dX7_needNotOver_6 ?_
  refine zw_if_eq X (tgt := 23) dX7_needNotOver_9 (by decide) (fun h_ => absurd h_ ho) (fun _ => ?_)
  exact zw_throwW X hno zTh_uoe (is := 358) (text := "the guild is over") (by decide +kernel) rfl rfl dX7_needNotOver_12 dX7_needNotOver_15 dX7_needNotOver_16 dX7_needNotOver_19 dX7_needNotOver_22 ⟨Nat.le_of_ble_eq_true rfl, Nat.le_of_ble_eq_true rfl, Nat.le_of_ble_eq_true rfl, Nat.le_of_ble_eq_true rfl⟩ ⟨rfl, rfl⟩

set_option maxHeartbeats 4000000 in
set_option maxRecDepth 100000 in
theorem c_write {l : Launch} (hls : l.stackTraces = false) {D : va_G} {cy : Nat → ClassId} {wa : Nat → Nat} {N n : Nat} {ad : Nat → Nat} (hD : zD n ad) (hn : 40 ≤ n) (σ : zS) (g : Nat) (hg : g < 8) (a b : Int32) (sz : Nat) : Met l yX4_write (.code yX4_write cX4_write 3 none :: zB) (zRm 0) (zPc [.ref (ad (16 + g)), .int a, .int b] D cy wa N n ad σ sz) (zQv D cy N n ad (zu (zu (zu σ (16 + g) 0 a) (16 + g) 4 a) (16 + g) 1 b) sz) 0 0 (zA n ad sz) := by
  refine z_met (by decide) hls (List.forall_mem_cons.mpr ⟨rfl, (List.forall_mem_cons.mpr ⟨rfl, (List.forall_mem_cons.mpr ⟨rfl, (fun _ h => nomatch h)⟩)⟩)⟩) (Nat.le_of_ble_eq_true rfl) (fun p_ e_ s_ m_ below_ meth_ c_ hsz hr X => ?_)
  have X : zX p_ l s_ m_ [.ref (ad (16 + g)), .int a, .int b].toArray meth_ c_ cX4_write 3 RX4 D cy wa (zA n ad sz) := X
  have hAd : ∀ i, i < n → zA n ad sz (ad i) := fun i hi => Or.inl ⟨i, hi, rfl⟩
  refine zw_run X (is := [(0, .aload_n 0, 1), (1, .iload_n 1, 1)]) (t' := (2, [some (.ref (ad (16 + g))), some (.int a), some (.int b)], [.int a, .ref (ad (16 + g))])) ⟨dX4_write_0, dX4_write_1, trivial⟩ rfl ?_
  refine zw_put X hD hAd (i := 16 + g) (by omega) (zc_P hg) (C := RX4) (T := TX4) (Nf := 7) rfl zi_X4 tyX4 tyX4_ok nmX4 0 (by decide) rfl rfl zm_123 (ty := .int) (by decide +kernel) rfl rfl (Nat.le_of_ble_eq_true rfl) (zc_P hg) dX4_write_2 ?_
  refine zw_run X (is := [(5, .aload_n 0, 1), (6, .iload_n 1, 1)]) (t' := (7, [some (.ref (ad (16 + g))), some (.int a), some (.int b)], [.int a, .ref (ad (16 + g))])) ⟨dX4_write_5, dX4_write_6, trivial⟩ rfl ?_
  refine zw_put X hD hAd (i := 16 + g) (by omega) (zc_P hg) (C := RX4) (T := TX4) (Nf := 7) rfl zi_X4 tyX4 tyX4_ok nmX4 4 (by decide) rfl rfl zm_124 (ty := .int) (by decide +kernel) rfl rfl (Nat.le_of_ble_eq_true rfl) (zc_P hg) dX4_write_7 ?_
  refine zw_run X (is := [(10, .aload_n 0, 1), (11, .iload_n 2, 1)]) (t' := (12, [some (.ref (ad (16 + g))), some (.int a), some (.int b)], [.int b, .ref (ad (16 + g))])) ⟨dX4_write_10, dX4_write_11, trivial⟩ rfl ?_
  refine zw_put X hD hAd (i := 16 + g) (by omega) (zc_P hg) (C := RX4) (T := TX4) (Nf := 7) rfl zi_X4 tyX4 tyX4_ok nmX4 1 (by decide) rfl rfl zm_125 (ty := .int) (by decide +kernel) rfl rfl (Nat.le_of_ble_eq_true rfl) (zc_P hg) dX4_write_12 ?_
  exact zw_vret X hr dX4_write_15 rfl rfl

set_option maxHeartbeats 4000000 in
set_option maxRecDepth 100000 in
theorem c_lnib {l : Launch} (hls : l.stackTraces = false) {D : va_G} {cy : Nat → ClassId} {wa : Nat → Nat} {N n : Nat} {ad : Nat → Nat} (hD : zD n ad) (hn : 40 ≤ n) (σ : zS) (g : Nat) (hg : g < 8) (sz : Nat) : Met l yX4_linesNotInBook (.code yX4_linesNotInBook cX4_linesNotInBook 1 (some .int) :: zB) (zRm 0) (zPc [.ref (ad (16 + g))] D cy wa N n ad σ sz) (zQi (σ (16 + g) 0 - σ (16 + g) 4) D cy N n ad (σ) sz) 0 0 (zA n ad sz) := by
  refine z_met (by decide) hls (List.forall_mem_cons.mpr ⟨rfl, (fun _ h => nomatch h)⟩) (Nat.le_of_ble_eq_true rfl) (fun p_ e_ s_ m_ below_ meth_ c_ hsz hr X => ?_)
  have X : zX p_ l s_ m_ [.ref (ad (16 + g))].toArray meth_ c_ cX4_linesNotInBook 1 RX4 D cy wa (zA n ad sz) := X
  have hAd : ∀ i, i < n → zA n ad sz (ad i) := fun i hi => Or.inl ⟨i, hi, rfl⟩
  refine zw_run X (is := [(0, .aload_n 0, 1)]) (t' := (1, [some (.ref (ad (16 + g)))], [.ref (ad (16 + g))])) ⟨dX4_linesNotInBook_0, trivial⟩ rfl ?_
  refine zw_getf X (i := 16 + g) (by omega) (zc_P hg) (C := RX4) (T := TX4) (Nf := 7) rfl zi_X4 0 (by decide) rfl zm_123 rfl dX4_linesNotInBook_1 ?_
  refine zw_run X (is := [(4, .aload_n 0, 1)]) (t' := (5, [some (.ref (ad (16 + g)))], [.ref (ad (16 + g)), .int (σ (16 + g) 0)])) ⟨dX4_linesNotInBook_4, trivial⟩ rfl ?_
  refine zw_getf X (i := 16 + g) (by omega) (zc_P hg) (C := RX4) (T := TX4) (Nf := 7) rfl zi_X4 4 (by decide) rfl zm_124 rfl dX4_linesNotInBook_5 ?_
  refine zw_run X (is := [(8, .isub, 1)]) (t' := (9, [some (.ref (ad (16 + g)))], [.int ((σ (16 + g) 0) - (σ (16 + g) 4))])) ⟨dX4_linesNotInBook_8, trivial⟩ rfl ?_
  exact zw_iret X hr dX4_linesNotInBook_9 rfl rfl rfl

set_option maxHeartbeats 4000000 in
set_option maxRecDepth 100000 in
theorem c_leafCount {l : Launch} (hls : l.stackTraces = false) {D : va_G} {cy : Nat → ClassId} {wa : Nat → Nat} {N n : Nat} {ad : Nat → Nat} (hD : zD n ad) (hn : 40 ≤ n) (σ : zS) (g : Nat) (hg : g < 8) (sz : Nat) : Met l yX4_leafCount (.code yX4_leafCount cX4_leafCount 1 (some .int) :: zB) (zRm 0) (zPc [.ref (ad (16 + g))] D cy wa N n ad σ sz) (zQi ((σ (16 + g) 4 + 40 - 1) / 40) D cy N n ad (σ) sz) 0 0 (zA n ad sz) := by
  refine z_met (by decide) hls (List.forall_mem_cons.mpr ⟨rfl, (fun _ h => nomatch h)⟩) (Nat.le_of_ble_eq_true rfl) (fun p_ e_ s_ m_ below_ meth_ c_ hsz hr X => ?_)
  have X : zX p_ l s_ m_ [.ref (ad (16 + g))].toArray meth_ c_ cX4_leafCount 1 RX4 D cy wa (zA n ad sz) := X
  have hAd : ∀ i, i < n → zA n ad sz (ad i) := fun i hi => Or.inl ⟨i, hi, rfl⟩
  refine zw_run X (is := [(0, .aload_n 0, 1)]) (t' := (1, [some (.ref (ad (16 + g)))], [.ref (ad (16 + g))])) ⟨dX4_leafCount_0, trivial⟩ rfl ?_
  refine zw_getf X (i := 16 + g) (by omega) (zc_P hg) (C := RX4) (T := TX4) (Nf := 7) rfl zi_X4 4 (by decide) rfl zm_124 rfl dX4_leafCount_1 ?_
  refine zw_run X (is := [(4, .bipush 40, 2), (6, .iadd, 1), (7, .iconst 1, 1), (8, .isub, 1), (9, .bipush 40, 2)]) (t' := (11, [some (.ref (ad (16 + g)))], [.int 40, .int (((σ (16 + g) 4) + 40) - 1)])) ⟨dX4_leafCount_4, dX4_leafCount_6, dX4_leafCount_7, dX4_leafCount_8, dX4_leafCount_9, trivial⟩ rfl ?_
  refine zw_div X (by decide) dX4_leafCount_11 ?_
  exact zw_iret X hr dX4_leafCount_12 rfl rfl rfl
