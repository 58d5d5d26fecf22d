/-! What the Statement gives of the start. -/
abbrev zFl : List Cond := flatC (Jvm.Cond.and given_1 narrow_1)
/-- array classes, by their words -/
theorem zs_arr {args : Array Value} {s : State} {ty : FieldType} (h : (Cond.arrayClass ty).before args s = true) (hs : ∀ c : ClassId, s.vm.findClass ("[" ++ ty.toString) = some c → va_RA s c ty) : ∃ c : ClassId, ArrOfT s c ty ∧ va_RA s c ty := by
  obtain ⟨c, k, comp, h1, h2, h3⟩ := Cond.arrayClass_spec (args := args) (first := s) (o := none) (s := s) (idx := []) h
  exact ⟨c, fun n z => ⟨fun _ q => (by cases q), k, h2, comp, h3⟩, hs c h1⟩
theorem zs_over {args : Array Value} {s : State} {C : String} (h : (Cond.arrayOver (.object C)).before args s = true) : ∃ c : ClassId, ArrOfT s c (.object C) ∧ va_RA s c (.object C) := by
  obtain ⟨comp, c, k, h1, -, h2, h3, h4⟩ := Cond.arrayOver_spec (args := args) (first := s) (o := none) (s := s) (idx := []) h
  exact ⟨c, fun n z => ⟨fun _ q => (by cases q), k, h2, comp, h3⟩, k, comp, h2, h3, h1, h4⟩
theorem zs_overA {args : Array Value} {s : State} {t : FieldType} (h : (Cond.arrayOver (.array t)).before args s = true) : ∃ (c comp : ClassId) (k : Class), ArrOfT s c (.array t) ∧ va_RA s c (.array t) ∧ s.vm.findClass (FieldType.array t).toString = some comp ∧ s.vm.classes[c]? = some k ∧ k.kind = .array comp (.array t) := by
  obtain ⟨comp, c, k, h1, h2, h3, h4⟩ := Cond.arrayOver_specA (args := args) (first := s) (o := none) (s := s) (idx := []) h
  exact ⟨c, comp, k, fun n z => ⟨fun _ q => (by cases q), k, h2, comp, h3⟩, h4, h1, h2, h3⟩
/-- a String constant of known bytes -/
theorem zs_str {args : Array Value} {s : State} {A : Nat → Prop} (hA : ∀ a : Nat, a < s.heap.size → ¬ A a) (tm : Term) (len : Nat) (byt : List Int32) (hlen : len < 2 ^ 31) (h1 : (Cond.exactly tm "java/lang/String").before args s = true) (h2 : (Cond.eq (.field tm "java/lang/String" "coder" "B") (.int 0)).before args s = true)
    (h3 : (Cond.arrayOf (.field tm "java/lang/String" "value" "[B") .byte).before args s = true) (h4 : (Cond.eq (.length (.field tm "java/lang/String" "value" "[B")) (.int (Int32.ofNat len))).before args s = true)
    (h5 : ∀ j : Nat, j < len → (Cond.eq (.elem (.field tm "java/lang/String" "value" "[B") (.int (Int32.ofNat j))) (.int (byt.getD j 0))).before args s = true) : ∃ a v : Nat, zG len byt a v A s s.heap ∧ tm.eval args s none [] s = some (.ref a) := by
  obtain ⟨adK, adV, ⟨g1, -⟩, g2⟩ := vk_Sof (N := 1) (tm := fun _ => tm) (len := [len]) (byt := [byt]) (A := A) (fun i hi => by rcases i with _ | i <;> first | exact hlen | omega) (fun _ _ => h1) (fun _ _ => h2) (fun _ _ => h3) (fun i hi => by rcases i with _ | i <;> first | exact h4 | omega) (fun i hi j hj => by rcases i with _ | i <;> first | exact h5 j hj | omega) (fun i j hi hj hij => absurd (show i = j by omega) hij) hA
  exact ⟨adK 0, adV 0, g1 0 (by decide), g2 0 (by decide)⟩

theorem zs_w0 {args : Array Value} {s : State} {A : Nat → Prop} (hA : ∀ a : Nat, a < s.heap.size → ¬ A a) (hs : ∀ c ∈ zFl, c.before args s = true) : ∃ a v : Nat, zG 8 [99, 114, 101, 97, 116, 105, 111, 110] a v A s s.heap ∧ (Term.string "Wagonplay$Letters" 37).eval args s none [] s = some (.ref a) :=
  zs_str hA (Term.string "Wagonplay$Letters" 37) 8 [99, 114, 101, 97, 116, 105, 111, 110] (by decide) (hs _ (by decide +kernel)) (hs _ (by decide +kernel)) (hs _ (by decide +kernel)) (hs _ (by decide +kernel)) (fun j hj => hs _ ((show ∀ j, j < 8 → Cond.eq (.elem (.field (Term.string "Wagonplay$Letters" 37) "java/lang/String" "value" "[B") (.int (Int32.ofNat j))) (.int (([99, 114, 101, 97, 116, 105, 111, 110] : List Int32).getD j 0)) ∈ zFl from by decide +kernel) j hj))

theorem zs_w1 {args : Array Value} {s : State} {A : Nat → Prop} (hA : ∀ a : Nat, a < s.heap.size → ¬ A a) (hs : ∀ c ∈ zFl, c.before args s = true) : ∃ a v : Nat, zG 5 [102, 108, 111, 111, 100] a v A s s.heap ∧ (Term.string "Wagonplay$Letters" 39).eval args s none [] s = some (.ref a) :=
  zs_str hA (Term.string "Wagonplay$Letters" 39) 5 [102, 108, 111, 111, 100] (by decide) (hs _ (by decide +kernel)) (hs _ (by decide +kernel)) (hs _ (by decide +kernel)) (hs _ (by decide +kernel)) (fun j hj => hs _ ((show ∀ j, j < 5 → Cond.eq (.elem (.field (Term.string "Wagonplay$Letters" 39) "java/lang/String" "value" "[B") (.int (Int32.ofNat j))) (.int (([102, 108, 111, 111, 100] : List Int32).getD j 0)) ∈ zFl from by decide +kernel) j hj))

theorem zs_w2 {args : Array Value} {s : State} {A : Nat → Prop} (hA : ∀ a : Nat, a < s.heap.size → ¬ A a) (hs : ∀ c ∈ zFl, c.before args s = true) : ∃ a v : Nat, zG 5 [98, 105, 114, 116, 104] a v A s s.heap ∧ (Term.string "Wagonplay$Letters" 41).eval args s none [] s = some (.ref a) :=
  zs_str hA (Term.string "Wagonplay$Letters" 41) 5 [98, 105, 114, 116, 104] (by decide) (hs _ (by decide +kernel)) (hs _ (by decide +kernel)) (hs _ (by decide +kernel)) (hs _ (by decide +kernel)) (fun j hj => hs _ ((show ∀ j, j < 5 → Cond.eq (.elem (.field (Term.string "Wagonplay$Letters" 41) "java/lang/String" "value" "[B") (.int (Int32.ofNat j))) (.int (([98, 105, 114, 116, 104] : List Int32).getD j 0)) ∈ zFl from by decide +kernel) j hj))

theorem zs_w3 {args : Array Value} {s : State} {A : Nat → Prop} (hA : ∀ a : Nat, a < s.heap.size → ¬ A a) (hs : ∀ c ∈ zFl, c.before args s = true) : ∃ a v : Nat, zG 7 [112, 97, 115, 115, 105, 111, 110] a v A s s.heap ∧ (Term.string "Wagonplay$Letters" 43).eval args s none [] s = some (.ref a) :=
  zs_str hA (Term.string "Wagonplay$Letters" 43) 7 [112, 97, 115, 115, 105, 111, 110] (by decide) (hs _ (by decide +kernel)) (hs _ (by decide +kernel)) (hs _ (by decide +kernel)) (hs _ (by decide +kernel)) (fun j hj => hs _ ((show ∀ j, j < 7 → Cond.eq (.elem (.field (Term.string "Wagonplay$Letters" 43) "java/lang/String" "value" "[B") (.int (Int32.ofNat j))) (.int (([112, 97, 115, 115, 105, 111, 110] : List Int32).getD j 0)) ∈ zFl from by decide +kernel) j hj))

theorem zs_w4 {args : Array Value} {s : State} {A : Nat → Prop} (hA : ∀ a : Nat, a < s.heap.size → ¬ A a) (hs : ∀ c ∈ zFl, c.before args s = true) : ∃ a v : Nat, zG 4 [100, 111, 111, 109] a v A s s.heap ∧ (Term.string "Wagonplay$Letters" 45).eval args s none [] s = some (.ref a) :=
  zs_str hA (Term.string "Wagonplay$Letters" 45) 4 [100, 111, 111, 109] (by decide) (hs _ (by decide +kernel)) (hs _ (by decide +kernel)) (hs _ (by decide +kernel)) (hs _ (by decide +kernel)) (fun j hj => hs _ ((show ∀ j, j < 4 → Cond.eq (.elem (.field (Term.string "Wagonplay$Letters" 45) "java/lang/String" "value" "[B") (.int (Int32.ofNat j))) (.int (([100, 111, 111, 109] : List Int32).getD j 0)) ∈ zFl from by decide +kernel) j hj))

theorem zs_w5 {args : Array Value} {s : State} {A : Nat → Prop} (hA : ∀ a : Nat, a < s.heap.size → ¬ A a) (hs : ∀ c ∈ zFl, c.before args s = true) : ∃ a v : Nat, zG 6 [102, 108, 111, 111, 100, 115] a v A s s.heap ∧ (Term.string "WagonplayLaw" 177).eval args s none [] s = some (.ref a) :=
  zs_str hA (Term.string "WagonplayLaw" 177) 6 [102, 108, 111, 111, 100, 115] (by decide) (hs _ (by decide +kernel)) (hs _ (by decide +kernel)) (hs _ (by decide +kernel)) (hs _ (by decide +kernel)) (fun j hj => hs _ ((show ∀ j, j < 6 → Cond.eq (.elem (.field (Term.string "WagonplayLaw" 177) "java/lang/String" "value" "[B") (.int (Int32.ofNat j))) (.int (([102, 108, 111, 111, 100, 115] : List Int32).getD j 0)) ∈ zFl from by decide +kernel) j hj))

theorem zs_msg {args : Array Value} {s : State} (hts : ∀ w ∈ lw_tbl, w.before args s = true) (hs : ∀ c ∈ zFl, c.before args s = true) : ∀ q ∈ zMs, ∃ a : Nat, vk_R q.1 q.2.1 q.2.2 a s := by
  intro q hq
  have h1 : Cond.stringRef q.1 q.2.1 q.2.2 ∈ lw_tbl := (show ∀ q ∈ zMs, Cond.stringRef q.1 q.2.1 q.2.2 ∈ lw_tbl from by decide +kernel) q hq
  have h2 : Cond.exactly (.string q.1 q.2.1) "java/lang/String" ∈ zFl := (show ∀ q ∈ zMs, Cond.exactly (.string q.1 q.2.1) "java/lang/String" ∈ zFl from by decide +kernel) q hq
  obtain ⟨a, c, cA, kA, q1, -⟩ := Cond.exactly_spec (args := args) (first := s) (o := none) (s := s) (idx := []) (hs _ h2)
  exact ⟨a, vk_R.of (hts _ h1) q1⟩

theorem zs_nc {args : Array Value} {s : State} (hs : ∀ c ∈ zFl, c.before args s = true) : ∀ q ∈ zNs, va_Nc q.1 q.2 s := fun q hq => va_Nc.of (hs _ ((show ∀ q ∈ zNs, Cond.not (.castable q.1 q.2) ∈ zFl from by decide +kernel) q hq))
theorem zs_cs {args : Array Value} {s : State} (hts : ∀ w ∈ lw_tbl, w.before args s = true) : ∀ E ∈ zCs, va_Nw (.castable E E) s := fun E hE => va_Nw.of rfl (hts _ ((show ∀ E ∈ zCs, Cond.castable E E ∈ lw_tbl from by decide +kernel) E hE))
theorem zs_ds {args : Array Value} {s : State} (hts : ∀ w ∈ lw_tbl, w.before args s = true) : ∀ Y ∈ zDs, va_Nw (.declares ⟨Y, "<init>", "(Ljava/lang/String;)V"⟩) s := fun Y hY => va_Nw.of rfl (hts _ ((show ∀ Y ∈ zDs, Cond.declares ⟨Y, "<init>", "(Ljava/lang/String;)V"⟩ ∈ lw_tbl from by decide +kernel) Y hY))
theorem zs_nest {args : Array Value} {s : State} (hts : ∀ w ∈ lw_tbl, w.before args s = true) : zN s :=
  ⟨va_Nw.of rfl (hts _ (by decide +kernel)), va_Nw.of rfl (hts _ (by decide +kernel)), va_Nw.of rfl (hts _ (by decide +kernel)), va_Nw.of rfl (hts _ (by decide +kernel)), va_AO.of (hts _ (by decide +kernel)), va_AO.of (hts _ (by decide +kernel)), va_AO.of (hts _ (by decide +kernel))⟩

theorem zs_M {args : Array Value} {s : State} {wa : Nat → Nat} (hts : ∀ w ∈ lw_tbl, w.before args s = true) (hs : ∀ c ∈ zFl, c.before args s = true) (e0 : (Term.string "Wagonplay$Letters" 37).eval args s none [] s = some (.ref (wa 0))) (e1 : (Term.string "Wagonplay$Letters" 39).eval args s none [] s = some (.ref (wa 1))) (e2 : (Term.string "Wagonplay$Letters" 41).eval args s none [] s = some (.ref (wa 2))) (e3 : (Term.string "Wagonplay$Letters" 43).eval args s none [] s = some (.ref (wa 3))) (e4 : (Term.string "Wagonplay$Letters" 45).eval args s none [] s = some (.ref (wa 4))) (e5 : (Term.string "WagonplayLaw" 177).eval args s none [] s = some (.ref (wa 5))) : zM wa s := by
  refine ⟨zs_msg hts hs, ?_, zs_nc hs, zs_cs hts, zs_ds hts⟩
  have f0 : (Term.string "WagonplayLaw" 116).eval args s none [] s = some (.ref (wa 0)) := by
    obtain ⟨y, hy1, hy2⟩ := Cond.eq_one (args := args) (first := s) (o := none) (s := s) (idx := []) (hs (Cond.eq (.string "Wagonplay$Letters" 37) (.string "WagonplayLaw" 116)) (by decide +kernel))
    rw [hy2, ← hy1]
    exact e0
  have f1 : (Term.string "WagonplayLaw" 118).eval args s none [] s = some (.ref (wa 1)) := by
    obtain ⟨y, hy1, hy2⟩ := Cond.eq_one (args := args) (first := s) (o := none) (s := s) (idx := []) (hs (Cond.eq (.string "Wagonplay$Letters" 39) (.string "WagonplayLaw" 118)) (by decide +kernel))
    rw [hy2, ← hy1]
    exact e1
  have f2 : (Term.string "WagonplayLaw" 120).eval args s none [] s = some (.ref (wa 2)) := by
    obtain ⟨y, hy1, hy2⟩ := Cond.eq_one (args := args) (first := s) (o := none) (s := s) (idx := []) (hs (Cond.eq (.string "Wagonplay$Letters" 41) (.string "WagonplayLaw" 120)) (by decide +kernel))
    rw [hy2, ← hy1]
    exact e2
  have f3 : (Term.string "WagonplayLaw" 122).eval args s none [] s = some (.ref (wa 3)) := by
    obtain ⟨y, hy1, hy2⟩ := Cond.eq_one (args := args) (first := s) (o := none) (s := s) (idx := []) (hs (Cond.eq (.string "Wagonplay$Letters" 43) (.string "WagonplayLaw" 122)) (by decide +kernel))
    rw [hy2, ← hy1]
    exact e3
  have f4 : (Term.string "WagonplayLaw" 124).eval args s none [] s = some (.ref (wa 4)) := by
    obtain ⟨y, hy1, hy2⟩ := Cond.eq_one (args := args) (first := s) (o := none) (s := s) (idx := []) (hs (Cond.eq (.string "Wagonplay$Letters" 45) (.string "WagonplayLaw" 124)) (by decide +kernel))
    rw [hy2, ← hy1]
    exact e4
  exact List.forall_mem_cons.mpr ⟨vk_R.of (hts (.stringRef "Wagonplay$Letters" 37 "creation") (by decide +kernel)) e0, List.forall_mem_cons.mpr ⟨vk_R.of (hts (.stringRef "Wagonplay$Letters" 39 "flood") (by decide +kernel)) e1, List.forall_mem_cons.mpr ⟨vk_R.of (hts (.stringRef "Wagonplay$Letters" 41 "birth") (by decide +kernel)) e2, List.forall_mem_cons.mpr ⟨vk_R.of (hts (.stringRef "Wagonplay$Letters" 43 "passion") (by decide +kernel)) e3, List.forall_mem_cons.mpr ⟨vk_R.of (hts (.stringRef "Wagonplay$Letters" 45 "doom") (by decide +kernel)) e4, List.forall_mem_cons.mpr ⟨vk_R.of (hts (.stringRef "WagonplayLaw" 116 "creation") (by decide +kernel)) f0, List.forall_mem_cons.mpr ⟨vk_R.of (hts (.stringRef "WagonplayLaw" 118 "flood") (by decide +kernel)) f1, List.forall_mem_cons.mpr ⟨vk_R.of (hts (.stringRef "WagonplayLaw" 120 "birth") (by decide +kernel)) f2, List.forall_mem_cons.mpr ⟨vk_R.of (hts (.stringRef "WagonplayLaw" 122 "passion") (by decide +kernel)) f3, List.forall_mem_cons.mpr ⟨vk_R.of (hts (.stringRef "WagonplayLaw" 124 "doom") (by decide +kernel)) f4, List.forall_mem_cons.mpr ⟨vk_R.of (hts (.stringRef "WagonplayLaw" 177 "floods") (by decide +kernel)) e5, fun _ h => absurd h List.not_mem_nil⟩⟩⟩⟩⟩⟩⟩⟩⟩⟩⟩

theorem zs_D {args : Array Value} {s : State} (hts : ∀ w ∈ lw_tbl, w.before args s = true) : ∃ D : va_G, ∀ (c : Nat) (q : vw_C), vwCl[c]? = some q → u_Kn s q.1 q.2.1 q.2.2 (D.1 c) (D.2 c) := by
  obtain ⟨c0, i0, k0⟩ := u_known (C := RJ0) (T := TJ0) (N := 2) (n := 4) hts (by decide +kernel) (hts (.instantiable RJ0 4) (by decide +kernel))
  obtain ⟨c1, i1, k1⟩ := u_known (C := RJx00060) (T := TJx00060) (N := 6) (n := 6) hts (by decide +kernel) (hts (.instantiable RJx00060 6) (by decide +kernel))
  obtain ⟨c2, i2, k2⟩ := u_known (C := RX0) (T := TX0) (N := 3) (n := 3) hts (fun w h => zB_in w (zi_X0 w h)) (hts (.instantiable RX0 3) (by decide +kernel))
  obtain ⟨c3, i3, k3⟩ := u_known (C := RX1) (T := TX1) (N := 7) (n := 7) hts (fun w h => zB_in w (zi_X1 w h)) (hts (.instantiable RX1 7) (by decide +kernel))
  obtain ⟨c4, i4, k4⟩ := u_known (C := RX2) (T := TX2) (N := 2) (n := 2) hts (fun w h => zB_in w (zi_X2 w h)) (hts (.instantiable RX2 2) (by decide +kernel))
  obtain ⟨c5, i5, k5⟩ := u_known (C := RX3) (T := TX3) (N := 3) (n := 3) hts (fun w h => zB_in w (zi_X3 w h)) (hts (.instantiable RX3 3) (by decide +kernel))
  obtain ⟨c6, i6, k6⟩ := u_known (C := RX4) (T := TX4) (N := 7) (n := 7) hts (fun w h => zB_in w (zi_X4 w h)) (hts (.instantiable RX4 7) (by decide +kernel))
  obtain ⟨c7, i7, k7⟩ := u_known (C := RX5) (T := TX5) (N := 8) (n := 8) hts (fun w h => zB_in w (zi_X5 w h)) (hts (.instantiable RX5 8) (by decide +kernel))
  obtain ⟨c8, i8, k8⟩ := u_known (C := RX6) (T := TX6) (N := 7) (n := 7) hts (fun w h => zB_in w (zi_X6 w h)) (hts (.instantiable RX6 7) (by decide +kernel))
  obtain ⟨c9, i9, k9⟩ := u_known (C := RX7) (T := TX7) (N := 16) (n := 16) hts (fun w h => zB_in w (zi_X7 w h)) (hts (.instantiable RX7 16) (by decide +kernel))
  refine ⟨(fun j => [c0, c1, c2, c3, c4, c5, c6, c7, c8, c9].getD j c0, fun j => [i0, i1, i2, i3, i4, i5, i6, i7, i8, i9].getD j i0), fun j q hq => ?_⟩
  match j, hq with
  | 0, hq => cases hq; exact k0
  | 1, hq => cases hq; exact k1
  | 2, hq => cases hq; exact k2
  | 3, hq => cases hq; exact k3
  | 4, hq => cases hq; exact k4
  | 5, hq => cases hq; exact k5
  | 6, hq => cases hq; exact k6
  | 7, hq => cases hq; exact k7
  | 8, hq => cases hq; exact k8
  | 9, hq => cases hq; exact k9
  | j + 10, hq => simp [vwCl] at hq

/-- the array classes of the start; of the two arrays of arrays also what their rows are -/
def zRw (cy : Nat → ClassId) (s : State) : Prop := (∃ k : Class, s.vm.classes[cy 4]? = some k ∧ k.kind = .array (cy 1) (.array .boolean)) ∧ va_AOA .boolean s ∧ va_AOA .int s ∧ s.vm.findClass (FieldType.array .boolean).toString = some (cy 1) ∧ s.vm.findClass (FieldType.array .int).toString = some (cy 0)
theorem zs_K {args : Array Value} {s : State} (hts : ∀ w ∈ lw_tbl, w.before args s = true) : ∃ (D : va_G) (cy : Nat → ClassId), va_K D vwCl (zt cy) s ∧ zRw cy s := by
  obtain ⟨D, hD⟩ := zs_D hts
  obtain ⟨c0, a0, r0⟩ := zs_arr (hts (.arrayClass .int) (by decide +kernel)) (fun _ h => h)
  obtain ⟨c1, a1, r1⟩ := zs_arr (hts (.arrayClass .boolean) (by decide +kernel)) (fun _ h => h)
  obtain ⟨c2, a2, r2⟩ := zs_arr (hts (.arrayClass .char) (by decide +kernel)) (fun _ h => h)
  obtain ⟨c3, a3, r3⟩ := zs_over (C := "Wagonplay$Guild") (hts (.arrayOver (.object "Wagonplay$Guild")) (by decide +kernel))
  obtain ⟨c4, p4, k4, a4, r4, f4, g4, h4⟩ := zs_overA (t := .boolean) (hts (.arrayOver (.array .boolean)) (by decide +kernel))
  obtain ⟨c5, p5, k5, a5, r5, f5, g5, h5⟩ := zs_overA (t := .int) (hts (.arrayOver (.array .int)) (by decide +kernel))
  obtain rfl : p4 = c1 := Option.some.inj (f4.symm.trans (show s.vm.findClass (FieldType.array .boolean).toString = some c1 from r1))
  obtain rfl : p5 = c0 := Option.some.inj (f5.symm.trans (show s.vm.findClass (FieldType.array .int).toString = some c0 from r0))
  refine ⟨D, fun j => [p5, p4, c2, c3, c4, c5].getD j p5, ⟨hD, fun k q hq => ?_⟩, ⟨k4, g4, h4⟩, va_AOA.of (hts (.arrayOver (.array .boolean)) (by decide +kernel)), va_AOA.of (hts (.arrayOver (.array .int)) (by decide +kernel)), f4, f5⟩
  match k, hq with
  | 0, hq => cases hq; exact ⟨a0, r0⟩
  | 1, hq => cases hq; exact ⟨a1, r1⟩
  | 2, hq => cases hq; exact ⟨a2, r2⟩
  | 3, hq => cases hq; exact ⟨a3, r3⟩
  | 4, hq => cases hq; exact ⟨a4, r4⟩
  | 5, hq => cases hq; exact ⟨a5, r5⟩
  | k + 6, hq => simp [zt] at hq
theorem zs_E {args : Array Value} {s : State} (hts : ∀ w ∈ lw_tbl, w.before args s = true) (hs : ∀ c ∈ zFl, c.before args s = true) : ∃ wa : Nat → Nat, zE wa (fun q => s.heap.size ≤ q) s s.heap ∧ zM wa s := by
  have hA : ∀ a : Nat, a < s.heap.size → ¬ (fun q => s.heap.size ≤ q) a := fun a h => Nat.not_le.mpr h
  obtain ⟨a0, v0, g0, e0⟩ := zs_w0 (A := fun q => s.heap.size ≤ q) hA hs
  obtain ⟨a1, v1, g1, e1⟩ := zs_w1 (A := fun q => s.heap.size ≤ q) hA hs
  obtain ⟨a2, v2, g2, e2⟩ := zs_w2 (A := fun q => s.heap.size ≤ q) hA hs
  obtain ⟨a3, v3, g3, e3⟩ := zs_w3 (A := fun q => s.heap.size ≤ q) hA hs
  obtain ⟨a4, v4, g4, e4⟩ := zs_w4 (A := fun q => s.heap.size ≤ q) hA hs
  obtain ⟨a5, v5, g5, e5⟩ := zs_w5 (A := fun q => s.heap.size ≤ q) hA hs
  refine ⟨fun j => [a0, a1, a2, a3, a4, a5, 0, 0, 0, 0, v0, v1, v2, v3, v4, v5].getD j 0, ⟨?_, ?_, ?_, ?_, g0, g1, g2, g3, g4, g5⟩, zs_M hts hs e0 e1 e2 e3 e4 e5⟩
  · exact vx_Zqof (hts _ (by decide +kernel)) (hts _ (by decide +kernel)) (hs _ (by decide +kernel)) hA
  · exact vx_Zqof (hts _ (by decide +kernel)) (hts _ (by decide +kernel)) (hs _ (by decide +kernel)) hA
  · exact va_Zof (hts _ (by decide +kernel)) (hts _ (by decide +kernel)) (va_eqi (hs _ (by decide +kernel))) hA
  · exact va_Zqof (hts _ (by decide +kernel)) (hts _ (by decide +kernel)) (hs _ (by decide +kernel)) hA
