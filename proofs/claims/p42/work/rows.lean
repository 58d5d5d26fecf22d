section
-- ===== PART A: goes FIRST, ahead of the names: the tables' words, and 'selects' of the private methods out of them =====
/-- a private method of a class that the tables say can be made, by its rows of tables_1 -/
def lw_okq (q : MethodName × Nat) : Prop := (q.1.cls ≠ "java/lang/invoke/MethodHandle" ∧ q.1.cls ≠ "java/lang/invoke/VarHandle") ∧ Cond.instantiable q.1.cls q.2 ∈ tables_1 ∧ Cond.privateMethod q.1 ∈ tables_1 ∧ Cond.instanceMethod q.1 ∈ tables_1
theorem lw_p0 : lw_okq (⟨"Wagonplay", "isMoneySound", "()Z"⟩, 16) := ⟨⟨by decide +kernel, by decide +kernel⟩, List.mem_of_getElem? (i := 23) (by decide +kernel), List.mem_of_getElem? (i := 312) (by decide +kernel), List.mem_of_getElem? (i := 313) (by decide +kernel)⟩
theorem lw_p1 : lw_okq (⟨"Wagonplay", "isOrderSound", "()Z"⟩, 16) := ⟨⟨by decide +kernel, by decide +kernel⟩, List.mem_of_getElem? (i := 23) (by decide +kernel), List.mem_of_getElem? (i := 316) (by decide +kernel), List.mem_of_getElem? (i := 317) (by decide +kernel)⟩
theorem lw_p2 : lw_okq (⟨"Wagonplay$Plan", "isWaySound", "(I)Z"⟩, 3) := ⟨⟨by decide +kernel, by decide +kernel⟩, List.mem_of_getElem? (i := 100) (by decide +kernel), List.mem_of_getElem? (i := 324) (by decide +kernel), List.mem_of_getElem? (i := 325) (by decide +kernel)⟩
theorem lw_p3 : lw_okq (⟨"Wagonplay$Plan", "isApart", "(I)Z"⟩, 3) := ⟨⟨by decide +kernel, by decide +kernel⟩, List.mem_of_getElem? (i := 100) (by decide +kernel), List.mem_of_getElem? (i := 328) (by decide +kernel), List.mem_of_getElem? (i := 329) (by decide +kernel)⟩
theorem lw_p4 : lw_okq (⟨"Wagonplay$Plan", "overlap", "(LWagonplay$Show;LWagonplay$Show;)Z"⟩, 3) := ⟨⟨by decide +kernel, by decide +kernel⟩, List.mem_of_getElem? (i := 100) (by decide +kernel), List.mem_of_getElem? (i := 332) (by decide +kernel), List.mem_of_getElem? (i := 333) (by decide +kernel)⟩
theorem lw_p5 : lw_okq (⟨"java/lang/Throwable", "fillInStackTrace", "(I)Ljava/lang/Throwable;"⟩, 6) := ⟨⟨by decide +kernel, by decide +kernel⟩, List.mem_of_getElem? (i := 392) (by decide +kernel), List.mem_of_getElem? (i := 390) (by decide +kernel), List.mem_of_getElem? (i := 391) (by decide +kernel)⟩
theorem lw_p6 : lw_okq (⟨"Wagonplay", "needGuild", "(I)V"⟩, 16) := ⟨⟨by decide +kernel, by decide +kernel⟩, List.mem_of_getElem? (i := 23) (by decide +kernel), List.mem_of_getElem? (i := 476) (by decide +kernel), List.mem_of_getElem? (i := 477) (by decide +kernel)⟩
theorem lw_p7 : lw_okq (⟨"Wagonplay", "needNotOver", "(I)V"⟩, 16) := ⟨⟨by decide +kernel, by decide +kernel⟩, List.mem_of_getElem? (i := 23) (by decide +kernel), List.mem_of_getElem? (i := 494) (by decide +kernel), List.mem_of_getElem? (i := 495) (by decide +kernel)⟩
theorem lw_p8 : lw_okq (⟨"Wagonplay", "typedSubject", "()I"⟩, 16) := ⟨⟨by decide +kernel, by decide +kernel⟩, List.mem_of_getElem? (i := 23) (by decide +kernel), List.mem_of_getElem? (i := 543) (by decide +kernel), List.mem_of_getElem? (i := 544) (by decide +kernel)⟩
theorem lw_p9 : lw_okq (⟨"Wagonplay$Letters", "isTyped", "(Ljava/lang/String;)Z"⟩, 2) := ⟨⟨by decide +kernel, by decide +kernel⟩, List.mem_of_getElem? (i := 85) (by decide +kernel), List.mem_of_getElem? (i := 559) (by decide +kernel), List.mem_of_getElem? (i := 560) (by decide +kernel)⟩
theorem lw_p10 : lw_okq (⟨"Wagonplay", "charge", "(LWagonplay$Guild;I)V"⟩, 16) := ⟨⟨by decide +kernel, by decide +kernel⟩, List.mem_of_getElem? (i := 23) (by decide +kernel), List.mem_of_getElem? (i := 645) (by decide +kernel), List.mem_of_getElem? (i := 646) (by decide +kernel)⟩
theorem lw_p11 : lw_okq (⟨"Wagonplay", "placeOf", "(I)I"⟩, 16) := ⟨⟨by decide +kernel, by decide +kernel⟩, List.mem_of_getElem? (i := 23) (by decide +kernel), List.mem_of_getElem? (i := 656) (by decide +kernel), List.mem_of_getElem? (i := 657) (by decide +kernel)⟩
theorem lw_p12 : lw_okq (⟨"Wagonplay", "needStations", "()V"⟩, 16) := ⟨⟨by decide +kernel, by decide +kernel⟩, List.mem_of_getElem? (i := 23) (by decide +kernel), List.mem_of_getElem? (i := 682) (by decide +kernel), List.mem_of_getElem? (i := 683) (by decide +kernel)⟩
theorem lw_p13 : lw_okq (⟨"Wagonplay", "plan", "(LWagonplay$Plan;[II)V"⟩, 16) := ⟨⟨by decide +kernel, by decide +kernel⟩, List.mem_of_getElem? (i := 23) (by decide +kernel), List.mem_of_getElem? (i := 688) (by decide +kernel), List.mem_of_getElem? (i := 689) (by decide +kernel)⟩
theorem lw_p14 : lw_okq (⟨"Wagonplay", "takesPart", "(I)Z"⟩, 16) := ⟨⟨by decide +kernel, by decide +kernel⟩, List.mem_of_getElem? (i := 23) (by decide +kernel), List.mem_of_getElem? (i := 696) (by decide +kernel), List.mem_of_getElem? (i := 697) (by decide +kernel)⟩
theorem lw_p15 : lw_okq (⟨"Wagonplay$Plan", "playAt", "(ILWagonplay$Show;LWagonplay$Guild;LWagonplay$Ground;)V"⟩, 3) := ⟨⟨by decide +kernel, by decide +kernel⟩, List.mem_of_getElem? (i := 100) (by decide +kernel), List.mem_of_getElem? (i := 708) (by decide +kernel), List.mem_of_getElem? (i := 709) (by decide +kernel)⟩
def lw_privs_1 : List (MethodName × Nat) := [(⟨"Wagonplay", "isMoneySound", "()Z"⟩, 16), (⟨"Wagonplay", "isOrderSound", "()Z"⟩, 16), (⟨"Wagonplay$Plan", "isWaySound", "(I)Z"⟩, 3), (⟨"Wagonplay$Plan", "isApart", "(I)Z"⟩, 3), (⟨"Wagonplay$Plan", "overlap", "(LWagonplay$Show;LWagonplay$Show;)Z"⟩, 3), (⟨"java/lang/Throwable", "fillInStackTrace", "(I)Ljava/lang/Throwable;"⟩, 6), (⟨"Wagonplay", "needGuild", "(I)V"⟩, 16), (⟨"Wagonplay", "needNotOver", "(I)V"⟩, 16), (⟨"Wagonplay", "typedSubject", "()I"⟩, 16), (⟨"Wagonplay$Letters", "isTyped", "(Ljava/lang/String;)Z"⟩, 2), (⟨"Wagonplay", "charge", "(LWagonplay$Guild;I)V"⟩, 16), (⟨"Wagonplay", "placeOf", "(I)I"⟩, 16), (⟨"Wagonplay", "needStations", "()V"⟩, 16), (⟨"Wagonplay", "plan", "(LWagonplay$Plan;[II)V"⟩, 16), (⟨"Wagonplay", "takesPart", "(I)Z"⟩, 16), (⟨"Wagonplay$Plan", "playAt", "(ILWagonplay$Show;LWagonplay$Guild;LWagonplay$Ground;)V"⟩, 3)]
theorem lw_r1 : ∀ q ∈ lw_privs_1, lw_okq q := List.forall_mem_cons.mpr ⟨lw_p0, List.forall_mem_cons.mpr ⟨lw_p1, List.forall_mem_cons.mpr ⟨lw_p2, List.forall_mem_cons.mpr ⟨lw_p3, List.forall_mem_cons.mpr ⟨lw_p4, List.forall_mem_cons.mpr ⟨lw_p5, List.forall_mem_cons.mpr ⟨lw_p6, List.forall_mem_cons.mpr ⟨lw_p7, List.forall_mem_cons.mpr ⟨lw_p8, List.forall_mem_cons.mpr ⟨lw_p9, List.forall_mem_cons.mpr ⟨lw_p10, List.forall_mem_cons.mpr ⟨lw_p11, List.forall_mem_cons.mpr ⟨lw_p12, List.forall_mem_cons.mpr ⟨lw_p13, List.forall_mem_cons.mpr ⟨lw_p14, List.forall_mem_cons.mpr ⟨lw_p15, fun _ h => absurd h List.not_mem_nil⟩⟩⟩⟩⟩⟩⟩⟩⟩⟩⟩⟩⟩⟩⟩⟩
theorem lw_p16 : lw_okq (⟨"Wagonplay$Plan", "firstFree", "(IILWagonplay$Play;LWagonplay$Station;LWagonplay$Ground;)I"⟩, 3) := ⟨⟨by decide +kernel, by decide +kernel⟩, List.mem_of_getElem? (i := 100) (by decide +kernel), List.mem_of_getElem? (i := 730) (by decide +kernel), List.mem_of_getElem? (i := 731) (by decide +kernel)⟩
theorem lw_p17 : lw_okq (⟨"Wagonplay$Plan", "endOfClashes", "(III)I"⟩, 3) := ⟨⟨by decide +kernel, by decide +kernel⟩, List.mem_of_getElem? (i := 100) (by decide +kernel), List.mem_of_getElem? (i := 743) (by decide +kernel), List.mem_of_getElem? (i := 744) (by decide +kernel)⟩
theorem lw_p18 : lw_okq (⟨"Wagonplay$Plan", "judge", "(ILWagonplay$Show;LWagonplay$Play;LWagonplay$Station;I)V"⟩, 3) := ⟨⟨by decide +kernel, by decide +kernel⟩, List.mem_of_getElem? (i := 100) (by decide +kernel), List.mem_of_getElem? (i := 747) (by decide +kernel), List.mem_of_getElem? (i := 748) (by decide +kernel)⟩
theorem lw_p19 : lw_okq (⟨"Wagonplay", "settle", "(LWagonplay$Show;)V"⟩, 16) := ⟨⟨by decide +kernel, by decide +kernel⟩, List.mem_of_getElem? (i := 23) (by decide +kernel), List.mem_of_getElem? (i := 755) (by decide +kernel), List.mem_of_getElem? (i := 756) (by decide +kernel)⟩
theorem lw_p20 : lw_okq (⟨"Wagonplay", "writeDown", "(LWagonplay$Show;LWagonplay$Play;)V"⟩, 16) := ⟨⟨by decide +kernel, by decide +kernel⟩, List.mem_of_getElem? (i := 23) (by decide +kernel), List.mem_of_getElem? (i := 772) (by decide +kernel), List.mem_of_getElem? (i := 773) (by decide +kernel)⟩
theorem lw_p21 : lw_okq (⟨"Wagonplay", "takeRents", "()V"⟩, 16) := ⟨⟨by decide +kernel, by decide +kernel⟩, List.mem_of_getElem? (i := 23) (by decide +kernel), List.mem_of_getElem? (i := 777) (by decide +kernel), List.mem_of_getElem? (i := 778) (by decide +kernel)⟩
theorem lw_p22 : lw_okq (⟨"Wagonplay", "needDayPlayed", "()V"⟩, 16) := ⟨⟨by decide +kernel, by decide +kernel⟩, List.mem_of_getElem? (i := 23) (by decide +kernel), List.mem_of_getElem? (i := 793) (by decide +kernel), List.mem_of_getElem? (i := 794) (by decide +kernel)⟩
def lw_privs_2 : List (MethodName × Nat) := [(⟨"Wagonplay$Plan", "firstFree", "(IILWagonplay$Play;LWagonplay$Station;LWagonplay$Ground;)I"⟩, 3), (⟨"Wagonplay$Plan", "endOfClashes", "(III)I"⟩, 3), (⟨"Wagonplay$Plan", "judge", "(ILWagonplay$Show;LWagonplay$Play;LWagonplay$Station;I)V"⟩, 3), (⟨"Wagonplay", "settle", "(LWagonplay$Show;)V"⟩, 16), (⟨"Wagonplay", "writeDown", "(LWagonplay$Show;LWagonplay$Play;)V"⟩, 16), (⟨"Wagonplay", "takeRents", "()V"⟩, 16), (⟨"Wagonplay", "needDayPlayed", "()V"⟩, 16)]
theorem lw_r2 : ∀ q ∈ lw_privs_2, lw_okq q := List.forall_mem_cons.mpr ⟨lw_p16, List.forall_mem_cons.mpr ⟨lw_p17, List.forall_mem_cons.mpr ⟨lw_p18, List.forall_mem_cons.mpr ⟨lw_p19, List.forall_mem_cons.mpr ⟨lw_p20, List.forall_mem_cons.mpr ⟨lw_p21, List.forall_mem_cons.mpr ⟨lw_p22, fun _ h => absurd h List.not_mem_nil⟩⟩⟩⟩⟩⟩⟩
def lw_privs : List (MethodName × Nat) := lw_privs_1 ++ (lw_privs_2)
def lw_tbl : List Cond := k2_sels lw_privs ++ tables_1
theorem lw_privs_ok : ∀ q ∈ lw_privs, lw_okq q := by
  show ∀ q ∈ lw_privs_1 ++ (lw_privs_2), lw_okq q
  exact List.forall_mem_append.mpr ⟨lw_r1, lw_r2⟩
/-- the tables say that arrays of arrays of t can be made (the printed rows name it without a definition) -/
def va_AOA (t : FieldType) (U : State) : Prop := (Cond.arrayOver (.array t)).before #[] U = true
theorem va_AOA.of {t : FieldType} {A : Array Value} {U : State} (h : (Cond.arrayOver (.array t)).before A U = true) : va_AOA t U := h
theorem va_AOA.use {t : FieldType} {A : Array Value} {U : State} (h : va_AOA t U) : (Cond.arrayOver (.array t)).before A U = true := h
/-! ===== BEGIN words of one list among another's, by their places ===== -/
theorem goodIn_r {big : List Cond} (ws : List Cond) (ps : List Nat) (hp : ws = ps.filterMap (fun i => big[i]?)) (h : ws.all goodWord = true) : GoodIn big ws := by
  intro w hw
  have h1 := List.all_eq_true.mp h w hw
  rw [hp] at hw
  obtain ⟨i, -, hi⟩ := List.mem_filterMap.mp hw
  have hm : w ∈ big := by first | exact List.mem_of_getElem? hi | exact List.getElem?_mem hi
  exact ⟨hm, good_of_word h1⟩
theorem goodIn_app {big a b : List Cond} (ha : GoodIn big a) (hb : GoodIn big b) : GoodIn big (a ++ b) := fun w h => (List.mem_append.mp h).elim (ha w) (hb w)
theorem goodIn_ca {big a b : List Cond} {c : Cond} (ha : GoodIn big (c :: a)) (hb : GoodIn big b) : GoodIn big (c :: (a ++ b)) := fun w h => (List.mem_cons.mp h).elim (fun e => ha w (List.mem_cons.mpr (Or.inl e))) (fun h => (List.mem_append.mp h).elim (fun h => ha w (List.mem_cons.mpr (Or.inr h))) (hb w))
theorem goodIn_sub {big ws : List Cond} (hm : ∀ w ∈ ws, w ∈ big) (h : ws.all goodWord = true) : GoodIn big ws := fun w hw => ⟨hm w hw, good_of_word (List.all_eq_true.mp h w hw)⟩
/-! ===== END ===== -/

/-! ===== BEGIN new T[n][m]: the outer array a place, the inner ones among the pooled ===== -/
/-- f, but v at every address of l -/
def vr_up {α : Type} (f : Nat → α) (l : List Nat) (v : α) : Nat → α := fun a => if a ∈ l then v else f a
theorem vr_up_in {α : Type} {f : Nat → α} {l : List Nat} {v : α} {a : Nat} (h : a ∈ l) : vr_up f l v a = v := if_pos h
theorem vr_up_ne {α : Type} {f : Nat → α} {l : List Nat} {v : α} {a : Nat} (h : a ∉ l) : vr_up f l v a = f a := if_neg h
theorem vr_rows {L l : List Nat} {f : Nat → va_E} {e : va_E} (h : ∀ a, a ∈ l → a ∉ L) : va_pl L f ++ l.map (fun a => (a, e)) = va_pl (L ++ l) (vr_up f l e) := by
  unfold va_pl
  rw [List.map_append]
  congr 1
  · apply List.map_congr_left
    intro a ha
    rw [vr_up_ne (fun q => h a q ha)]
  · apply List.map_congr_left
    intro a ha
    rw [vr_up_in ha]
theorem vr_lay {X rows : va_W} {x : Nat × va_E} {pl : va_W} {D : va_G} {cl : List vw_C} {H : Heap} (hP : va_P D cl (((X ++ pl) ++ [x]) ++ rows) H) : va_P D cl ((X ++ [x]) ++ (pl ++ rows)) H := by
  rw [List.append_assoc (X ++ pl)] at hP
  have h := va_P.swap hP
  rw [← List.append_assoc X] at h
  have h2 := va_P.swap h
  rw [List.append_assoc (X ++ [x])] at h2
  exact h2
theorem vr_layD {X rows : va_W} {x : Nat × va_E} {pl : va_W} {A : Nat → Prop} (hD : va_D A (((X ++ pl) ++ [x]) ++ rows)) : va_D A ((X ++ [x]) ++ (pl ++ rows)) := by
  rw [List.append_assoc (X ++ pl)] at hD
  have h := va_D.swap hD
  rw [← List.append_assoc X] at h
  have h2 := va_D.swap h
  rw [List.append_assoc (X ++ [x])] at h2
  exact h2
theorem vr_outer (c : ClassId) (N h0 : Nat) : ∀ i : Nat, Jvm.Free.Multi.outerC c N h0 i = arrV c N (fun j => va_rf (if j < i then some (h0 + 1 + j) else none))
  | 0 => by
    show ({ cls := c, slots := Array.replicate N .null, vm := .none } : Cell) = _
    rw [arrV_new]
    refine congrArg (arrV c N) (funext fun j => ?_)
    simp [va_rf]
  | i + 1 => by
    show (Jvm.Free.Multi.outerC c N h0 i).setSlot i (.ref (h0 + 1 + i)) = _
    rw [vr_outer c N h0 i, arrV_store]
    refine congrArg (arrV c N) (funext fun j => ?_)
    by_cases e : j = i
    · subst e
      simp [updV, va_rf]
    · by_cases h : j < i
      · simp [updV, e, h, Nat.lt_succ_of_lt h]
      · simp [updV, e, h, show ¬ j < i + 1 by omega]
section VGM
variable {p : Program} {l : Launch} {e : Env} {R : Room} {s : State} {m : MethodId} {args : Array Value} {below : List Frame} {meth : Method} {c : Code} {H : Heap} {locs : List Loc} {cells slots : Nat} {Q : State → Prop}
variable {cc : ByteArray} {pc : Nat} {ls : Array Slot} {rest : List Value} {D : va_G} {cl : List vw_C} {A : Nat → Prop} {a : Nat} {tys : List (ClassId × FieldType)} {ws : va_W} {H0 : Heap}
theorem va_mna {X : va_W} {L : List Nat} {f : Nat → va_E} {cc : ByteArray} (hexec : p.tables.exec = Jvm.exec) (hb : c.code = cc) {own : String} {index : Nat} {ty : FieldType} {cy : ClassId} (hown : s.vm.findClass own = some m.cls) (hclink : (Cond.classLink own index ("[" ++ (FieldType.array ty).toString)).before args s = true) (hover : va_AOA ty s) (harr : (Cond.arrayClass ty).before args s = true) (hcy : s.vm.findClass (FieldType.array ty).toString = some cy)
    (hK : va_K D cl tys s) (hP : va_P D cl (X ++ va_pl L f) H) (hD : va_D A (X ++ va_pl L f)) (hS : va_S A H0 H locs) (hA : ∀ q, H0.size ≤ q → A q) {n k : Int32} {N' K' : Nat} {z : vp_A} (hn : ¬ n < 0) (hk : ¬ k < 0) (hN : n.toNatClampNeg = N') (hM : k.toNatClampNeg = K')
    (hb1 : N' * 4 ≤ 536870912) (hb2 : K' * componentBytes ty ≤ 536870912) (hb3 : K' ≤ 536870912) (hdf : fits ty (defaultValue ty) = true) (hdd : (defaultValue ty).isDefault = true) (hcells : cells + (1 + N') ≤ R.cells) (hslots : slots + (N' + N' * K') ≤ R.slots) (hz : ∀ c : ClassId, Jvm.Free.Multi.innerC c K' (defaultValue ty) = vp_cell c z) (hdg : decode cc pc = .ok (.multianewarray index 2, 4))
    (kk : ∀ (q : Nat) (r : Nat → Nat) (cA : ClassId) (H1 : Heap), (∀ i j : Nat, i < N' → j < N' → r i = r j → i = j) → (∀ i : Nat, i < N' → r i ∉ L) → va_K D cl (tys ++ [(cA, .array ty)]) s →
      va_P D cl ((X ++ [(q, .inl (cA, N', .inr (.inr (.inr (.inr (fun i => if i < N' then some (r i) else none))))))]) ++ va_pl (L ++ (List.range N').map r) (vr_up f ((List.range N').map r) (.inl (cy, z)))) H1 → va_D A ((X ++ [(q, .inl (cA, N', .inr (.inr (.inr (.inr (fun i => if i < N' then some (r i) else none))))))]) ++ va_pl (L ++ (List.range N').map r) (vr_up f ((List.range N').map r) (.inl (cy, z)))) → va_S A H0 H1 locs →
      W p l e R s m args below meth c H1 locs (cells + 1 + N') (slots + N' + N' * K') Q (F0 m (pc + 4) ls (.ref q :: rest))) : W p l e R s m args below meth c H locs cells slots Q (F0 m pc ls (.int k :: .int n :: rest)) := by
  subst hN
  subst hM
  intro T hT Xs
  obtain ⟨vm₁, cA, comp, -, fA, fC, hO, -, X', step⟩ := Xs.multianewarray2F hexec hown hclink (va_AOA.use hover) harr (g := F0 m pc ls (.int k :: .int n :: rest)) rfl (by rw [hb]; exact hdg) rfl hn hk hb1 hb2 hb3 hdf hdd hcells hslots
  have ec : some cy = some comp := hcy.symm.trans fC
  cases ec
  generalize hF : Jvm.Free.Multi.fill (T.setVm vm₁) cA cy n.toNatClampNeg k.toNatClampNeg (defaultValue ty) n.toNatClampNeg = F at X' step
  have hTh : (T.setVm vm₁).heap = H := hT
  obtain ⟨f1, f2, -, -⟩ := Jvm.Free.Multi.fill_facts (T.setVm vm₁) cA cy n.toNatClampNeg k.toNatClampNeg (defaultValue ty) n.toNatClampNeg
  rw [hF, hTh] at f1 f2
  have hold : ∀ x : Nat, x < H.size → F.heap[x]? = H[x]? := fun x hx => by
    have := Jvm.Free.Multi.fill_old (T.setVm vm₁) cA cy n.toNatClampNeg k.toNatClampNeg (defaultValue ty) (a := x) (by rw [hTh]; exact hx) n.toNatClampNeg
    rw [hF, hTh] at this
    exact this
  have hrow : ∀ j : Nat, j < n.toNatClampNeg → F.heap[H.size + 1 + j]? = some (vp_cell cy z) := fun j hj => by
    have := Jvm.Free.Multi.fill_inner (T.setVm vm₁) cA cy n.toNatClampNeg k.toNatClampNeg (defaultValue ty) n.toNatClampNeg j hj
    rw [hF, hTh, hz] at this
    exact this
  have hout : Jvm.Free.Multi.outerC cA n.toNatClampNeg H.size n.toNatClampNeg = vp_cell cA (n.toNatClampNeg, .inr (.inr (.inr (.inr (fun i => if i < n.toNatClampNeg then some (H.size + 1 + i) else none))))) := by
    rw [vp_cell_q]
    exact vr_outer cA n.toNatClampNeg H.size n.toNatClampNeg
  rw [hout] at f2
  have hlt : ∀ a, a ∈ L → a < H.size := fun a ha => by
    obtain ⟨k9, hk9⟩ := va_pl_get (X := X) (f := f) ha
    exact (hP k9 _ hk9).lt
  have hnl : ∀ i : Nat, i < n.toNatClampNeg → H.size + 1 + i ∉ L := fun i _ h => by
    have := hlt _ h
    omega
  have hnm : ∀ a, a ∈ (List.range n.toNatClampNeg).map (fun i => H.size + 1 + i) → a ∉ L := fun a ha h => by
    obtain ⟨i, -, rfl⟩ := List.mem_map.mp ha
    have := hlt _ h
    omega
  have hP0 : va_P D cl (X ++ va_pl L f) F.heap := hP.kept (fun k9 x hx => hold x.1 ((hP k9 x hx).lt))
  have hP1 : va_P D cl ((X ++ va_pl L f) ++ [(H.size, .inl (cA, n.toNatClampNeg, .inr (.inr (.inr (.inr (fun i => if i < n.toNatClampNeg then some (H.size + 1 + i) else none))))))]) F.heap := hP0.app (fun k9 x hx => by
    have h0 : k9 < 1 := (List.getElem?_eq_some_iff.mp hx).1
    rw [show k9 = 0 by omega] at hx
    cases hx
    exact f2)
  have hP2 : va_P D cl (((X ++ va_pl L f) ++ [(H.size, .inl (cA, n.toNatClampNeg, .inr (.inr (.inr (.inr (fun i => if i < n.toNatClampNeg then some (H.size + 1 + i) else none))))))]) ++ ((List.range n.toNatClampNeg).map (fun i => H.size + 1 + i)).map (fun a => (a, .inl (cy, z)))) F.heap := hP1.app (fun k9 x hx => by
    obtain ⟨a, ha, rfl⟩ := List.mem_map.mp (List.mem_of_getElem? hx)
    obtain ⟨i, hi, rfl⟩ := List.mem_map.mp ha
    exact hrow i (List.mem_range.mp hi))
  have hD2 : va_D A (((X ++ va_pl L f) ++ [(H.size, .inl (cA, n.toNatClampNeg, .inr (.inr (.inr (.inr (fun i => if i < n.toNatClampNeg then some (H.size + 1 + i) else none))))))]) ++ ((List.range n.toNatClampNeg).map (fun i => H.size + 1 + i)).map (fun a => (a, .inl (cy, z)))) := by
    have hD1 := hD.push (e := .inl (cA, n.toNatClampNeg, .inr (.inr (.inr (.inr (fun i => if i < n.toNatClampNeg then some (H.size + 1 + i) else none)))))) hP rfl (hA _ hS.1)
    generalize hW1 : (X ++ va_pl L f) ++ [(H.size, .inl (cA, n.toNatClampNeg, .inr (.inr (.inr (.inr (fun i => if i < n.toNatClampNeg then some (H.size + 1 + i) else none))))))] = W1 at hD1 hP1 ⊢
    have hle : ∀ (k9 : Nat) (x : Nat × va_E), W1[k9]? = some x → x.1 ≤ H.size := fun k9 x hx => by
      rw [← hW1] at hx
      by_cases hl : k9 < (X ++ va_pl L f).length
      · rw [List.getElem?_append_left hl] at hx
        exact Nat.le_of_lt ((hP k9 x hx).lt)
      · rw [List.getElem?_append_right (by omega)] at hx
        have h0 : k9 - (X ++ va_pl L f).length < 1 := (List.getElem?_eq_some_iff.mp hx).1
        rw [show k9 - (X ++ va_pl L f).length = 0 by omega] at hx
        cases hx
        exact Nat.le_refl _
    have hr : ∀ (k9 : Nat) (x : Nat × va_E), (((List.range n.toNatClampNeg).map (fun i => H.size + 1 + i)).map (fun a => ((a, .inl (cy, z)) : Nat × va_E)))[k9]? = some x → x.1 = H.size + 1 + k9 := fun k9 x hx => by
      rw [List.getElem?_map, List.getElem?_map] at hx
      by_cases h9 : k9 < n.toNatClampNeg
      · rw [List.getElem?_range h9] at hx
        cases hx
        rfl
      · have hn0 : (List.range n.toNatClampNeg)[k9]? = none := List.getElem?_eq_none (by rw [List.length_range]; omega)
        rw [hn0] at hx
        cases hx
    refine ⟨fun i j x y hi hj hxy => ?_, fun k9 x hx => ?_⟩
    · by_cases h1 : i < W1.length <;> by_cases h2 : j < W1.length
      · rw [List.getElem?_append_left h1] at hi
        rw [List.getElem?_append_left h2] at hj
        exact hD1.1 i j x y hi hj hxy
      · rw [List.getElem?_append_left h1] at hi
        rw [List.getElem?_append_right (by omega)] at hj
        have := hle _ _ hi
        have := hr _ _ hj
        omega
      · rw [List.getElem?_append_right (by omega)] at hi
        rw [List.getElem?_append_left h2] at hj
        have := hle _ _ hj
        have := hr _ _ hi
        omega
      · rw [List.getElem?_append_right (by omega)] at hi hj
        have := hr _ _ hi
        have := hr _ _ hj
        omega
    · by_cases h1 : k9 < W1.length
      · rw [List.getElem?_append_left h1] at hx
        exact hD1.2 k9 x hx
      · rw [List.getElem?_append_right (by omega)] at hx
        have := hr _ _ hx
        exact hA _ (by have := hS.1; omega)
  have hAr : ArrOfT s cA (.array ty) := fun N9 z9 => by
    obtain ⟨-, k9, hk9, cm9, hkk9⟩ := (hO 0 0 0).1
    exact ⟨(fun q hq => by cases hq), k9, hk9, cm9, hkk9⟩
  have hK2 : va_K D cl (tys ++ [(cA, .array ty)]) s := ⟨hK.1, fun k9 x hx => by
    by_cases hl : k9 < tys.length
    · rw [List.getElem?_append_left hl] at hx
      exact hK.2 k9 x hx
    · rw [List.getElem?_append_right (by omega)] at hx
      have h0 : k9 - tys.length < 1 := (List.getElem?_eq_some_iff.mp hx).1
      rw [show k9 - tys.length = 0 by omega] at hx
      cases hx
      exact ⟨hAr, fA⟩⟩
  obtain ⟨t, a1, b1⟩ := kk H.size (fun i => H.size + 1 + i) cA F.heap (fun i j _ _ h => by have h9 : H.size + 1 + i = H.size + 1 + j := h; omega) hnl hK2 (by rw [← vr_rows hnm]; exact vr_lay hP2) (by rw [← vr_rows hnm]; exact vr_layD hD2) ⟨by rw [f1]; have := hS.1; omega, fun x h1 h2 => (hold x (Nat.lt_of_lt_of_le h1 hS.1)).trans (hS.2.1 x h1 h2), hS.2.2⟩ F rfl X'
  refine ⟨t, step t ?_, b1⟩
  have e : T.heap.size = H.size := by rw [hT]
  rw [e]
  exact a1
end VGM
/-! ===== END ===== -/

/-! ===== BEGIN exceptions that leave a method, and their catching by the caller (launches without stack traces) ===== -/
section VXA
/-! The laws vx_back, vx_callV, vx_callS, vx_callSW, vx_throw0, vx_throwS follow proofs of the library, with one case more: JvmDerived/Free/Laws.lean (Back.of_free), Shelf42/LK1.lean (callV, callS), Shelf/KitTraced.lean (throwNew0V, throwNewS). -/
/-- where a method has thrown q: the class by its name, the cell, what was written, the world -/
def vx_T (XC : String → State → State → Prop) (st : State) (q : Addr) (t : State) (mc ms : Nat) (free : Addr → Prop) : Prop :=
  ∃ (E : String) (ce : Cell) (L : List Loc), XC E st t ∧ t.heap[q]? = some ce ∧ ce.vm = .none ∧ st.vm.findClass E = some ce.cls ∧ st.WarmedH t.vm ∧ st.sameButNew ({ t with vm := st.vm } : State) L mc ms ∧ ∀ z ∈ L, free z.base
def vx_Q (Qc : Array Value → State → Outcome → State → Prop) (XC : String → State → State → Prop) (mc ms : Nat) (free : Addr → Prop) : Array Value → State → Outcome → State → Prop := fun a st o t =>
  (Qc a st o t ∧ ∃ L, FrameEnd st o t L mc ms ∧ ∀ q ∈ L, free q.base) ∨ ∃ q, o = .threw q ∧ vx_T XC st q t mc ms free
/-- a callee that returns or throws -/
def vx_Met (l : Launch) (y : MethodName) (ws : List Cond) (rm : Room) (Pc : Array Value → State → Prop) (Qc : Array Value → State → Outcome → State → Prop) (XC : String → State → State → Prop) (mc ms : Nat) (free : Addr → Prop) : Prop :=
  MetFree l y (headSpec ws rm) Pc (fun _ _ _ _ _ => True) (vx_Q Qc XC mc ms free)
def vx_Post (XC : String → State → State → Prop) (mc ms : Nat) (free : Addr → Prop) : Pt → Array Value → Addr → Pt → Prop := fun A a q B =>
  ∃ (g : JFrame) (mk : MethodId) (t : State) (L : List Loc) (E : String) (ce : Cell), B.U.heap = t.heap ∧ B.U.vm = t.vm ∧ XC E (A.U.calling g mk a) t ∧ t.heap[q]? = some ce ∧ ce.vm = .none ∧ A.U.vm.findClass E = some ce.cls ∧ B.locs = A.locs ++ L ∧ (∀ z ∈ L, free z.base) ∧ B.cells = A.cells + mc ∧ B.slots = A.slots + ms
def vx_Back (l : Launch) (R : Room) (p : Program) (e : Env) (below : List Frame) (s : State) (sargs : Array Value) (y : MethodName) (len W9 : Nat)
    (Pre : Pt → Array Value → Prop) (Post : Pt → Array Value → Option Value → Pt → Prop) (PostX : Pt → Array Value → Addr → Pt → Prop) : Prop :=
  ∀ (m : MethodId) (meth : Method) (c : Code) (A : Pt) (g : JFrame) (ig : Instr) (mk : MethodId) (a : Array Value),
    Stand p l e R s m sargs below meth c A.U A.locs A.cells A.slots → g.method = m → g.locals.size = c.maxLocals → decode c.code g.pc = .ok (ig, len) →
    2 * g.monitorRoom + (g.stack.map fun v => v.category).sum ≤ W9 → A.U.methodNamed? y = some mk → Pre A a →
    (∃ (v : Option Value) (B : Pt), Stand p l e R s m sargs below meth c B.U B.locs B.cells B.slots ∧ Post A a v B ∧
      Steps p.tables e below (doInvoke e (A.U.setTop g) [] mk a).1 (B.U.setTop { g with pc := g.pc + len, stack := v.toList ++ g.stack })) ∨
    (∃ (q : Addr) (B : Pt), Stand p l e R s m sargs below meth c B.U B.locs B.cells B.slots ∧ PostX A a q B ∧
      Steps p.tables e below (doInvoke e (A.U.setTop g) [] mk a).1 ((B.U.setTop g).pushFrame (.throwing q)))
section Payer
variable {l : Launch} {R : Room} {p : Program} {e : Env} {below : List Frame} {s : State} {sargs : Array Value} {y : MethodName} {len W9 : Nat}
theorem vx_back {ws : List Cond} {rm : Room} {Pc : Array Value → State → Prop} {Qc : Array Value → State → Outcome → State → Prop} {XC : String → State → State → Prop} {mc ms : Nat} {free : Addr → Prop} {bytes : ByteArray} {maxL : Nat} {ret : Option FieldType}
    (hM : vx_Met l y ws rm Pc Qc XC mc ms free) (hblind : FrameBlind Pc) (hrc : rm.cells = mc) (hrs : rm.slots = ms)
    (hframes : rm.frames + 1 ≤ R.frames) (hlocals : W9 + (maxL + 11) + rm.locals ≤ R.locals)
    (hws : ∀ w ∈ ws, ∀ a' U, s.WarmedH U.vm → w.before a' U = true) (hcode : Cond.code y bytes maxL ret ∈ ws) (hinit : ∀ a' U, s.WarmedH U.vm → (Cond.initialized y.cls).before a' U = true) :
    vx_Back l R p e below s sargs y len W9 (PreOf R mc ms Pc) (PostOf Qc mc ms free) (vx_Post XC mc ms free) := by
  intro m meth c A g ig mk a X hg hsize hdg hW hn hp
  have h1 : (headSpec ws rm).pre.before a A.U = true := atoms_intro fun w hw => hws w hw _ _ X.warmed
  have h2 : (Cond.code y bytes maxL ret).before a A.U = true := hws _ hcode _ _ X.warmed
  have h3 : (Cond.initialized y.cls).before a A.U = true := hinit _ _ X.warmed
  have h4 : A.cells + (headSpec ws rm).room.cells ≤ R.cells := by rw [show (headSpec ws rm).room.cells = mc from hrc]; exact hp.1
  have h5 : A.slots + (headSpec ws rm).room.slots ≤ R.slots := by rw [show (headSpec ws rm).room.slots = ms from hrs]; exact hp.2.1
  have hPc : Pc a (A.U.calling g mk a) := hblind _ _ _ _ hp.2.2
  obtain ⟨U, Ls, c0, s0⟩ := A
  dsimp only [Pt.U, Pt.locs, Pt.cells, Pt.slots] at h1 h2 h3 h4 h5 X hn hPc ⊢
  obtain ⟨methY, cY, hmY, hcY, -, hlY, -, -, -, -⟩ := Cond.code_spec hn h2
  obtain ⟨kY, hkY, -⟩ := className_of_methodNamed hn
  have hinitY : kY.init = .initialized := Cond.initialized_spec (findClass_of_methodNamed hn) hkY h3
  have h : At U g.method c below := by rw [hg]; exact X.here
  have hlocals9 : W9 + (maxL + 11) + (headSpec ws rm).room.locals ≤ R.locals := hlocals
  have happ : (headSpec ws rm).appliesLoose y e.platform (U.calling g mk a) = true :=
    Spec.appliesLoose_calling (g := g) h hdg hn hkY hinitY
      (X.room_calling (g := g) (R' := (headSpec ws rm).room) hsize hmY hcY hframes (by rw [hlY]; omega) h4 h5) h1
  obtain ⟨mid, hmid⟩ := h.above
  have hfr : (U.setTop g).frames = (.java g :: mid) ++ below := by rw [State.frames_setTop' g h.top, hmid]; rfl
  obtain ⟨o, s₂, hsteps, -, hend, hq⟩ := Steps.callFree hM p X.admits X.cas X.clock (acts := []) hfr happ hPc trivial
  have hq' : vx_Q Qc XC mc ms free a (U.calling g mk a) o s₂ := hq
  rw [State.frames_setTop' g h.top] at hend
  obtain ⟨g₀, hg0⟩ := Option.isSome_iff_exists.mp h.top
  obtain ⟨r, hr⟩ := State.topJava?_eq_some.mp hg0
  have hr' : (({ U with heap := s₂.heap, slotsUsed := s₂.slotsUsed } : State).setVm s₂.vm).frames = .java g₀ :: r := hr
  rcases hq' with ⟨hqc, L, hfe, hL⟩ | ⟨q, rfl, E, ce, L, hx, hce, hcv, hcl, hW₂, hsm, hL⟩
  · obtain ⟨⟨v, rfl⟩, hW₂, e2, q2, q3, q4, q5, q6⟩ := id hfe
    have e3 : s₂ = ({ (U.calling g mk a).setFrames s₂.frames with heap := s₂.heap, slotsUsed := s₂.slotsUsed } : State).setVm s₂.vm := by
      have : s₂ = ({ s₂ with vm := (U.calling g mk a).vm } : State).setVm s₂.vm := rfl
      rw [e2] at this
      exact this
    obtain ⟨c₂, i₂, len₂, hc₂, hd₂, hf₂⟩ := hend
    have hW' : U.WarmedH s₂.vm := hW₂
    have hcc : c₂ = c := by
      have h1 : s₂.code? g.method = U.code? g.method := by
        rw [State.code?_eq, State.code?_eq, hW'.alike.method?]
      exact Option.some.inj (hc₂.symm.trans (h1.trans h.code))
    subst hcc
    have hlen : len₂ = len := by rw [hdg] at hd₂; cases hd₂; rfl
    subst hlen
    have hs₂ : s₂ = (({ U with heap := s₂.heap, slotsUsed := s₂.slotsUsed } : State).setVm s₂.vm).setTop { g with pc := g.pc + len₂, stack := v.toList ++ g.stack } := by
      refine e3.trans ?_
      rw [hf₂, State.calling_eq h.top, State.setFrames_setFrames, State.setTop_of_frames _ hr', hr]
      rfl
    have hsame : U.sameButNew ({ U with heap := s₂.heap, slotsUsed := s₂.slotsUsed } : State) L mc ms := by
      refine ⟨?_, q2, q3, q4, q5, q6⟩
      obtain ⟨t, ht, -⟩ := State.frames_cons hr
      show ({ U with heap := s₂.heap, slotsUsed := s₂.slotsUsed } : State) = { U.setFrames U.frames with heap := s₂.heap, slotsUsed := s₂.slotsUsed }
      rw [State.setFrames_self ht]
    subst hg
    refine Or.inl ⟨v, ⟨(({ U with heap := s₂.heap, slotsUsed := s₂.slotsUsed } : State).setVm s₂.vm), Ls ++ L, c0 + mc, s0 + ms⟩,
      ⟨X.admits, X.cas, X.clock, X.frames, X.room, X.hears, X.method, X.code, (X.here.setHeapUsed s₂.heap s₂.slotsUsed).setVm hW'.alike, X.tail, State.WarmedH.trans X.warmed hW', X.limits, X.bytes, X.same.trans (hsame.setVm s.vm)⟩,
      ⟨g, mk, s₂, L, rfl, rfl, hqc, rfl, hL, rfl, rfl⟩, ?_⟩
    show Steps p.tables e below _ ((({ U with heap := s₂.heap, slotsUsed := s₂.slotsUsed } : State).setVm s₂.vm).setTop { g with pc := g.pc + len₂, stack := v.toList ++ g.stack })
    rw [← hs₂]
    exact hsteps
  · obtain ⟨e2, q2, q3, q4, q5, q6⟩ := id hsm
    have e3 : s₂ = ({ (U.calling g mk a).setFrames s₂.frames with heap := s₂.heap, slotsUsed := s₂.slotsUsed } : State).setVm s₂.vm := by
      have : s₂ = ({ s₂ with vm := (U.calling g mk a).vm } : State).setVm s₂.vm := rfl
      rw [e2] at this
      exact this
    have hf₂ : s₂.frames = .throwing q :: .java g :: U.frames.tail := hend
    have hW' : U.WarmedH s₂.vm := hW₂
    have hs₂ : s₂ = ((({ U with heap := s₂.heap, slotsUsed := s₂.slotsUsed } : State).setVm s₂.vm).setTop g).pushFrame (.throwing q) := by
      refine e3.trans ?_
      rw [hf₂, State.calling_eq h.top, State.setFrames_setFrames, State.pushFrame, State.frames_setTop _ hr', State.setTop_of_frames _ hr', State.setFrames_setFrames, hr]
      rfl
    have hsame : U.sameButNew ({ U with heap := s₂.heap, slotsUsed := s₂.slotsUsed } : State) L mc ms := by
      refine ⟨?_, q2, q3, q4, q5, q6⟩
      obtain ⟨t, ht, -⟩ := State.frames_cons hr
      show ({ U with heap := s₂.heap, slotsUsed := s₂.slotsUsed } : State) = { U.setFrames U.frames with heap := s₂.heap, slotsUsed := s₂.slotsUsed }
      rw [State.setFrames_self ht]
    subst hg
    refine Or.inr ⟨q, ⟨(({ U with heap := s₂.heap, slotsUsed := s₂.slotsUsed } : State).setVm s₂.vm), Ls ++ L, c0 + mc, s0 + ms⟩,
      ⟨X.admits, X.cas, X.clock, X.frames, X.room, X.hears, X.method, X.code, (X.here.setHeapUsed s₂.heap s₂.slotsUsed).setVm hW'.alike, X.tail, State.WarmedH.trans X.warmed hW', X.limits, X.bytes, X.same.trans (hsame.setVm s.vm)⟩,
      ⟨g, mk, s₂, L, E, ce, rfl, rfl, hx, hce, hcv, hcl, rfl, hL, rfl, rfl⟩, ?_⟩
    show Steps p.tables e below _ (((({ U with heap := s₂.heap, slotsUsed := s₂.slotsUsed } : State).setVm s₂.vm).setTop g).pushFrame (.throwing q))
    rw [← hs₂]
    exact hsteps
end Payer
section Calls
variable {p : Program} {l : Launch} {e : Env} {R : Room} {s : State} {m : MethodId} {args : Array Value} {below : List Frame} {meth : Method} {c : Code} {T : State} {locs : List Loc} {cells slots : Nat}
theorem vx_callV (X : Stand p l e R s m args below meth c T locs cells slots) (hexec : p.tables.exec = Jvm.exec) {own C : String} {index : Nat} {y : MethodName} {bytes : ByteArray} {maxL : Nat} {ret : Option FieldType}
    (hown : s.vm.findClass own = some m.cls) (hlink : (Cond.methodLink own index y).before args s = true) (hinst : (Cond.instanceMethod y).before args s = true) (hsel : (Cond.selects C y y).before args s = true)
    (hcode : (Cond.code y bytes maxL ret).before args s = true) (hy : y.cls ≠ "java/lang/invoke/MethodHandle" ∧ y.cls ≠ "java/lang/invoke/VarHandle")
    {W9 : Nat} {Pre : Pt → Array Value → Prop} {Post : Pt → Array Value → Option Value → Pt → Prop} {PostX : Pt → Array Value → Addr → Pt → Prop} (hK : vx_Back l R p e below s args y 3 W9 Pre Post PostX)
    {b : Addr} {cellB : Cell} (hcell : T.heap[b]? = some cellB) (hobj : cellB.vm.isStatics = false) (hcls : s.vm.findClass C = some cellB.cls)
    {g : JFrame} (hg : g.method = m) (hsize : g.locals.size = c.maxLocals) {argsL rest : List Value} (hlen : ∀ sig, parseMethodDescriptor y.desc = some sig → argsL.length = sig.parameters.length)
    (hstack : g.stack = argsL.reverse ++ .ref b :: rest) (hW : 2 * g.monitorRoom + (rest.map fun v => v.category).sum ≤ W9) (hdg : decode c.code g.pc = .ok (.invokevirtual index, 3))
    (hpre : ∀ vm₁, s.WarmedH vm₁ → Pre ⟨T.setVm vm₁, locs, cells, slots⟩ (Value.ref b :: argsL).toArray) :
    (∃ (v : Option Value) (vm₁ : Vm) (B : Pt), s.WarmedH vm₁ ∧ Stand p l e R s m args below meth c B.U B.locs B.cells B.slots ∧ Post ⟨T.setVm vm₁, locs, cells, slots⟩ (Value.ref b :: argsL).toArray v B ∧
      ∀ target, Steps p.tables e below (B.U.setTop { g with pc := g.pc + 3, stack := v.toList ++ rest }) target → Steps p.tables e below (T.setTop g) target) ∨
    (∃ (q : Addr) (vm₁ : Vm) (B : Pt), s.WarmedH vm₁ ∧ Stand p l e R s m args below meth c B.U B.locs B.cells B.slots ∧ PostX ⟨T.setVm vm₁, locs, cells, slots⟩ (Value.ref b :: argsL).toArray q B ∧
      Steps p.tables e below (T.setTop g) ((B.U.setTop { g with stack := rest }).pushFrame (.throwing q))) := by
  obtain ⟨mk, methM, hnamed, hmethM, hstM, habM⟩ := Cond.instanceMethod_spec hinst
  obtain ⟨methM', cM, hmethM', -, -, -, -, -, -, hsigM⟩ := Cond.code_spec hnamed hcode
  cases hmethM.symm.trans hmethM'
  obtain ⟨c2, r2, m2, q1, q2, q3, q4, kP, hkP, hkPi⟩ := Cond.selects_spec hsel
  cases hcls.symm.trans q1
  cases (State.methodFound?_of_named hnamed hy).symm.trans q2
  cases hnamed.symm.trans q3
  have hselP : selectMethod e.platform s.vm cellB.cls mk = .method mk := by rw [Launch.admits_selectMethod X.admits]; exact q4
  obtain ⟨vm₁, X₁, hstep₁⟩ := X.invokevirtual hexec hown hlink hnamed hmethM hstM hkP hkPi hy (a := b) (cell := cellB) hcell
    (fun z h => by rw [h] at hobj; cases hobj) hselP hmethM habM hkP hkPi (g := g) hg (argsL := argsL) (rest := rest) (hlen _ hsigM) hstack hdg
  rcases hK m meth c ⟨T.setVm vm₁, locs, cells, slots⟩ { g with stack := rest } (.invokevirtual index) mk (Value.ref b :: argsL).toArray X₁ hg hsize hdg hW (X₁.named hnamed) (hpre vm₁ X₁.warmed) with ⟨v, B, X', hpost, hsteps⟩ | ⟨q, B, X', hpost, hsteps⟩
  · exact Or.inl ⟨v, vm₁, B, X₁.warmed, X', hpost, fun target h => hstep₁ _ fun acts => by rw [doInvoke_state]; exact hsteps.trans h⟩
  · exact Or.inr ⟨q, vm₁, B, X₁.warmed, X', hpost, hstep₁ _ fun acts => by rw [doInvoke_state]; exact hsteps⟩
theorem vx_callS (X : Stand p l e R s m args below meth c T locs cells slots) (hexec : p.tables.exec = Jvm.exec) {own : String} {index : Nat} {y : MethodName} {bytes : ByteArray} {maxL : Nat} {ret : Option FieldType}
    (hown : s.vm.findClass own = some m.cls) (hlink : (Cond.methodLink own index y).before args s = true) (hstat : (Cond.static y).before args s = true) (hinit : (Cond.initialized y.cls).before args s = true)
    (hcode : (Cond.code y bytes maxL ret).before args s = true) (hy : y.cls ≠ "java/lang/invoke/MethodHandle" ∧ y.cls ≠ "java/lang/invoke/VarHandle")
    {W9 : Nat} {Pre : Pt → Array Value → Prop} {Post : Pt → Array Value → Option Value → Pt → Prop} {PostX : Pt → Array Value → Addr → Pt → Prop} (hK : vx_Back l R p e below s args y 3 W9 Pre Post PostX)
    {g : JFrame} (hg : g.method = m) (hsize : g.locals.size = c.maxLocals) {argsL rest : List Value} (hlen : ∀ sig, parseMethodDescriptor y.desc = some sig → argsL.length = sig.parameters.length)
    (hstack : g.stack = argsL.reverse ++ rest) (hW : 2 * g.monitorRoom + (rest.map fun v => v.category).sum ≤ W9) (hdg : decode c.code g.pc = .ok (.invokestatic index, 3))
    (hpre : ∀ vm₁, s.WarmedH vm₁ → Pre ⟨T.setVm vm₁, locs, cells, slots⟩ argsL.toArray) :
    (∃ (v : Option Value) (vm₁ : Vm) (B : Pt), s.WarmedH vm₁ ∧ Stand p l e R s m args below meth c B.U B.locs B.cells B.slots ∧ Post ⟨T.setVm vm₁, locs, cells, slots⟩ argsL.toArray v B ∧
      ∀ target, Steps p.tables e below (B.U.setTop { g with pc := g.pc + 3, stack := v.toList ++ rest }) target → Steps p.tables e below (T.setTop g) target) ∨
    (∃ (q : Addr) (vm₁ : Vm) (B : Pt), s.WarmedH vm₁ ∧ Stand p l e R s m args below meth c B.U B.locs B.cells B.slots ∧ PostX ⟨T.setVm vm₁, locs, cells, slots⟩ argsL.toArray q B ∧
      Steps p.tables e below (T.setTop g) ((B.U.setTop { g with stack := rest }).pushFrame (.throwing q))) := by
  obtain ⟨mk, hnamed⟩ := Cond.code_named hcode
  obtain ⟨methM, cM, hmethM, -, -, -, -, -, -, hsigM⟩ := Cond.code_spec hnamed hcode
  have hstatic : methM.isStatic = true := Cond.static_spec hnamed hmethM hstat
  obtain ⟨kP, hkP, -⟩ := className_of_methodNamed hnamed
  have hinitP : kP.init = .initialized := Cond.initialized_spec (findClass_of_methodNamed hnamed) hkP hinit
  obtain ⟨vm₁, X₁, hstep₁⟩ := X.invokestatic hexec hown hlink hnamed hmethM hstatic hkP hinitP hy (g := g) hg (argsL := argsL) (rest := rest) (hlen _ hsigM) hstack hdg
  rcases hK m meth c ⟨T.setVm vm₁, locs, cells, slots⟩ { g with stack := rest } (.invokestatic index) mk argsL.toArray X₁ hg hsize hdg hW (X₁.named hnamed) (hpre vm₁ X₁.warmed) with ⟨v, B, X', hpost, hsteps⟩ | ⟨q, B, X', hpost, hsteps⟩
  · exact Or.inl ⟨v, vm₁, B, X₁.warmed, X', hpost, fun target h => hstep₁ _ fun acts => by rw [doInvoke_state]; exact hsteps.trans h⟩
  · exact Or.inr ⟨q, vm₁, B, X₁.warmed, X', hpost, hstep₁ _ fun acts => by rw [doInvoke_state]; exact hsteps⟩
end Calls
theorem vx_cls {s : State} {T : State} {vm₁ : Vm} {E : String} {k : ClassId} (hW : s.WarmedH vm₁) (h : (T.setVm vm₁).vm.findClass E = some k) : s.vm.findClass E = some k := by
  have h1 : vm₁.findClass E = some k := h
  rw [hW.alike.findClass] at h1
  exact h1
/-- the method's frame g, with q thrown over it -/
def vx_W (p : Program) (l : Launch) (e : Env) (R : Room) (s : State) (m : MethodId) (args : Array Value) (below : List Frame) (meth : Method) (c : Code) (H : Heap) (locs : List Loc) (cells slots : Nat) (Q : State → Prop) (g : JFrame) (q : Addr) : Prop :=
  ∀ T : State, T.heap = H → Stand p l e R s m args below meth c T locs cells slots → ∃ t, Steps p.tables e below ((T.setTop g).pushFrame (.throwing q)) t ∧ Q t
def vx_Run (p : Program) (l : Launch) (e : Env) (R : Room) (s : State) (m : MethodId) (args : Array Value) (below : List Frame) (meth : Method) (c : Code) (H : Heap) (locs : List Loc) (cells slots mc ms : Nat) (g : JFrame) (rest : List Value) (Qa : State → Outcome → State → Prop) (XC : String → State → State → Prop) (free : Addr → Prop) : Prop :=
  ∀ T : State, T.heap = H → Stand p l e R s m args below meth c T locs cells slots →
    (∃ (v : Option Value) (st₀ t T' : State) (L : List Loc), st₀.heap = H ∧ Stand p l e R s m args below meth c T' (locs ++ L) (cells + mc) (slots + ms) ∧ (∀ q ∈ L, free q.base) ∧ T'.heap = t.heap ∧ T'.vm = t.vm ∧ Qa st₀ (.returned v) t ∧
      Goes p e below T g T' { g with pc := g.pc + 3, stack := v.toList ++ rest }) ∨
    (∃ (q : Addr) (st₀ t T' : State) (L : List Loc) (E : String) (ce : Cell), st₀.heap = H ∧ Stand p l e R s m args below meth c T' (locs ++ L) (cells + mc) (slots + ms) ∧ (∀ z ∈ L, free z.base) ∧ T'.heap = t.heap ∧ T'.vm = t.vm ∧ XC E st₀ t ∧ t.heap[q]? = some ce ∧ ce.vm = .none ∧ s.vm.findClass E = some ce.cls ∧
      Steps p.tables e below (T.setTop g) ((T'.setTop { g with stack := rest }).pushFrame (.throwing q)))
def vx_X {S : Type} (px : S → Prop) (B : String → S → State → Prop) (A : Nat → Prop) : String → State → State → Prop := fun E st t => ∃ u : S, px u ∧ B E u t ∧ va_F A st t
section Runs
variable {p : Program} {l : Launch} {e : Env} {R : Room} {s : State} {m : MethodId} {args : Array Value} {below : List Frame} {meth : Method} {c : Code} {H : Heap} {locs : List Loc} {cells slots : Nat}
variable {y : MethodName} {bytes cc : ByteArray} {maxL nL mc ms n index : Nat} {ret : Option FieldType} {ws : List Cond} {rm : Room} {Pc : Array Value → State → Prop} {Qc : Array Value → State → Outcome → State → Prop} {XC : String → State → State → Prop} {free : Addr → Prop} {Ts : List Cond} {own C : String} {b : Addr} {As rest : List Value} {g : JFrame}
theorem vx_callBack (cb : CallB R s args own index y bytes maxL ret ws rm mc ms n) (hM : vx_Met l y ws rm Pc Qc XC mc ms free) (hbl : FrameBlind Pc) : vx_Back l R p e below s args y 3 8 (PreOf R mc ms Pc) (PostOf Qc mc ms free) (vx_Post XC mc ms free) := by
  obtain ⟨hrc, hrs, hfr, hlo, hws, hcw, -, hini, -⟩ := cb
  exact vx_back (bytes := bytes) (maxL := maxL) (ret := ret) hM hbl hrc hrs hfr hlo hws hcw (fun a' U hW => word_at hW (Or.inl (by first | rfl | simp [Cond.onTables, Cond.keeps, Cond.steady])) hini)
theorem vx_runV (S : CallFix p m c cc nL s args Ts own) (hM : vx_Met l y ws rm Pc Qc XC mc ms free) (cw : CallW R s args own C index y bytes maxL ret ws rm mc ms n) (hp : PreV s H C b Pc As)
    (hg : g.method = m) (hn : As.length = n) (hsize : g.locals.size = nL) (hstack : g.stack = As.reverse ++ .ref b :: rest) (hW : 2 * g.monitorRoom + (rest.map fun v => v.category).sum ≤ 8) (hdg : decode cc g.pc = .ok (.invokevirtual index, 3)) (hf : cells + mc ≤ R.cells ∧ slots + ms ≤ R.slots) :
    vx_Run p l e R s m args below meth c H locs cells slots mc ms g rest (Qc (Value.ref b :: As).toArray) XC free := by
  have hK : vx_Back l R p e below s args y 3 8 (PreOf R mc ms Pc) (PostOf Qc mc ms free) (vx_Post XC mc ms free) := vx_callBack cw.1 hM hp.1
  obtain ⟨⟨-, -, -, -, -, -, hcode, -, hy, hlen, hl⟩, hin, hse⟩ := cw
  obtain ⟨hx, hb, hml, ho, -⟩ := S
  obtain ⟨-, ⟨cellB, hcB, hoB, hclB⟩, hPc⟩ := hp
  intro T hT X
  rcases vx_callV X hx (C := C) (bytes := bytes) (maxL := maxL) (ret := ret) ho hl hin hse hcode hy hK (by rw [hT]; exact hcB) hoB hclB hg (hsize.trans hml.symm) (argsL := As) (rest := rest) (fun sig h => hn.trans (hlen sig h)) hstack hW (by rw [hb]; exact hdg)
    (fun vm₁ hW₁ => ⟨hf.1, hf.2, hPc (T.setVm vm₁) hT hW₁⟩) with ⟨v, vm₁, ⟨U', l2, c2, s2⟩, hW₁, X', ⟨g', mk, t, L, e1, e2, hq, h1, hL, h2, h3⟩, st⟩ | ⟨q, vm₁, ⟨U', l2, c2, s2⟩, hW₁, X', ⟨g', mk, t, L, E, ce, e1, e2, hq, hce, hcv, hcl, h1, hL, h2, h3⟩, st⟩
  · dsimp only [Pt.U, Pt.locs, Pt.cells, Pt.slots] at X' e1 e2 h1 h2 h3 st
    subst h1; subst h2; subst h3
    exact Or.inl ⟨v, (T.setVm vm₁).calling g' mk (Value.ref b :: As).toArray, t, U', L, hT, X', hL, e1, e2, hq, st⟩
  · dsimp only [Pt.U, Pt.locs, Pt.cells, Pt.slots] at X' e1 e2 h1 h2 h3 st hcl
    subst h1; subst h2; subst h3
    exact Or.inr ⟨q, (T.setVm vm₁).calling g' mk (Value.ref b :: As).toArray, t, U', L, E, ce, hT, X', hL, e1, e2, hq, hce, hcv, vx_cls hW₁ hcl, st⟩
theorem vx_runS (S : CallFix p m c cc nL s args Ts own) (hM : vx_Met l y ws rm Pc Qc XC mc ms free) (cw : CallB R s args own index y bytes maxL ret ws rm mc ms n ∧ (Cond.static y).before args s = true) (hp : PreS s H Pc As)
    (hg : g.method = m) (hn : As.length = n) (hsize : g.locals.size = nL) (hstack : g.stack = As.reverse ++ rest) (hW : 2 * g.monitorRoom + (rest.map fun v => v.category).sum ≤ 8) (hdg : decode cc g.pc = .ok (.invokestatic index, 3)) (hf : cells + mc ≤ R.cells ∧ slots + ms ≤ R.slots) :
    vx_Run p l e R s m args below meth c H locs cells slots mc ms g rest (Qc As.toArray) XC free := by
  have hK : vx_Back l R p e below s args y 3 8 (PreOf R mc ms Pc) (PostOf Qc mc ms free) (vx_Post XC mc ms free) := vx_callBack cw.1 hM hp.1
  obtain ⟨⟨-, -, -, -, -, -, hcode, hini, hy, hlen, hl⟩, hstt⟩ := cw
  obtain ⟨hx, hb, hml, ho, -⟩ := S
  intro T hT X
  rcases vx_callS X hx (bytes := bytes) (maxL := maxL) (ret := ret) ho hl hstt hini hcode hy hK hg (hsize.trans hml.symm) (argsL := As) (rest := rest) (fun sig h => hn.trans (hlen sig h)) hstack hW (by rw [hb]; exact hdg)
    (fun vm₁ hW₁ => ⟨hf.1, hf.2, hp.2 (T.setVm vm₁) hT hW₁⟩) with ⟨v, vm₁, ⟨U', l2, c2, s2⟩, hW₁, X', ⟨g', mk, t, L, e1, e2, hq, h1, hL, h2, h3⟩, st⟩ | ⟨q, vm₁, ⟨U', l2, c2, s2⟩, hW₁, X', ⟨g', mk, t, L, E, ce, e1, e2, hq, hce, hcv, hcl, h1, hL, h2, h3⟩, st⟩
  · dsimp only [Pt.U, Pt.locs, Pt.cells, Pt.slots] at X' e1 e2 h1 h2 h3 st
    subst h1; subst h2; subst h3
    exact Or.inl ⟨v, (T.setVm vm₁).calling g' mk As.toArray, t, U', L, hT, X', hL, e1, e2, hq, st⟩
  · dsimp only [Pt.U, Pt.locs, Pt.cells, Pt.slots] at X' e1 e2 h1 h2 h3 st hcl
    subst h1; subst h2; subst h3
    exact Or.inr ⟨q, (T.setVm vm₁).calling g' mk As.toArray, t, U', L, E, ce, hT, X', hL, e1, e2, hq, hce, hcv, vx_cls hW₁ hcl, st⟩
end Runs
section Rows
variable {p : Program} {l : Launch} {e : Env} {R : Room} {s : State} {m : MethodId} {args : Array Value} {below : List Frame} {meth : Method} {c : Code} {H : Heap} {locs : List Loc} {cells slots : Nat} {Q : State → Prop}
variable {mc ms : Nat} {free : Addr → Prop} {A0 A1 : Nat → Prop} {H0 : Heap} {a : Array Value} {pc : Nat} {ls : Array Slot} {st0 rest : List Value}
theorem vx_keep {st₀ t T' : State} {L : List Loc} (h0 : st₀.heap = H) (e1 : T'.heap = t.heap) (hS : va_S A0 H0 H locs) (hA : ∀ q, q < H.size → A1 q → A0 q) (hf : ∀ q, free q → A0 q) (hL : ∀ q ∈ L, free q.base) (hF : va_F A1 st₀ t) :
    H.size ≤ T'.heap.size ∧ (∀ q : Nat, q < H.size → ¬ A1 q → T'.heap[q]? = H[q]?) ∧ va_S A0 H0 T'.heap (locs ++ L) := by
  obtain ⟨hz, hk⟩ := hF
  rw [h0] at hz hk
  exact ⟨by rw [e1]; exact hz, fun q h1 h2 => by rw [e1]; exact hk q h1 h2,
    ⟨Nat.le_trans hS.1 (by rw [e1]; exact hz), fun q h1 h2 => by rw [e1, hk q (Nat.lt_of_lt_of_le h1 hS.1) (fun z => h2 (hA q (Nat.lt_of_lt_of_le h1 hS.1) z))]; exact hS.2.1 q h1 h2, fun q hq => by
      rcases List.mem_append.mp hq with h | h
      · exact hS.2.2 q h
      · exact hf _ (hL q h)⟩⟩
theorem vx_calli {S SX : Type} {post : Int32 → S → Prop} {px : SX → Prop} {B : S → State → Prop} {BX : String → SX → State → Prop} {AX : Nat → Prop} (hr : vx_Run p l e R s m args below meth c H locs cells slots mc ms (F0 m pc ls st0) rest (va_Qi post B A1 a) (vx_X px BX AX) free) (hS : va_S A0 H0 H locs) (hA : ∀ q, q < H.size → A1 q → A0 q) (hf : ∀ q, free q → A0 q) (hAX : ∀ q, q < H.size → AX q → A0 q)
    (kx : ∀ (E : String) (ce : Cell) (q9 : Addr) (u : SX) (t : State) (H1 : Heap) (locs1 : List Loc), t.heap = H1 → s.vm.Alike t.vm → px u → BX E u t → H.size ≤ H1.size → (∀ q : Nat, q < H.size → ¬ AX q → H1[q]? = H[q]?) → va_S A0 H0 H1 locs1 → H1[q9]? = some ce → ce.vm = .none → s.vm.findClass E = some ce.cls → vx_W p l e R s m args below meth c H1 locs1 (cells + mc) (slots + ms) Q (F0 m pc ls rest) q9)
    (kk : ∀ (r : Int32) (u : S) (t : State) (H1 : Heap) (locs1 : List Loc), t.heap = H1 → s.vm.Alike t.vm → post r u → B u t → H.size ≤ H1.size → (∀ q : Nat, q < H.size → ¬ A1 q → H1[q]? = H[q]?) → va_S A0 H0 H1 locs1 → W p l e R s m args below meth c H1 locs1 (cells + mc) (slots + ms) Q (F0 m (pc + 3) ls (.int r :: rest))) : W p l e R s m args below meth c H locs cells slots Q (F0 m pc ls st0) := by
  intro T hT X
  rcases hr T hT X with ⟨v, st₀, t, T', L, h0, X', hL, e1, e2, ⟨⟨r, u, hv, hp, hb⟩, hF⟩, st⟩ | ⟨q, st₀, t, T', L, E, ce, h0, X', hL, e1, e2, ⟨u, hp, hb, hF⟩, hce, hcv, hcl, st⟩
  · cases hv
    obtain ⟨k1, k2, k3⟩ := vx_keep h0 e1 hS hA hf hL hF
    obtain ⟨t2, a1, b1⟩ := kk r u t T'.heap (locs ++ L) e1.symm (by rw [← e2]; exact X'.warmed.alike) hp hb k1 k2 k3 T' rfl X'
    exact ⟨t2, st t2 a1, b1⟩
  · obtain ⟨k1, k2, k3⟩ := vx_keep h0 e1 hS hAX hf hL hF
    obtain ⟨t2, a1, b1⟩ := kx E ce q u t T'.heap (locs ++ L) e1.symm (by rw [← e2]; exact X'.warmed.alike) hp hb k1 k2 k3 (by rw [e1]; exact hce) hcv hcl T' rfl X'
    exact ⟨t2, st.trans a1, b1⟩
theorem vx_calll {S SX : Type} {post : Int64 → S → Prop} {px : SX → Prop} {B : S → State → Prop} {BX : String → SX → State → Prop} {AX : Nat → Prop} (hr : vx_Run p l e R s m args below meth c H locs cells slots mc ms (F0 m pc ls st0) rest (va_Ql post B A1 a) (vx_X px BX AX) free) (hS : va_S A0 H0 H locs) (hA : ∀ q, q < H.size → A1 q → A0 q) (hf : ∀ q, free q → A0 q) (hAX : ∀ q, q < H.size → AX q → A0 q)
    (kx : ∀ (E : String) (ce : Cell) (q9 : Addr) (u : SX) (t : State) (H1 : Heap) (locs1 : List Loc), t.heap = H1 → s.vm.Alike t.vm → px u → BX E u t → H.size ≤ H1.size → (∀ q : Nat, q < H.size → ¬ AX q → H1[q]? = H[q]?) → va_S A0 H0 H1 locs1 → H1[q9]? = some ce → ce.vm = .none → s.vm.findClass E = some ce.cls → vx_W p l e R s m args below meth c H1 locs1 (cells + mc) (slots + ms) Q (F0 m pc ls rest) q9)
    (kk : ∀ (r : Int64) (u : S) (t : State) (H1 : Heap) (locs1 : List Loc), t.heap = H1 → s.vm.Alike t.vm → post r u → B u t → H.size ≤ H1.size → (∀ q : Nat, q < H.size → ¬ A1 q → H1[q]? = H[q]?) → va_S A0 H0 H1 locs1 → W p l e R s m args below meth c H1 locs1 (cells + mc) (slots + ms) Q (F0 m (pc + 3) ls (.long r :: rest))) : W p l e R s m args below meth c H locs cells slots Q (F0 m pc ls st0) := by
  intro T hT X
  rcases hr T hT X with ⟨v, st₀, t, T', L, h0, X', hL, e1, e2, ⟨⟨r, u, hv, hp, hb⟩, hF⟩, st⟩ | ⟨q, st₀, t, T', L, E, ce, h0, X', hL, e1, e2, ⟨u, hp, hb, hF⟩, hce, hcv, hcl, st⟩
  · cases hv
    obtain ⟨k1, k2, k3⟩ := vx_keep h0 e1 hS hA hf hL hF
    obtain ⟨t2, a1, b1⟩ := kk r u t T'.heap (locs ++ L) e1.symm (by rw [← e2]; exact X'.warmed.alike) hp hb k1 k2 k3 T' rfl X'
    exact ⟨t2, st t2 a1, b1⟩
  · obtain ⟨k1, k2, k3⟩ := vx_keep h0 e1 hS hAX hf hL hF
    obtain ⟨t2, a1, b1⟩ := kx E ce q u t T'.heap (locs ++ L) e1.symm (by rw [← e2]; exact X'.warmed.alike) hp hb k1 k2 k3 (by rw [e1]; exact hce) hcv hcl T' rfl X'
    exact ⟨t2, st.trans a1, b1⟩
theorem vx_callf {S SX : Type} {post : UInt32 → S → Prop} {px : SX → Prop} {B : S → State → Prop} {BX : String → SX → State → Prop} {AX : Nat → Prop} (hr : vx_Run p l e R s m args below meth c H locs cells slots mc ms (F0 m pc ls st0) rest (va_Qf post B A1 a) (vx_X px BX AX) free) (hS : va_S A0 H0 H locs) (hA : ∀ q, q < H.size → A1 q → A0 q) (hf : ∀ q, free q → A0 q) (hAX : ∀ q, q < H.size → AX q → A0 q)
    (kx : ∀ (E : String) (ce : Cell) (q9 : Addr) (u : SX) (t : State) (H1 : Heap) (locs1 : List Loc), t.heap = H1 → s.vm.Alike t.vm → px u → BX E u t → H.size ≤ H1.size → (∀ q : Nat, q < H.size → ¬ AX q → H1[q]? = H[q]?) → va_S A0 H0 H1 locs1 → H1[q9]? = some ce → ce.vm = .none → s.vm.findClass E = some ce.cls → vx_W p l e R s m args below meth c H1 locs1 (cells + mc) (slots + ms) Q (F0 m pc ls rest) q9)
    (kk : ∀ (r : UInt32) (u : S) (t : State) (H1 : Heap) (locs1 : List Loc), t.heap = H1 → s.vm.Alike t.vm → post r u → B u t → H.size ≤ H1.size → (∀ q : Nat, q < H.size → ¬ A1 q → H1[q]? = H[q]?) → va_S A0 H0 H1 locs1 → W p l e R s m args below meth c H1 locs1 (cells + mc) (slots + ms) Q (F0 m (pc + 3) ls (.float r :: rest))) : W p l e R s m args below meth c H locs cells slots Q (F0 m pc ls st0) := by
  intro T hT X
  rcases hr T hT X with ⟨v, st₀, t, T', L, h0, X', hL, e1, e2, ⟨⟨r, u, hv, hp, hb⟩, hF⟩, st⟩ | ⟨q, st₀, t, T', L, E, ce, h0, X', hL, e1, e2, ⟨u, hp, hb, hF⟩, hce, hcv, hcl, st⟩
  · cases hv
    obtain ⟨k1, k2, k3⟩ := vx_keep h0 e1 hS hA hf hL hF
    obtain ⟨t2, a1, b1⟩ := kk r u t T'.heap (locs ++ L) e1.symm (by rw [← e2]; exact X'.warmed.alike) hp hb k1 k2 k3 T' rfl X'
    exact ⟨t2, st t2 a1, b1⟩
  · obtain ⟨k1, k2, k3⟩ := vx_keep h0 e1 hS hAX hf hL hF
    obtain ⟨t2, a1, b1⟩ := kx E ce q u t T'.heap (locs ++ L) e1.symm (by rw [← e2]; exact X'.warmed.alike) hp hb k1 k2 k3 (by rw [e1]; exact hce) hcv hcl T' rfl X'
    exact ⟨t2, st.trans a1, b1⟩
theorem vx_calld {S SX : Type} {post : UInt64 → S → Prop} {px : SX → Prop} {B : S → State → Prop} {BX : String → SX → State → Prop} {AX : Nat → Prop} (hr : vx_Run p l e R s m args below meth c H locs cells slots mc ms (F0 m pc ls st0) rest (va_Qd post B A1 a) (vx_X px BX AX) free) (hS : va_S A0 H0 H locs) (hA : ∀ q, q < H.size → A1 q → A0 q) (hf : ∀ q, free q → A0 q) (hAX : ∀ q, q < H.size → AX q → A0 q)
    (kx : ∀ (E : String) (ce : Cell) (q9 : Addr) (u : SX) (t : State) (H1 : Heap) (locs1 : List Loc), t.heap = H1 → s.vm.Alike t.vm → px u → BX E u t → H.size ≤ H1.size → (∀ q : Nat, q < H.size → ¬ AX q → H1[q]? = H[q]?) → va_S A0 H0 H1 locs1 → H1[q9]? = some ce → ce.vm = .none → s.vm.findClass E = some ce.cls → vx_W p l e R s m args below meth c H1 locs1 (cells + mc) (slots + ms) Q (F0 m pc ls rest) q9)
    (kk : ∀ (r : UInt64) (u : S) (t : State) (H1 : Heap) (locs1 : List Loc), t.heap = H1 → s.vm.Alike t.vm → post r u → B u t → H.size ≤ H1.size → (∀ q : Nat, q < H.size → ¬ A1 q → H1[q]? = H[q]?) → va_S A0 H0 H1 locs1 → W p l e R s m args below meth c H1 locs1 (cells + mc) (slots + ms) Q (F0 m (pc + 3) ls (.double r :: rest))) : W p l e R s m args below meth c H locs cells slots Q (F0 m pc ls st0) := by
  intro T hT X
  rcases hr T hT X with ⟨v, st₀, t, T', L, h0, X', hL, e1, e2, ⟨⟨r, u, hv, hp, hb⟩, hF⟩, st⟩ | ⟨q, st₀, t, T', L, E, ce, h0, X', hL, e1, e2, ⟨u, hp, hb, hF⟩, hce, hcv, hcl, st⟩
  · cases hv
    obtain ⟨k1, k2, k3⟩ := vx_keep h0 e1 hS hA hf hL hF
    obtain ⟨t2, a1, b1⟩ := kk r u t T'.heap (locs ++ L) e1.symm (by rw [← e2]; exact X'.warmed.alike) hp hb k1 k2 k3 T' rfl X'
    exact ⟨t2, st t2 a1, b1⟩
  · obtain ⟨k1, k2, k3⟩ := vx_keep h0 e1 hS hAX hf hL hF
    obtain ⟨t2, a1, b1⟩ := kx E ce q u t T'.heap (locs ++ L) e1.symm (by rw [← e2]; exact X'.warmed.alike) hp hb k1 k2 k3 (by rw [e1]; exact hce) hcv hcl T' rfl X'
    exact ⟨t2, st.trans a1, b1⟩
theorem vx_callv {S SX : Type} {post : S → Prop} {px : SX → Prop} {B : S → State → Prop} {BX : String → SX → State → Prop} {AX : Nat → Prop} (hr : vx_Run p l e R s m args below meth c H locs cells slots mc ms (F0 m pc ls st0) rest (va_Qv post B A1 a) (vx_X px BX AX) free) (hS : va_S A0 H0 H locs) (hA : ∀ q, q < H.size → A1 q → A0 q) (hf : ∀ q, free q → A0 q) (hAX : ∀ q, q < H.size → AX q → A0 q)
    (kx : ∀ (E : String) (ce : Cell) (q9 : Addr) (u : SX) (t : State) (H1 : Heap) (locs1 : List Loc), t.heap = H1 → s.vm.Alike t.vm → px u → BX E u t → H.size ≤ H1.size → (∀ q : Nat, q < H.size → ¬ AX q → H1[q]? = H[q]?) → va_S A0 H0 H1 locs1 → H1[q9]? = some ce → ce.vm = .none → s.vm.findClass E = some ce.cls → vx_W p l e R s m args below meth c H1 locs1 (cells + mc) (slots + ms) Q (F0 m pc ls rest) q9)
    (kk : ∀ (u : S) (t : State) (H1 : Heap) (locs1 : List Loc), t.heap = H1 → s.vm.Alike t.vm → post u → B u t → H.size ≤ H1.size → (∀ q : Nat, q < H.size → ¬ A1 q → H1[q]? = H[q]?) → va_S A0 H0 H1 locs1 → W p l e R s m args below meth c H1 locs1 (cells + mc) (slots + ms) Q (F0 m (pc + 3) ls (rest))) : W p l e R s m args below meth c H locs cells slots Q (F0 m pc ls st0) := by
  intro T hT X
  rcases hr T hT X with ⟨v, st₀, t, T', L, h0, X', hL, e1, e2, ⟨⟨u, hv, hp, hb⟩, hF⟩, st⟩ | ⟨q, st₀, t, T', L, E, ce, h0, X', hL, e1, e2, ⟨u, hp, hb, hF⟩, hce, hcv, hcl, st⟩
  · cases hv
    obtain ⟨k1, k2, k3⟩ := vx_keep h0 e1 hS hA hf hL hF
    obtain ⟨t2, a1, b1⟩ := kk u t T'.heap (locs ++ L) e1.symm (by rw [← e2]; exact X'.warmed.alike) hp hb k1 k2 k3 T' rfl X'
    exact ⟨t2, st t2 a1, b1⟩
  · obtain ⟨k1, k2, k3⟩ := vx_keep h0 e1 hS hAX hf hL hF
    obtain ⟨t2, a1, b1⟩ := kx E ce q u t T'.heap (locs ++ L) e1.symm (by rw [← e2]; exact X'.warmed.alike) hp hb k1 k2 k3 (by rw [e1]; exact hce) hcv hcl T' rfl X'
    exact ⟨t2, st.trans a1, b1⟩
/-- caught by the row x of this method's table; the rows ahead don't take it -/
theorem vx_catch {own name : String} {E : String} {ce : Cell} {q : Addr} (hown : s.vm.findClass own = some m.cls) (pre : List ExceptionTableEntry) (x : ExceptionTableEntry) (suf : List ExceptionTableEntry) (hsplit : c.exceptionTable.toList = pre ++ x :: suf)
    (hpass : ∀ z ∈ pre, covers z pc = false ∨ (z.catchType ≠ 0 ∧ ∃ nm : String, (Cond.classLink own z.catchType nm).before args s = true ∧ va_Nc E nm s)) (hx : covers x pc = true) (h0 : x.catchType ≠ 0)
    (hlink : (Cond.classLink own x.catchType name).before args s = true) (hcast : (Cond.castable E name).before args s = true) (hcell : H[q]? = some ce) (hv : ce.vm = .none) (hcl : s.vm.findClass E = some ce.cls)
    (kk : W p l e R s m args below meth c H locs cells slots Q (F0 m x.handlerPc ls [.ref q])) : vx_W p l e R s m args below meth c H locs cells slots Q (F0 m pc ls rest) q := by
  intro T hT X
  have hpl : e.platform.magicAccessors = ({} : Platform).magicAccessors := by rw [X.admits.platform]
  obtain ⟨c3, c4, hc3, hc4, hasg⟩ := Cond.castable_spec hcast
  cases Option.some.inj (hc3.symm.trans hcl)
  obtain ⟨c5, hc5, hcl5⟩ := Cond.classLink_spec hown hlink e.platform hpl
  cases Option.some.inj (hc4.symm.trans hc5)
  obtain ⟨vm', X', st⟩ := X.thenCaughtThrough q (g := F0 m pc ls rest) rfl (Steps.refl _) (by rw [hT]; exact hcell) (by rw [hv]; rfl) (by obtain ⟨k9, h9, -⟩ := Vm.findClass_spec hcl; exact ⟨k9, h9⟩) pre x suf hsplit
    (fun z hz => by
      rcases hpass z hz with h | ⟨hz0, nm, hl1, hn1⟩
      · exact Or.inl h
      · obtain ⟨c6, hc6, hcl6⟩ := Cond.classLink_spec hown hl1 e.platform hpl
        obtain ⟨a8, b8, h1, h2, h3⟩ := hn1
        cases Option.some.inj (h1.symm.trans hcl)
        cases Option.some.inj (h2.symm.trans hc6)
        exact Or.inr ⟨hz0, _, hcl6, h3⟩) hx (Or.inr ⟨h0, c4, hcl5, hasg⟩)
  obtain ⟨t, a1, b1⟩ := kk (T.setVm vm') hT X'
  exact ⟨t, st.trans a1, b1⟩
end Rows
section Ends
variable {p : Program} {l : Launch} {e : Env} {R : Room} {s : State} {m : MethodId} {args : Array Value} {below : List Frame} {meth : Method} {c : Code} {H : Heap} {locs : List Loc} {cells slots : Nat} {Q : State → Prop}
variable {mc ms : Nat} {free : Addr → Prop} {A0 A1 : Nat → Prop} {H0 : Heap} {a : Array Value} {ls : Array Slot} {st0 rest : List Value}
variable {Qc : Array Value → State → Outcome → State → Prop} {XC : String → State → State → Prop}
/-- what a body that may throw owes at its end -/
def vx_MQ (below : List Frame) (Qc : Array Value → State → Outcome → State → Prop) (XC : String → State → State → Prop) (a : Array Value) (s : State) (mc ms : Nat) (free : Addr → Prop) : State → Prop := fun t =>
  ∃ o, t.status = .running ∧ Ended t below o ∧ vx_Q Qc XC mc ms free a s o t
theorem vx_ret {g : JFrame} {mc ms : Nat} (k : W p l e R s m args below meth c H locs cells slots (MQ below Qc args s mc ms free) g) : W p l e R s m args below meth c H locs cells slots (vx_MQ below Qc XC args s mc ms free) g := by
  intro T hT X
  obtain ⟨t, a1, o, b1, b2, b3, b4⟩ := k T hT X
  exact ⟨t, a1, o, b1, b2, Or.inl ⟨b3, b4⟩⟩
/-- not caught here: it goes on to the caller -/
theorem vx_widen {g : JFrame} {q : Addr} {k n : Nat} (h1 : cells ≤ k) (h2 : slots ≤ n) (kk : vx_W p l e R s m args below meth c H locs k n Q g q) : vx_W p l e R s m args below meth c H locs cells slots Q g q := fun T hT X => kk T hT (stand_widen X h1 h2)
theorem vx_out {pc : Nat} {E : String} {ce : Cell} {q : Addr} {mc ms : Nat} (hout : ∀ x ∈ c.exceptionTable.toList, covers x pc = false) (hlocks : meth.locks = false) (hcell : H[q]? = some ce) (hv : ce.vm = .none) (hcl : s.vm.findClass E = some ce.cls)
    (hx : ∀ t : State, t.heap = H → s.vm.Alike t.vm → XC E s t) (hf : ∀ z ∈ locs, free z.base) (hc : cells ≤ mc) (hs : slots ≤ ms) :
    vx_W p l e R s m args below meth c H locs cells slots (vx_MQ below Qc XC args s mc ms free) (F0 m pc ls rest) q := by
  intro T hT X
  obtain ⟨st1, hrun, hend, hW, hsm⟩ := X.leaveThrown q (g := F0 m pc ls rest) rfl rfl rfl hout hlocks
  have hcell9 : (T.setFrames (.throwing q :: below)).heap[q]? = some ce := by
    show T.heap[q]? = some ce
    rw [hT]; exact hcell
  exact ⟨_, st1, .threw q, hrun, hend, Or.inr ⟨q, rfl, E, ce, locs, hx _ hT hW.alike, hcell9, hv, hcl, hW, hsm.mono hc hs, hf⟩⟩
theorem vx_frame {U : State} {k n : Nat} (h : s.sameButNew ({ U with vm := s.vm } : State) locs k n) : s.heap.size ≤ U.heap.size ∧ ∀ q : Nat, q < s.heap.size → (∀ z ∈ locs, z.base ≠ q) → U.heap[q]? = s.heap[q]? := by
  obtain ⟨-, h2, -, -, -, h6⟩ := h
  refine ⟨h2, fun q hq hz => ?_⟩
  obtain ⟨c9, e1, e2, e3, e4⟩ := h6 q _ (Array.getElem?_eq_getElem hq)
  have hs : c9.slots = (s.heap[q]).slots := Array.ext_getElem? fun i => e4 i fun hm => hz _ hm rfl
  have h9 : c9 = s.heap[q] := by
    rw [hs] at e2
    exact e2
  have e5 : U.heap[q]? = some c9 := e1
  rw [e5, h9, Array.getElem?_eq_getElem hq]
/-- the words of a throw but the four that speak of the heap -/
def vx_no (w : Cond) : Bool := decide (w ≠ .isRef (.static Bundle.tN "UNASSIGNED_STACK" Bundle.steD)) && decide (w ≠ .isRef (.static Bundle.tN "SUPPRESSED_SENTINEL" Bundle.listD)) && decide (w ≠ .laysStatic Bundle.tN "UNASSIGNED_STACK" Bundle.steD) && decide (w ≠ .laysStatic Bundle.tN "SUPPRESSED_SENTINEL" Bundle.listD)
def vx_at0 (own : String) (ic : Nat) (X : String) (names : List String) : List Cond := (Bundle.ownAtoms0 own ic X names).filter vx_no
def vx_atS (own : String) (ic : Nat) (X : String) (names : List String) : List Cond := (Bundle.ownAtoms own ic X names).filter vx_no
/-- a word that the tables alone decide, or a good one -/
def vx_ot (w : Cond) : Bool := w.onTables || goodWord w
theorem vx_ot_at {args a' : Array Value} {s U : State} {w : Cond} (hW : s.WarmedH U.vm) (hvm : s.vm = U.vm) (hg : vx_ot w = true) (h : w.before args s = true) : w.before a' U = true := by
  simp only [vx_ot, Bool.or_eq_true] at hg
  rcases hg with hg | hg
  · exact va_tabs hg hvm h
  · exact word_at hW (good_of_word hg) h
/-- a list's words: the good ones out of the method's own list, the others by premises of their own -/
theorem vx_hat {args : Array Value} {s : State} {L B : List Cond} (h1 : ∀ w ∈ L.filter goodWord, w.before args s = true) (h2 : ∀ w ∈ L.filter (fun w => !goodWord w), w ∈ B) (h3 : ∀ w ∈ B, w.before args s = true) : ∀ w ∈ L, w.before args s = true := by
  intro w hw
  by_cases g : goodWord w = true
  · exact h1 w (List.mem_filter.mpr ⟨hw, g⟩)
  · refine h3 w (h2 w (List.mem_filter.mpr ⟨hw, ?_⟩))
    show (!goodWord w) = true
    cases hgw : goodWord w
    · rfl
    · exact absurd hgw g
theorem vx_c {args : Array Value} {s : State} {w : Cond} {B : List Cond} (h : w.before args s = true) (t : ∀ w ∈ B, w.before args s = true) : ∀ w' ∈ w :: B, w'.before args s = true := fun w' h' => (List.mem_cons.mp h').elim (fun e => by rw [e]; exact h) (t w')
theorem vx_n {args : Array Value} {s : State} : ∀ w ∈ ([] : List Cond), w.before args s = true := fun _ h => nomatch h
theorem vx_own {args : Array Value} {s : State} {L : List Cond} (h1 : ∀ w ∈ L.filter vx_no, w.before args s = true)
    (hU : (Cond.isRef (.static Bundle.tN "UNASSIGNED_STACK" Bundle.steD)).before args s = true) (hN : (Cond.isRef (.static Bundle.tN "SUPPRESSED_SENTINEL" Bundle.listD)).before args s = true)
    (lU : (Cond.laysStatic Bundle.tN "UNASSIGNED_STACK" Bundle.steD).before args s = true) (lN : (Cond.laysStatic Bundle.tN "SUPPRESSED_SENTINEL" Bundle.listD).before args s = true) : ∀ w ∈ L, w.before args s = true := by
  intro w hw
  by_cases e1 : w = .isRef (.static Bundle.tN "UNASSIGNED_STACK" Bundle.steD)
  · rw [e1]; exact hU
  · by_cases e2 : w = .isRef (.static Bundle.tN "SUPPRESSED_SENTINEL" Bundle.listD)
    · rw [e2]; exact hN
    · by_cases e3 : w = .laysStatic Bundle.tN "UNASSIGNED_STACK" Bundle.steD
      · rw [e3]; exact lU
      · by_cases e4 : w = .laysStatic Bundle.tN "SUPPRESSED_SENTINEL" Bundle.listD
        · rw [e4]; exact lN
        · exact h1 w (List.mem_filter.mpr ⟨hw, by unfold vx_no; rw [decide_eq_true e1, decide_eq_true e2, decide_eq_true e3, decide_eq_true e4]; rfl⟩)
/-- where a static field lies, its class's statics cell in H -/
def vx_L (C n d : String) (A : Nat → Prop) (U : State) (H : Heap) : Prop := ∃ (c : ClassId) (k : Class) (i : Nat) (f : Field) (a : Nat) (cell : Cell), U.vm.findClass C = some c ∧ U.fieldFound? C n d = some (c, k, i, f) ∧ f.isStatic = true ∧ k.statics = some a ∧ H[a]? = some cell ∧ cell.vm.isStatics = true ∧ cell.cls = c ∧ f.slot < cell.slots.size ∧ k.staticTypes[f.slot]? = some f.type ∧ ¬ A a
theorem vx_L.moved {C n d : String} {A : Nat → Prop} {u U : State} {H : Heap} (hvm : u.vm.Alike U.vm) (h : vx_L C n d A u H) : vx_L C n d A U H := by
  obtain ⟨c, k, i, f, a, cell, h1, h2, h3, h4, h5, h6, h7, h8, h9, h10⟩ := h
  obtain ⟨k', hi', he⟩ := State.fieldFound?_setVm hvm h2
  exact ⟨c, k', i, f, a, cell, by rw [hvm.findClass]; exact h1, hi', h3, by rw [he]; exact h4, h5, h6, h7, h8, by rw [he]; exact h9, h10⟩
theorem vx_L.kept {C n d : String} {A : Nat → Prop} {U : State} {H H1 : Heap} (h : vx_L C n d A U H) (hq : ∀ a : Nat, a < H.size → ¬ A a → H1[a]? = H[a]?) : vx_L C n d A U H1 := by
  obtain ⟨c, k, i, f, a, cell, h1, h2, h3, h4, h5, h6, h7, h8, h9, h10⟩ := h
  exact ⟨c, k, i, f, a, cell, h1, h2, h3, h4, by rw [hq a (Array.getElem?_eq_some_iff.mp h5).1 h10]; exact h5, h6, h7, h8, h9, h10⟩
theorem vx_L.narrow {C n d : String} {A B : Nat → Prop} {U : State} {H : Heap} (h : vx_L C n d A U H) (hAB : ∀ q, B q → A q) : vx_L C n d B U H := by
  obtain ⟨c, k, i, f, a, cell, h1, h2, h3, h4, h5, h6, h7, h8, h9, h10⟩ := h
  exact ⟨c, k, i, f, a, cell, h1, h2, h3, h4, h5, h6, h7, h8, h9, fun z => h10 (hAB _ z)⟩
theorem vx_L.word {C n d : String} {A : Nat → Prop} {s : State} {args : Array Value} (h : vx_L C n d A s s.heap) : (Cond.laysStatic C n d).before args s = true := by
  obtain ⟨c, k, i, f, a, cell, h1, h2, h3, h4, h5, h6, h7, h8, h9, -⟩ := h
  show (Cond.laysStatic C n d).holds args s none s [] = true
  exact Cond.laysStatic_of h1 h2 h3 h4 h5 h6 h7 h8 h9
/-- .. and what it holds: null or some reference -/
def vx_Zq (C n d : String) (A : Nat → Prop) (U : State) (H : Heap) : Prop := va_Zq C n d A U H ∧ vx_L C n d A U H
theorem vx_Zq.moved {C n d : String} {A : Nat → Prop} {u U : State} {H : Heap} (hvm : u.vm.Alike U.vm) (h : vx_Zq C n d A u H) : vx_Zq C n d A U H := ⟨va_Zq.moved hvm h.1, vx_L.moved hvm h.2⟩
theorem vx_Zq.kept {C n d : String} {A : Nat → Prop} {U : State} {H H1 : Heap} (h : vx_Zq C n d A U H) (hq : ∀ a : Nat, a < H.size → ¬ A a → H1[a]? = H[a]?) : vx_Zq C n d A U H1 := ⟨va_Zq.kept h.1 hq, vx_L.kept h.2 hq⟩
theorem vx_Zq.narrow {C n d : String} {A B : Nat → Prop} {U : State} {H : Heap} (h : vx_Zq C n d A U H) (hAB : ∀ q, B q → A q) : vx_Zq C n d B U H := ⟨va_Zq.narrow h.1 hAB, vx_L.narrow h.2 hAB⟩
theorem vx_Zqof {args : Array Value} {s : State} {C n d : String} {A : Nat → Prop} (hl : (Cond.laysStatic C n d).before args s = true) (hini : (Cond.initialized C).before args s = true) (h : (Cond.isRef (.static C n d)).before args s = true) (hA : ∀ a : Nat, a < s.heap.size → ¬ A a) : vx_Zq C n d A s s.heap := by
  refine ⟨va_Zqof hl hini h hA, ?_⟩
  obtain ⟨c, k, i, f, a, cell, h1, h2, h3, h4, h5, h6, h7, h8, h9⟩ := Cond.laysStatic_spec hl
  exact ⟨c, k, i, f, a, cell, h1, h2, h3, h4, h5, h6, h7, h8, h9, hA a (Array.getElem?_eq_some_iff.mp h5).1⟩
theorem vx_isRef {C n d : String} {v : Value} {A : Nat → Prop} {s : State} {args : Array Value} (h : va_Z C n d v A s s.heap) (hv : v.isRef = true) : (Cond.isRef (.static C n d)).before args s = true := by
  obtain ⟨cf, kf, fi, f, a, cell, h1, h2, h3, h4, h5, h6, h7, -⟩ := h
  have he : (Term.static C n d).eval args s none [] s = some v := by
    simp [Term.eval, State.fieldNamed?, h1, h2, h4, h5, h6, h7]
  simp only [Cond.before, Cond.holds, Cond.value, he]
  cases v <;> simp_all [Value.isRef]
theorem vx_isRefq {C n d : String} {A : Nat → Prop} {s : State} {args : Array Value} (h : va_Zq C n d A s s.heap) : (Cond.isRef (.static C n d)).before args s = true := by
  rcases h with h | ⟨t, h⟩
  · exact vx_isRef h rfl
  · exact vx_isRef h rfl
/-- the same frame, seen from here: as if the method were called anew in this heap -/
theorem vx_rebase {T : State} (X : Stand p l e R s m args below meth c T locs cells slots) {R' : Room} (hf : R'.frames ≤ R.frames) (hl : R'.locals ≤ R.locals) (hc : cells + R'.cells ≤ R.cells) (hs : slots + R'.slots ≤ R.slots) :
    Stand p l e R' ((T.setVm s.vm).setFrames (.invoking m args :: below)) m args below meth c T [] 0 0 := by
  have htop : (T.setVm s.vm).topJava?.isSome := X.here.top
  have hF : ((T.setVm s.vm).setFrames (.invoking m args :: below)).frames = .invoking m args :: below := State.frames_setFrames _ (State.cur_lt_of_top htop)
  obtain ⟨g₀, hg0⟩ := Option.isSome_iff_exists.mp htop
  obtain ⟨r, hr⟩ := State.topJava?_eq_some.mp hg0
  have hl9 : e.platform.stackLimits (T.setVm s.vm).me = e.platform.stackLimits s.me := X.limits
  have hb9 : (T.setVm s.vm).me.stackBytes = s.me.stackBytes := X.bytes
  refine ⟨X.admits, X.cas, X.clock, hF, ?_, X.hears, X.method, X.code, X.here, X.tail, X.warmed, ?_, ?_, ?_⟩
  · have h := X.room
    have hU : ((T.setVm s.vm).setFrames (.invoking m args :: below)).localsInUse = s.localsInUse := by
      rw [State.localsInUse_invoking hF (meth := meth) (c := c) X.method X.code, State.localsInUse_invoking X.frames X.method X.code]
    simp only [State.hasRoom, Bool.and_eq_true, decide_eq_true_eq] at h ⊢
    obtain ⟨⟨⟨⟨h1, h2, h3, h4, h5, h6⟩, h7⟩, h8⟩, h9⟩ := h
    rw [X.frames, List.length_cons] at h2 h3
    have q1 := X.heapSize
    have q2 := X.used
    simp only [hF, hU, List.length_cons, State.stackLimits_setFrames, State.stackBytes_setFrames, hl9, hb9]
    refine ⟨⟨⟨⟨by omega, by omega, by omega, by omega, by omega, h6⟩, ?_⟩, ?_⟩, X.book⟩
    · show T.heap.size + R'.cells ≤ e.platform.maxCells
      omega
    · show T.slotsUsed + R'.slots ≤ e.platform.maxSlots
      omega
  · rw [State.stackLimits_setFrames]; rfl
  · rw [State.stackBytes_setFrames]; rfl
  · refine ⟨?_, Nat.le_refl _, Nat.le_refl _, ?_, ?_, fun a c9 h9 => ⟨c9, h9, rfl, rfl, fun _ _ => rfl⟩⟩
    · obtain ⟨t, ht, -⟩ := State.frames_cons hr
      show T.setVm s.vm = { ((T.setVm s.vm).setFrames (.invoking m args :: below)).setFrames (T.setVm s.vm).frames with heap := T.heap, slotsUsed := T.slotsUsed }
      rw [State.setFrames_setFrames, State.setFrames_self ht]
      rfl
    · show T.slotsUsed = T.slotsUsed + ((T.heap.toList.drop T.heap.size).map (·.slots.size)).sum
      rw [List.drop_eq_nil_of_le (Nat.le_of_eq Array.length_toList)]
      rfl
    · show ((T.heap.toList.drop T.heap.size).map (·.slots.size)).sum ≤ 0
      rw [List.drop_eq_nil_of_le (Nat.le_of_eq Array.length_toList)]
      exact Nat.le_refl _
/-- 'throw new E()': new; dup; invokespecial; athrow -/
theorem vx_throw0 {cc : ByteArray} {pc : Nat} (hexec : p.tables.exec = Jvm.exec) (hb : c.code = cc) (hl : l.stackTraces = false) {own cls : String} {names : List String} {ik ic mc ms : Nat} {A : Nat → Prop}
    (hown : s.vm.findClass own = some m.cls) (hcls : Bundle.fit cls = true) (hnames : ∀ n ∈ names, Bundle.fit n = true)
    (hk : (Cond.classLink own ik cls).before args s = true) (hini : (Cond.initialized cls).before args s = true) (hat : ∀ w ∈ vx_at0 own ic cls names, w.before args s = true)
    (hgood : ∀ w ∈ Cond.classLink own ik cls :: Cond.initialized cls :: vx_at0 own ic cls names, vx_ot w = true)
    (hU : vx_Zq Bundle.tN "UNASSIGNED_STACK" Bundle.steD A s s.heap) (hN : vx_Zq Bundle.tN "SUPPRESSED_SENTINEL" Bundle.listD A s s.heap) (hS : va_S A s.heap H locs) (hsize : ls.size = c.maxLocals)
    (d0 : decode cc pc = .ok (.new ik, 3)) (d3 : decode cc (pc + 3) = .ok (.dup, 1)) (d4 : decode cc (pc + 4) = .ok (.invokespecial ic, 3)) (d7 : decode cc (pc + 7) = .ok (.athrow, 1))
    (hout : ∀ x ∈ c.exceptionTable.toList, covers x (pc + 7) = false)
    (hRframes : names.length + 3 < R.frames) (hRlocals : (rest.map fun v => v.category).sum + (13 * (names.length + 1) + 42) ≤ R.locals) (hRcells : cells + 1 ≤ R.cells) (hRslots : slots + 6 ≤ R.slots) (hlocks : meth.locks = false)
    (hx : ∀ t : State, s.vm.Alike t.vm → H.size ≤ t.heap.size → (∀ q : Nat, q < H.size → t.heap[q]? = H[q]?) → XC cls s t)
    (hf : ∀ z ∈ locs, free z.base) (hc : cells + 1 ≤ mc) (hs : slots + 6 ≤ ms) :
    W p l e R s m args below meth c H locs cells slots (vx_MQ below Qc XC args s mc ms free) (F0 m pc ls rest) := by
  intro T hT X
  have htr : e.platform.stackTraces = false := (show e.platform.stackTraces = l.stackTraces by rw [X.admits.platform]).trans hl
  have Y := vx_rebase X (R' := { frames := R.frames, locals := R.locals, cells := 1, slots := 6 }) (Nat.le_refl _) (Nat.le_refl _) hRcells hRslots
  obtain ⟨s', hA⟩ : ∃ z, z = (T.setVm s.vm).setFrames (.invoking m args :: below) := ⟨_, rfl⟩
  rw [← hA] at Y
  have hvm : s'.vm = s.vm := by rw [hA]; rfl
  have hhp : s'.heap = H := by rw [hA]; exact hT
  have hW0 : s.WarmedH s'.vm := by rw [hvm]; exact State.WarmedH.refl s
  have hat' : ∀ w ∈ vx_at0 own ic cls names, w.before args s' = true := fun w hw => vx_ot_at hW0 hvm.symm (hgood w (List.mem_cons_of_mem _ (List.mem_cons_of_mem _ hw))) (hat w hw)
  have hk' : (Cond.classLink own ik cls).before args s' = true := vx_ot_at hW0 hvm.symm (hgood _ List.mem_cons_self) hk
  have hini' : (Cond.initialized cls).before args s' = true := vx_ot_at hW0 hvm.symm (hgood _ (List.mem_cons_of_mem _ List.mem_cons_self)) hini
  have hU' : vx_Zq Bundle.tN "UNASSIGNED_STACK" Bundle.steD A s' s'.heap := by rw [hhp]; exact vx_Zq.moved hW0.alike (hU.kept hS.2.1)
  have hN' : vx_Zq Bundle.tN "SUPPRESSED_SENTINEL" Bundle.listD A s' s'.heap := by rw [hhp]; exact vx_Zq.moved hW0.alike (hN.kept hS.2.1)
  have h : ∀ w ∈ Bundle.ownAtoms0 own ic cls names, w.before args s' = true := vx_own hat' (vx_isRefq hU'.1) (vx_isRefq hN'.1) hU'.2.word hN'.2.word
  have hown' : s'.vm.findClass own = some m.cls := by rw [hvm]; exact hown
  have hins : (Cond.instantiable cls 6).before args s' = true := h _ (by simp [Bundle.ownAtoms0])
  obtain ⟨vm₁, cX, kX, hfX, hkX, -, -, X₁, st1⟩ := Y.newCold hexec (own := own) (C := cls) (index := ik) (n := 6) hown' hk' hins hini'
    (g := F0 m pc ls rest) rfl (by rw [hb]; exact d0) (Nat.le_refl _) (Nat.le_refl _)
  generalize hT1 : (T.setVm vm₁).pushCell { cls := cX, slots := kX.instanceTypes.map defaultValue, vm := .none } = T1 at X₁ st1
  have hcat : (Value.ref T.heap.size).category = 1 := rfl
  have hcellA : T1.heap[T.heap.size]? = some (freshCell cX kX) := by rw [← hT1]; exact State.heap_pushCell_size _ _
  have d3' : decode c.code (pc + 3) = .ok (.dup, 1) := by rw [hb]; exact d3
  obtain ⟨U, hsteps, hrun, hend, hW, hsame, ce, hce, hO⟩ := X₁.ctorThrow0 hexec htr (own := own) (cls := cls) (names := names) (ic := ic) hown' hcls hnames h (fun x hx => nomatch hx) hfX hkX hcellA (by rw [hhp, hT]; exact Nat.le_refl _)
    (g := { method := m, pc := pc + 4, locals := ls, stack := .ref T.heap.size :: .ref T.heap.size :: rest, locked := none }) rfl hsize rfl rfl (rest := rest) rfl
    (by rw [hb]; exact d4) (by rw [hb]; exact d7) hout hRframes (by simp only [List.map_cons, List.sum_cons, hcat]; omega) hlocks
  obtain ⟨f1, f2⟩ := vx_frame hsame
  rw [hhp] at f1 f2
  have hWs : s.WarmedH U.vm := State.WarmedH.trans hW0 hW
  have hcl : s.vm.findClass cls = some ce.cls := by
    have h9 := hO.cls
    rw [hvm] at h9
    exact h9
  have hall : s.sameButNew ({ U with vm := s.vm } : State) locs mc ms := by
    subst hA
    obtain ⟨e1, e2⟩ := hsame
    rw [State.setFrames_setFrames] at e1
    have h2 : (T.setVm s.vm).sameButNew ({ U with vm := s.vm } : State) [] (0 + 1) (0 + 6) := ⟨e1, e2⟩
    have h3 := X.same.trans h2
    rw [List.append_nil] at h3
    exact h3.mono hc hs
  refine ⟨U, ?_, .threw T.heap.size, hrun, hend, Or.inr ⟨T.heap.size, rfl, cls, ce, locs, hx U hWs.alike f1 (fun q hq => f2 q hq (fun z hz => nomatch hz)), hce, hO.vm, hcl, hWs, hall, hf⟩⟩
  refine st1 _ ?_
  show Steps p.tables e below (T1.setTop { method := m, pc := pc + 3, locals := ls, stack := .ref T.heap.size :: rest, locked := none }) _
  jvm_step X₁.here [X₁.here.top, hexec, d3', Value.category]
  exact hsteps
/-- 'throw new E("text")': new; dup; ldc; invokespecial; athrow -/
theorem vx_throwS {cc : ByteArray} {pc : Nat} (hexec : p.tables.exec = Jvm.exec) (hb : c.code = cc) (hl : l.stackTraces = false) {own cls text : String} {names : List String} {ik is ic mc ms sa : Nat} {A : Nat → Prop}
    (hown : s.vm.findClass own = some m.cls) (hcls : Bundle.fit cls = true) (hnames : ∀ n ∈ names, Bundle.fit n = true)
    (hk : (Cond.classLink own ik cls).before args s = true) (hini : (Cond.initialized cls).before args s = true) (hstr : vk_R own is text sa s) (hat : ∀ w ∈ vx_atS own ic cls names, w.before args s = true)
    (hgood : ∀ w ∈ Cond.classLink own ik cls :: Cond.initialized cls :: vx_atS own ic cls names, vx_ot w = true)
    (hU : vx_Zq Bundle.tN "UNASSIGNED_STACK" Bundle.steD A s s.heap) (hN : vx_Zq Bundle.tN "SUPPRESSED_SENTINEL" Bundle.listD A s s.heap) (hS : va_S A s.heap H locs) (hsize : ls.size = c.maxLocals)
    (d0 : decode cc pc = .ok (.new ik, 3)) (d3 : decode cc (pc + 3) = .ok (.dup, 1)) (d4 : decode cc (pc + 4) = .ok (.ldc is, 2)) (d6 : decode cc (pc + 6) = .ok (.invokespecial ic, 3)) (d9 : decode cc (pc + 9) = .ok (.athrow, 1))
    (hout : ∀ x ∈ c.exceptionTable.toList, covers x (pc + 9) = false)
    (hRframes : names.length + 3 < R.frames) (hRlocals : (rest.map fun v => v.category).sum + (13 * (names.length + 1) + 43) ≤ R.locals) (hRcells : cells + 1 ≤ R.cells) (hRslots : slots + 6 ≤ R.slots) (hlocks : meth.locks = false)
    (hx : ∀ t : State, s.vm.Alike t.vm → H.size ≤ t.heap.size → (∀ q : Nat, q < H.size → t.heap[q]? = H[q]?) → XC cls s t)
    (hf : ∀ z ∈ locs, free z.base) (hc : cells + 1 ≤ mc) (hs : slots + 6 ≤ ms) :
    W p l e R s m args below meth c H locs cells slots (vx_MQ below Qc XC args s mc ms free) (F0 m pc ls rest) := by
  intro T hT X
  have htr : e.platform.stackTraces = false := (show e.platform.stackTraces = l.stackTraces by rw [X.admits.platform]).trans hl
  have Y := vx_rebase X (R' := { frames := R.frames, locals := R.locals, cells := 1, slots := 6 }) (Nat.le_refl _) (Nat.le_refl _) hRcells hRslots
  obtain ⟨s', hA⟩ : ∃ z, z = (T.setVm s.vm).setFrames (.invoking m args :: below) := ⟨_, rfl⟩
  rw [← hA] at Y
  have hvm : s'.vm = s.vm := by rw [hA]; rfl
  have hhp : s'.heap = H := by rw [hA]; exact hT
  have hW0 : s.WarmedH s'.vm := by rw [hvm]; exact State.WarmedH.refl s
  have hat' : ∀ w ∈ vx_atS own ic cls names, w.before args s' = true := fun w hw => vx_ot_at hW0 hvm.symm (hgood w (List.mem_cons_of_mem _ (List.mem_cons_of_mem _ hw))) (hat w hw)
  have hk' : (Cond.classLink own ik cls).before args s' = true := vx_ot_at hW0 hvm.symm (hgood _ List.mem_cons_self) hk
  have hini' : (Cond.initialized cls).before args s' = true := vx_ot_at hW0 hvm.symm (hgood _ (List.mem_cons_of_mem _ List.mem_cons_self)) hini
  have hU' : vx_Zq Bundle.tN "UNASSIGNED_STACK" Bundle.steD A s' s'.heap := by rw [hhp]; exact vx_Zq.moved hW0.alike (hU.kept hS.2.1)
  have hN' : vx_Zq Bundle.tN "SUPPRESSED_SENTINEL" Bundle.listD A s' s'.heap := by rw [hhp]; exact vx_Zq.moved hW0.alike (hN.kept hS.2.1)
  have h : ∀ w ∈ Bundle.ownAtoms own ic cls names, w.before args s' = true := vx_own hat' (vx_isRefq hU'.1) (vx_isRefq hN'.1) hU'.2.word hN'.2.word
  have hown' : s'.vm.findClass own = some m.cls := by rw [hvm]; exact hown
  have hins : (Cond.instantiable cls 6).before args s' = true := h _ (by simp [Bundle.ownAtoms])
  obtain ⟨vm₁, cX, kX, hfX, hkX, -, -, X₁, st1⟩ := Y.newCold hexec (own := own) (C := cls) (index := ik) (n := 6) hown' hk' hins hini'
    (g := F0 m pc ls rest) rfl (by rw [hb]; exact d0) (Nat.le_refl _) (Nat.le_refl _)
  generalize hT1 : (T.setVm vm₁).pushCell { cls := cX, slots := kX.instanceTypes.map defaultValue, vm := .none } = T1 at X₁ st1
  have hcat : (Value.ref T.heap.size).category = 1 := rfl
  have hcellA : T1.heap[T.heap.size]? = some (freshCell cX kX) := by rw [← hT1]; exact State.heap_pushCell_size _ _
  have d3' : decode c.code (pc + 3) = .ok (.dup, 1) := by rw [hb]; exact d3
  have d4' : decode c.code (pc + 4) = .ok (.ldc is, 2) := by rw [hb]; exact d4
  have hstr' : vk_R own is text sa s' := vk_R.warm hW0 hstr
  obtain ⟨U, hsteps, hrun, hend, hW, hsame, ce, hce, hO⟩ := X₁.ctorThrowS hexec htr (own := own) (cls := cls) (names := names) (ic := ic) hown' hcls hnames h (fun x hx => nomatch hx) hfX hkX hcellA (by rw [hhp, hT]; exact Nat.le_refl _) (msg := .ref sa) rfl
    (g := { method := m, pc := pc + 6, locals := ls, stack := .ref sa :: .ref T.heap.size :: .ref T.heap.size :: rest, locked := none }) rfl hsize rfl rfl (rest := rest) rfl
    (by rw [hb]; exact d6) (by rw [hb]; exact d9) hout hRframes (by simp only [List.map_cons, List.sum_cons, hcat]; omega) hlocks
  obtain ⟨f1, f2⟩ := vx_frame hsame
  rw [hhp] at f1 f2
  have hWs : s.WarmedH U.vm := State.WarmedH.trans hW0 hW
  have hcl : s.vm.findClass cls = some ce.cls := by
    have h9 := hO.cls
    rw [hvm] at h9
    exact h9
  have hall : s.sameButNew ({ U with vm := s.vm } : State) locs mc ms := by
    subst hA
    obtain ⟨e1, e2⟩ := hsame
    rw [State.setFrames_setFrames] at e1
    have h2 : (T.setVm s.vm).sameButNew ({ U with vm := s.vm } : State) [] (0 + 1) (0 + 6) := ⟨e1, e2⟩
    have h3 := X.same.trans h2
    rw [List.append_nil] at h3
    exact h3.mono hc hs
  refine ⟨U, ?_, .threw T.heap.size, hrun, hend, Or.inr ⟨T.heap.size, rfl, cls, ce, locs, hx U hWs.alike f1 (fun q hq => f2 q hq (fun z hz => nomatch hz)), hce, hO.vm, hcl, hWs, hall, hf⟩⟩
  refine st1 _ ?_
  show Steps p.tables e below (T1.setTop { method := m, pc := pc + 3, locals := ls, stack := .ref T.heap.size :: rest, locked := none }) _
  jvm_step X₁.here [X₁.here.top, hexec, d3', Value.category]
  exact X₁.ldcString hexec (own := own) (text := text) (index := is) (a := sa) hown' hstr'.1 hstr'.2
    (g := { method := m, pc := pc + 4, locals := ls, stack := .ref T.heap.size :: .ref T.heap.size :: rest, locked := none }) rfl d4' _ hsteps
/-- 'throw new E("text")', the text by a wide index -/
theorem vx_throwSW {cc : ByteArray} {pc : Nat} (hexec : p.tables.exec = Jvm.exec) (hb : c.code = cc) (hl : l.stackTraces = false) {own cls text : String} {names : List String} {ik is ic mc ms sa : Nat} {A : Nat → Prop}
    (hown : s.vm.findClass own = some m.cls) (hcls : Bundle.fit cls = true) (hnames : ∀ n ∈ names, Bundle.fit n = true)
    (hk : (Cond.classLink own ik cls).before args s = true) (hini : (Cond.initialized cls).before args s = true) (hstr : vk_R own is text sa s) (hat : ∀ w ∈ vx_atS own ic cls names, w.before args s = true)
    (hgood : ∀ w ∈ Cond.classLink own ik cls :: Cond.initialized cls :: vx_atS own ic cls names, vx_ot w = true)
    (hU : vx_Zq Bundle.tN "UNASSIGNED_STACK" Bundle.steD A s s.heap) (hN : vx_Zq Bundle.tN "SUPPRESSED_SENTINEL" Bundle.listD A s s.heap) (hS : va_S A s.heap H locs) (hsize : ls.size = c.maxLocals)
    (d0 : decode cc pc = .ok (.new ik, 3)) (d3 : decode cc (pc + 3) = .ok (.dup, 1)) (d4 : decode cc (pc + 4) = .ok (.ldc_w is, 3)) (d7 : decode cc (pc + 7) = .ok (.invokespecial ic, 3)) (d10 : decode cc (pc + 10) = .ok (.athrow, 1))
    (hout : ∀ x ∈ c.exceptionTable.toList, covers x (pc + 10) = false)
    (hRframes : names.length + 3 < R.frames) (hRlocals : (rest.map fun v => v.category).sum + (13 * (names.length + 1) + 43) ≤ R.locals) (hRcells : cells + 1 ≤ R.cells) (hRslots : slots + 6 ≤ R.slots) (hlocks : meth.locks = false)
    (hx : ∀ t : State, s.vm.Alike t.vm → H.size ≤ t.heap.size → (∀ q : Nat, q < H.size → t.heap[q]? = H[q]?) → XC cls s t)
    (hf : ∀ z ∈ locs, free z.base) (hc : cells + 1 ≤ mc) (hs : slots + 6 ≤ ms) :
    W p l e R s m args below meth c H locs cells slots (vx_MQ below Qc XC args s mc ms free) (F0 m pc ls rest) := by
  intro T hT X
  have htr : e.platform.stackTraces = false := (show e.platform.stackTraces = l.stackTraces by rw [X.admits.platform]).trans hl
  have Y := vx_rebase X (R' := { frames := R.frames, locals := R.locals, cells := 1, slots := 6 }) (Nat.le_refl _) (Nat.le_refl _) hRcells hRslots
  obtain ⟨s', hA⟩ : ∃ z, z = (T.setVm s.vm).setFrames (.invoking m args :: below) := ⟨_, rfl⟩
  rw [← hA] at Y
  have hvm : s'.vm = s.vm := by rw [hA]; rfl
  have hhp : s'.heap = H := by rw [hA]; exact hT
  have hW0 : s.WarmedH s'.vm := by rw [hvm]; exact State.WarmedH.refl s
  have hat' : ∀ w ∈ vx_atS own ic cls names, w.before args s' = true := fun w hw => vx_ot_at hW0 hvm.symm (hgood w (List.mem_cons_of_mem _ (List.mem_cons_of_mem _ hw))) (hat w hw)
  have hk' : (Cond.classLink own ik cls).before args s' = true := vx_ot_at hW0 hvm.symm (hgood _ List.mem_cons_self) hk
  have hini' : (Cond.initialized cls).before args s' = true := vx_ot_at hW0 hvm.symm (hgood _ (List.mem_cons_of_mem _ List.mem_cons_self)) hini
  have hU' : vx_Zq Bundle.tN "UNASSIGNED_STACK" Bundle.steD A s' s'.heap := by rw [hhp]; exact vx_Zq.moved hW0.alike (hU.kept hS.2.1)
  have hN' : vx_Zq Bundle.tN "SUPPRESSED_SENTINEL" Bundle.listD A s' s'.heap := by rw [hhp]; exact vx_Zq.moved hW0.alike (hN.kept hS.2.1)
  have h : ∀ w ∈ Bundle.ownAtoms own ic cls names, w.before args s' = true := vx_own hat' (vx_isRefq hU'.1) (vx_isRefq hN'.1) hU'.2.word hN'.2.word
  have hown' : s'.vm.findClass own = some m.cls := by rw [hvm]; exact hown
  have hins : (Cond.instantiable cls 6).before args s' = true := h _ (by simp [Bundle.ownAtoms])
  obtain ⟨vm₁, cX, kX, hfX, hkX, -, -, X₁, st1⟩ := Y.newCold hexec (own := own) (C := cls) (index := ik) (n := 6) hown' hk' hins hini'
    (g := F0 m pc ls rest) rfl (by rw [hb]; exact d0) (Nat.le_refl _) (Nat.le_refl _)
  generalize hT1 : (T.setVm vm₁).pushCell { cls := cX, slots := kX.instanceTypes.map defaultValue, vm := .none } = T1 at X₁ st1
  have hcat : (Value.ref T.heap.size).category = 1 := rfl
  have hcellA : T1.heap[T.heap.size]? = some (freshCell cX kX) := by rw [← hT1]; exact State.heap_pushCell_size _ _
  have d3' : decode c.code (pc + 3) = .ok (.dup, 1) := by rw [hb]; exact d3
  have d4' : decode c.code (pc + 4) = .ok (.ldc_w is, 3) := by rw [hb]; exact d4
  have hstr' : vk_R own is text sa s' := vk_R.warm hW0 hstr
  obtain ⟨U, hsteps, hrun, hend, hW, hsame, ce, hce, hO⟩ := X₁.ctorThrowS hexec htr (own := own) (cls := cls) (names := names) (ic := ic) hown' hcls hnames h (fun x hx => nomatch hx) hfX hkX hcellA (by rw [hhp, hT]; exact Nat.le_refl _) (msg := .ref sa) rfl
    (g := { method := m, pc := pc + 7, locals := ls, stack := .ref sa :: .ref T.heap.size :: .ref T.heap.size :: rest, locked := none }) rfl hsize rfl rfl (rest := rest) rfl
    (by rw [hb]; exact d7) (by rw [hb]; exact d10) hout hRframes (by simp only [List.map_cons, List.sum_cons, hcat]; omega) hlocks
  obtain ⟨f1, f2⟩ := vx_frame hsame
  rw [hhp] at f1 f2
  have hWs : s.WarmedH U.vm := State.WarmedH.trans hW0 hW
  have hcl : s.vm.findClass cls = some ce.cls := by
    have h9 := hO.cls
    rw [hvm] at h9
    exact h9
  have hall : s.sameButNew ({ U with vm := s.vm } : State) locs mc ms := by
    subst hA
    obtain ⟨e1, e2⟩ := hsame
    rw [State.setFrames_setFrames] at e1
    have h2 : (T.setVm s.vm).sameButNew ({ U with vm := s.vm } : State) [] (0 + 1) (0 + 6) := ⟨e1, e2⟩
    have h3 := X.same.trans h2
    rw [List.append_nil] at h3
    exact h3.mono hc hs
  refine ⟨U, ?_, .threw T.heap.size, hrun, hend, Or.inr ⟨T.heap.size, rfl, cls, ce, locs, hx U hWs.alike f1 (fun q hq => f2 q hq (fun z hz => nomatch hz)), hce, hO.vm, hcl, hWs, hall, hf⟩⟩
  refine st1 _ ?_
  show Steps p.tables e below (T1.setTop { method := m, pc := pc + 3, locals := ls, stack := .ref T.heap.size :: rest, locked := none }) _
  jvm_step X₁.here [X₁.here.top, hexec, d3', Value.category]
  exact X₁.ldcStringW hexec (own := own) (text := text) (index := is) (a := sa) hown' hstr'.1 hstr'.2
    (g := { method := m, pc := pc + 4, locals := ls, stack := .ref T.heap.size :: .ref T.heap.size :: rest, locked := none }) rfl d4' _ hsteps
end Ends
section Bodies
variable {l : Launch}
theorem vx_ofW {y : MethodName} {ws ws' : List Cond} {rm : Room} {Pc : Array Value → State → Prop} {Qc : Array Value → State → Outcome → State → Prop} {XC : String → State → State → Prop} {mc ms : Nat} {free : Addr → Prop} {cc : ByteArray} {maxL : Nat} {ret : Option FieldType}
    (hy : plainName y.cls = true) (hw : ws = Cond.code y cc maxL ret :: ws')
    (body : ∀ p e s m args below meth c s₁, BodyLoose p l y (headSpec ws rm) cc maxL ret e s m args below meth c s₁ → c.maxLocals = maxL → (∀ x ∈ c.exceptionTable.toList, False) → Pc args s →
      W p l e (headSpec ws rm).room s m args below meth c s.heap [] 0 0 (vx_MQ below Qc XC args s mc ms free) (entryFrame m args maxL)) : vx_Met l y ws rm Pc Qc XC mc ms free := by
  refine MetFree.of_bodyS (code := cc) (maxLocals := maxL) (ret := ret) hy ?_ ?_
  · intro args s m h hn
    obtain ⟨meth, c, h1, h2, h3, h4, h5, h6, -, -⟩ := Cond.code_spec hn (atoms_spec (ws := ws) h _ (by rw [hw]; exact List.mem_cons_self))
    exact ⟨meth, c, h1, h2, h3, h4, h5, h6⟩
  · intro p e s m args below meth c s₁ B hml hP _
    have hh0 : s₁.heap = s.heap := by rw [B.state]; rfl
    have ht : ∀ x ∈ c.exceptionTable.toList, False := by
      obtain ⟨meth9, c9, h1, h2, -, -, -, -, h7, -⟩ := Cond.code_spec B.named (atoms_spec (ws := ws) B.pre _ (by rw [hw]; exact List.mem_cons_self))
      cases Option.some.inj (h1.symm.trans B.method)
      cases Option.some.inj (h2.symm.trans (Stand.of_body B).code)
      intro x hx
      rw [Array.isEmpty_iff.mp h7] at hx
      cases hx
    obtain ⟨t, a1, o, b1, b2, b3⟩ := body p e s m args below meth c s₁ B hml ht hP s₁ hh0 (Stand.of_body B)
    exact ⟨t, o, a1, b1, b2, b3⟩
/-- the table of a body with handlers -/
theorem vx_table {p : Program} {x y : MethodName} {S : Spec} {cc bytes : ByteArray} {maxL maxL' : Nat} {ret ret' : Option FieldType} {e : Env} {s s₁ : State} {m : MethodId} {args : Array Value} {below : List Frame} {meth : Method} {c : Code} {hh : List (Nat × Nat × Nat × Nat)}
    (B : BodyLoose p l y S cc maxL ret e s m args below meth c s₁) (h : (Cond.codeWith y bytes maxL' ret' hh).before args s = true) : c.exceptionTable.toList = tableOf hh := by
  obtain ⟨m9, meth9, c9, hn9, h1, h2, -, -, h6, -⟩ := Cond.codeWith_spec h
  cases Option.some.inj (hn9.symm.trans B.named)
  cases Option.some.inj (h1.symm.trans B.method)
  cases Option.some.inj (h2.symm.trans (Stand.of_body B).code)
  rw [← h6, table_eq]
end Bodies
end VXA
/-! ===== END ===== -/
/-! ===== BEGIN a static call of a method with an exception table ===== -/
section VXS
variable {p : Program} {l : Launch} {e : Env} {R : Room} {s : State} {m : MethodId} {args : Array Value} {below : List Frame} {meth : Method} {c : Code} {T : State} {H : Heap} {locs : List Loc} {cells slots : Nat}
abbrev vx_CSW (R : Room) (s : State) (args : Array Value) (own : String) (index : Nat) (y : MethodName) (bytes : ByteArray) (maxL : Nat) (ret : Option FieldType) (hh : List (Nat × Nat × Nat × Nat)) (ws : List Cond) (rm : Room) (mc ms n : Nat) : Prop :=
  (rm.cells = mc ∧ rm.slots = ms ∧ rm.frames + 1 ≤ R.frames ∧ 8 + (maxL + 11) + rm.locals ≤ R.locals ∧ (∀ w ∈ ws, ∀ (a' : Array Value) (U : State), s.WarmedH U.vm → w.before a' U = true) ∧ Cond.codeWith y bytes maxL ret hh ∈ ws) ∧
  (Cond.codeWith y bytes maxL ret hh).before args s = true ∧ (Cond.initialized y.cls).before args s = true ∧ (y.cls ≠ "java/lang/invoke/MethodHandle" ∧ y.cls ≠ "java/lang/invoke/VarHandle") ∧
  (∀ sig, parseMethodDescriptor y.desc = some sig → n = sig.parameters.length) ∧ (Cond.methodLink own index y).before args s = true ∧ (Cond.static y).before args s = true
theorem vx_cwSW {own : String} {index maxL mc ms : Nat} {y : MethodName} {bytes : ByteArray} {ret : Option FieldType} {hh : List (Nat × Nat × Nat × Nat)} {Ts ws ws' : List Cond} {rm : Room} (n : Nat) (ht : ∀ w ∈ Ts, w.before args s = true) (hT : GoodIn Ts (va_wsS own index y ws)) (hw : ws = Cond.codeWith y bytes maxL ret hh :: ws') (hrc : rm.cells = mc) (hrs : rm.slots = ms)
    (hd : y.cls ≠ "java/lang/invoke/MethodHandle" ∧ y.cls ≠ "java/lang/invoke/VarHandle" ∧ (parseMethodDescriptor y.desc).map (fun d => d.parameters.length) = some n) (hR : rm.frames + 1 ≤ R.frames ∧ 8 + (maxL + 11) + rm.locals ≤ R.locals) :
    vx_CSW R s args own index y bytes maxL ret hh ws rm mc ms n := by
  have ok : ∀ w ∈ va_wsS own index y ws, w.before args s = true := fun w h => ht w (hT w h).1
  have hG : GoodIn Ts ws := fun w h => hT w (by unfold va_wsS; exact List.mem_append_right _ h)
  have hc : Cond.codeWith y bytes maxL ret hh ∈ ws := by rw [hw]; exact List.mem_cons_self
  refine ⟨⟨hrc, hrs, hR.1, hR.2, pay_in ht hG, hc⟩, ht _ (hG _ hc).1, ok _ (by simp [va_wsS]), ⟨hd.1, hd.2.1⟩, fun sig h => ?_, ok _ (by simp [va_wsS]), ok _ (by simp [va_wsS])⟩
  have h2 := hd.2.2
  rw [h] at h2
  exact (Option.some.inj h2).symm
theorem vx_callSW (X : Stand p l e R s m args below meth c T locs cells slots) (hexec : p.tables.exec = Jvm.exec) {own : String} {index : Nat} {y : MethodName} {bytes : ByteArray} {maxL : Nat} {ret : Option FieldType} {hh : List (Nat × Nat × Nat × Nat)}
    (hown : s.vm.findClass own = some m.cls) (hlink : (Cond.methodLink own index y).before args s = true) (hstat : (Cond.static y).before args s = true) (hinit : (Cond.initialized y.cls).before args s = true)
    (hcode : (Cond.codeWith y bytes maxL ret hh).before args s = true) (hy : y.cls ≠ "java/lang/invoke/MethodHandle" ∧ y.cls ≠ "java/lang/invoke/VarHandle")
    {W9 : Nat} {Pre : Pt → Array Value → Prop} {Post : Pt → Array Value → Option Value → Pt → Prop} (hK : Back l R p e below s args y 3 W9 Pre Post)
    {g : JFrame} (hg : g.method = m) (hsize : g.locals.size = c.maxLocals) {argsL rest : List Value} (hlen : ∀ sig, parseMethodDescriptor y.desc = some sig → argsL.length = sig.parameters.length)
    (hstack : g.stack = argsL.reverse ++ rest) (hW : 2 * g.monitorRoom + (rest.map fun v => v.category).sum ≤ W9) (hdg : decode c.code g.pc = .ok (.invokestatic index, 3))
    (hpre : ∀ vm₁, s.WarmedH vm₁ → Pre ⟨T.setVm vm₁, locs, cells, slots⟩ argsL.toArray) :
    ∃ (v : Option Value) (vm₁ : Vm) (B : Pt), s.WarmedH vm₁ ∧ Stand p l e R s m args below meth c B.U B.locs B.cells B.slots ∧ Post ⟨T.setVm vm₁, locs, cells, slots⟩ argsL.toArray v B ∧
      ∀ target, Steps p.tables e below (B.U.setTop { g with pc := g.pc + 3, stack := v.toList ++ rest }) target → Steps p.tables e below (T.setTop g) target := by
  obtain ⟨mk, methM, cM, hnamed, hmethM, -, -, -, -, -, -, hsigM⟩ := Cond.codeWith_spec hcode
  have hstatic : methM.isStatic = true := Cond.static_spec hnamed hmethM hstat
  obtain ⟨kP, hkP, -⟩ := className_of_methodNamed hnamed
  have hinitP : kP.init = .initialized := Cond.initialized_spec (findClass_of_methodNamed hnamed) hkP hinit
  obtain ⟨vm₁, X₁, hstep₁⟩ := X.invokestatic hexec hown hlink hnamed hmethM hstatic hkP hinitP hy (g := g) hg (argsL := argsL) (rest := rest) (hlen _ hsigM) hstack hdg
  obtain ⟨v, B, X', hpost, hsteps⟩ := hK m meth c ⟨T.setVm vm₁, locs, cells, slots⟩ { g with stack := rest } (.invokestatic index) mk argsL.toArray X₁ hg hsize hdg hW (X₁.named hnamed) (hpre vm₁ X₁.warmed)
  exact ⟨v, vm₁, B, X₁.warmed, X', hpost, fun target h => hstep₁ _ fun acts => by rw [doInvoke_state]; exact hsteps.trans h⟩
theorem vx_runSW {y : MethodName} {bytes cc : ByteArray} {maxL nL mc ms n index : Nat} {ret : Option FieldType} {hh : List (Nat × Nat × Nat × Nat)} {ws : List Cond} {rm : Room} {Pc : Array Value → State → Prop} {Qc : Array Value → State → Outcome → State → Prop} {free : Addr → Prop} {Ts : List Cond} {own : String} {As rest : List Value} {g : JFrame}
    (S : CallFix p m c cc nL s args Ts own) (hM : Met l y ws rm Pc Qc mc ms free) (cw : vx_CSW R s args own index y bytes maxL ret hh ws rm mc ms n) (hp : PreS s H Pc As)
    (hg : g.method = m) (hn : As.length = n) (hsize : g.locals.size = nL) (hstack : g.stack = As.reverse ++ rest) (hW : 2 * g.monitorRoom + (rest.map fun v => v.category).sum ≤ 8) (hdg : decode cc g.pc = .ok (.invokestatic index, 3)) (hf : cells + mc ≤ R.cells ∧ slots + ms ≤ R.slots) :
    va_Run p l e R s m args below meth c H locs cells slots mc ms g rest (Qc As.toArray) (free) := by
  obtain ⟨⟨hrc, hrs, hfr, hlo, hws, hcw⟩, hcode, hini, hy, hlen, hl, hstt⟩ := cw
  have hK : Back l R p e below s args y 3 8 (PreOf R mc ms Pc) (PostOf Qc mc ms free) := va_backW (hh := hh) (bytes := bytes) (maxL := maxL) (ret := ret) hM hp.1 hrc hrs hfr hlo hws hcw (fun a' U hW => word_at hW (Or.inl (by first | rfl | simp [Cond.onTables, Cond.keeps, Cond.steady])) hini)
  obtain ⟨hx, hb, hml, ho, -⟩ := S
  intro T hT X
  obtain ⟨v, vm₁, ⟨U', l2, c2, s2⟩, hW₁, X', ⟨g', mk, t, L, e1, e2, hq, h1, hL, h2, h3⟩, st⟩ := vx_callSW X hx (hh := hh) (bytes := bytes) (maxL := maxL) (ret := ret) ho hl hstt hini hcode hy hK hg (hsize.trans hml.symm) (argsL := As) (rest := rest) (fun sig h => hn.trans (hlen sig h)) hstack hW (by rw [hb]; exact hdg)
    (fun vm₁ hW₁ => ⟨hf.1, hf.2, hp.2 (T.setVm vm₁) hT hW₁⟩)
  dsimp only [Pt.U, Pt.locs, Pt.cells, Pt.slots] at X' e1 e2 h1 h2 h3 st
  subst h1; subst h2; subst h3
  exact ⟨v, (T.setVm vm₁).calling g' mk As.toArray, t, U', L, hT, X', hL, e1, e2, hq, st⟩
/-- not caught here, past rows that name other classes: it goes on to the caller -/
theorem vx_outP {p : Program} {l : Launch} {e : Env} {R : Room} {s : State} {m : MethodId} {args : Array Value} {below : List Frame} {meth : Method} {c : Code} {H : Heap} {locs : List Loc} {cells slots : Nat} {free : Addr → Prop} {ls : Array Slot} {rest : List Value} {Qc : Array Value → State → Outcome → State → Prop} {XC : String → State → State → Prop}
    {pc : Nat} {own E : String} {ce : Cell} {q : Addr} {mc ms : Nat} (hown : s.vm.findClass own = some m.cls) (hlocks : meth.locks = false)
    (hpass : ∀ z ∈ c.exceptionTable.toList, covers z pc = false ∨ (z.catchType ≠ 0 ∧ ∃ nm : String, (Cond.classLink own z.catchType nm).before args s = true ∧ va_Nc E nm s)) (hcell : H[q]? = some ce) (hv : ce.vm = .none) (hcl : s.vm.findClass E = some ce.cls)
    (hx : ∀ t : State, t.heap = H → s.vm.Alike t.vm → XC E s t) (hf : ∀ z ∈ locs, free z.base) (hc : cells ≤ mc) (hs : slots ≤ ms) :
    vx_W p l e R s m args below meth c H locs cells slots (vx_MQ below Qc XC args s mc ms free) (F0 m pc ls rest) q := by
  intro T hT X
  have hpl : e.platform.magicAccessors = ({} : Platform).magicAccessors := by rw [X.admits.platform]
  obtain ⟨vm', hW', X', st⟩ := X.outThrough hlocks q (g := F0 m pc ls rest) rfl rfl rfl (cell := ce) (by rw [hT]; exact hcell) (by rw [hv]; rfl)
    (by obtain ⟨k9, h9, -⟩ := Vm.findClass_spec hcl; exact ⟨k9, h9⟩) (fun z hz => by
      rcases hpass z hz with h | ⟨hz0, nm, hl1, hn1⟩
      · exact Or.inl h
      · obtain ⟨c6, hc6, hcl6⟩ := Cond.classLink_spec hown hl1 e.platform hpl
        obtain ⟨a8, b8, h1, h2, h3⟩ := hn1
        cases Option.some.inj (h1.symm.trans hcl)
        cases Option.some.inj (h2.symm.trans hc6)
        exact Or.inr ⟨hz0, _, hcl6, h3⟩)
  obtain ⟨g₀, hfr⟩ := X'.frames_eq
  have hcell9 : ((T.setVm vm').setFrames (.throwing q :: below)).heap[q]? = some ce := by
    show T.heap[q]? = some ce
    rw [hT]; exact hcell
  have hend : Ended ((T.setVm vm').setFrames (.throwing q :: below)) below (.threw q) := State.frames_setFrames _ (State.cur_lt_of_frames hfr)
  refine ⟨(T.setVm vm').setFrames (.throwing q :: below), ?_, .threw q, X'.here.running, hend, Or.inr ⟨q, rfl, E, ce, locs, hx _ hT (X'.ends _).1.alike, hcell9, hv, hcl, (X'.ends _).1, (X'.ends _).2.mono hc hs, hf⟩⟩
  rw [X.pushThrowing_eq]
  exact st
/-- a thing of a world lies in the heap -/
theorem vx_lt {D : va_G} {cl : List vw_C} {ws : va_W} {H1 : Heap} (h : va_P D cl ws H1) {k : Nat} {q : Nat × va_E} (hk : ws[k]? = some q) : q.1 < H1.size := (h k q hk).lt
end VXS
/-! ===== END ===== -/
/-! ===== BEGIN methods with a table of their own: called by a name, returning or throwing ===== -/
section VXH
/-! vx_backW, vx_callVX, vx_callSX, vx_callVW, vx_runVW, vx_runVX, vx_runSX, vx_ofWH follow the same proofs as their sisters above (Free/Laws.lean, Shelf42/LK1.lean); vx_outP calls Shelf42/NT130.lean (outThrough). -/
section
variable {l : Launch} {R : Room} {p : Program} {e : Env} {below : List Frame} {s : State} {sargs : Array Value} {y : MethodName} {len W9 : Nat}
theorem vx_backW {ws : List Cond} {rm : Room} {Pc : Array Value → State → Prop} {Qc : Array Value → State → Outcome → State → Prop} {XC : String → State → State → Prop} {mc ms : Nat} {free : Addr → Prop} {bytes : ByteArray} {maxL : Nat} {ret : Option FieldType} {hh : List (Nat × Nat × Nat × Nat)}
    (hM : vx_Met l y ws rm Pc Qc XC mc ms free) (hblind : FrameBlind Pc) (hrc : rm.cells = mc) (hrs : rm.slots = ms)
    (hframes : rm.frames + 1 ≤ R.frames) (hlocals : W9 + (maxL + 11) + rm.locals ≤ R.locals)
    (hws : ∀ w ∈ ws, ∀ a' U, s.WarmedH U.vm → w.before a' U = true) (hcode : Cond.codeWith y bytes maxL ret hh ∈ ws) (hinit : ∀ a' U, s.WarmedH U.vm → (Cond.initialized y.cls).before a' U = true) :
    vx_Back l R p e below s sargs y len W9 (PreOf R mc ms Pc) (PostOf Qc mc ms free) (vx_Post XC mc ms free) := by
  intro m meth c A g ig mk a X hg hsize hdg hW hn hp
  have h1 : (headSpec ws rm).pre.before a A.U = true := atoms_intro fun w hw => hws w hw _ _ X.warmed
  have h2 : (Cond.codeWith y bytes maxL ret hh).before a A.U = true := hws _ hcode _ _ X.warmed
  have h3 : (Cond.initialized y.cls).before a A.U = true := hinit _ _ X.warmed
  have h4 : A.cells + (headSpec ws rm).room.cells ≤ R.cells := by rw [show (headSpec ws rm).room.cells = mc from hrc]; exact hp.1
  have h5 : A.slots + (headSpec ws rm).room.slots ≤ R.slots := by rw [show (headSpec ws rm).room.slots = ms from hrs]; exact hp.2.1
  have hPc : Pc a (A.U.calling g mk a) := hblind _ _ _ _ hp.2.2
  obtain ⟨U, Ls, c0, s0⟩ := A
  dsimp only [Pt.U, Pt.locs, Pt.cells, Pt.slots] at h1 h2 h3 h4 h5 X hn hPc ⊢
  obtain ⟨m9, methY, cY, hn9, hmY, hcY, -, hlY, -⟩ := Cond.codeWith_spec h2
  cases Option.some.inj (hn9.symm.trans hn)
  obtain ⟨kY, hkY, -⟩ := className_of_methodNamed hn
  have hinitY : kY.init = .initialized := Cond.initialized_spec (findClass_of_methodNamed hn) hkY h3
  have h : At U g.method c below := by rw [hg]; exact X.here
  have hlocals9 : W9 + (maxL + 11) + (headSpec ws rm).room.locals ≤ R.locals := hlocals
  have happ : (headSpec ws rm).appliesLoose y e.platform (U.calling g mk a) = true :=
    Spec.appliesLoose_calling (g := g) h hdg hn hkY hinitY
      (X.room_calling (g := g) (R' := (headSpec ws rm).room) hsize hmY hcY hframes (by rw [hlY]; omega) h4 h5) h1
  obtain ⟨mid, hmid⟩ := h.above
  have hfr : (U.setTop g).frames = (.java g :: mid) ++ below := by rw [State.frames_setTop' g h.top, hmid]; rfl
  obtain ⟨o, s₂, hsteps, -, hend, hq⟩ := Steps.callFree hM p X.admits X.cas X.clock (acts := []) hfr happ hPc trivial
  have hq' : vx_Q Qc XC mc ms free a (U.calling g mk a) o s₂ := hq
  rw [State.frames_setTop' g h.top] at hend
  obtain ⟨g₀, hg0⟩ := Option.isSome_iff_exists.mp h.top
  obtain ⟨r, hr⟩ := State.topJava?_eq_some.mp hg0
  have hr' : (({ U with heap := s₂.heap, slotsUsed := s₂.slotsUsed } : State).setVm s₂.vm).frames = .java g₀ :: r := hr
  rcases hq' with ⟨hqc, L, hfe, hL⟩ | ⟨q, rfl, E, ce, L, hx, hce, hcv, hcl, hW₂, hsm, hL⟩
  · obtain ⟨⟨v, rfl⟩, hW₂, e2, q2, q3, q4, q5, q6⟩ := id hfe
    have e3 : s₂ = ({ (U.calling g mk a).setFrames s₂.frames with heap := s₂.heap, slotsUsed := s₂.slotsUsed } : State).setVm s₂.vm := by
      have : s₂ = ({ s₂ with vm := (U.calling g mk a).vm } : State).setVm s₂.vm := rfl
      rw [e2] at this
      exact this
    obtain ⟨c₂, i₂, len₂, hc₂, hd₂, hf₂⟩ := hend
    have hW' : U.WarmedH s₂.vm := hW₂
    have hcc : c₂ = c := by
      have h1 : s₂.code? g.method = U.code? g.method := by
        rw [State.code?_eq, State.code?_eq, hW'.alike.method?]
      exact Option.some.inj (hc₂.symm.trans (h1.trans h.code))
    subst hcc
    have hlen : len₂ = len := by rw [hdg] at hd₂; cases hd₂; rfl
    subst hlen
    have hs₂ : s₂ = (({ U with heap := s₂.heap, slotsUsed := s₂.slotsUsed } : State).setVm s₂.vm).setTop { g with pc := g.pc + len₂, stack := v.toList ++ g.stack } := by
      refine e3.trans ?_
      rw [hf₂, State.calling_eq h.top, State.setFrames_setFrames, State.setTop_of_frames _ hr', hr]
      rfl
    have hsame : U.sameButNew ({ U with heap := s₂.heap, slotsUsed := s₂.slotsUsed } : State) L mc ms := by
      refine ⟨?_, q2, q3, q4, q5, q6⟩
      obtain ⟨t, ht, -⟩ := State.frames_cons hr
      show ({ U with heap := s₂.heap, slotsUsed := s₂.slotsUsed } : State) = { U.setFrames U.frames with heap := s₂.heap, slotsUsed := s₂.slotsUsed }
      rw [State.setFrames_self ht]
    subst hg
    refine Or.inl ⟨v, ⟨(({ U with heap := s₂.heap, slotsUsed := s₂.slotsUsed } : State).setVm s₂.vm), Ls ++ L, c0 + mc, s0 + ms⟩,
      ⟨X.admits, X.cas, X.clock, X.frames, X.room, X.hears, X.method, X.code, (X.here.setHeapUsed s₂.heap s₂.slotsUsed).setVm hW'.alike, X.tail, State.WarmedH.trans X.warmed hW', X.limits, X.bytes, X.same.trans (hsame.setVm s.vm)⟩,
      ⟨g, mk, s₂, L, rfl, rfl, hqc, rfl, hL, rfl, rfl⟩, ?_⟩
    show Steps p.tables e below _ ((({ U with heap := s₂.heap, slotsUsed := s₂.slotsUsed } : State).setVm s₂.vm).setTop { g with pc := g.pc + len₂, stack := v.toList ++ g.stack })
    rw [← hs₂]
    exact hsteps
  · obtain ⟨e2, q2, q3, q4, q5, q6⟩ := id hsm
    have e3 : s₂ = ({ (U.calling g mk a).setFrames s₂.frames with heap := s₂.heap, slotsUsed := s₂.slotsUsed } : State).setVm s₂.vm := by
      have : s₂ = ({ s₂ with vm := (U.calling g mk a).vm } : State).setVm s₂.vm := rfl
      rw [e2] at this
      exact this
    have hf₂ : s₂.frames = .throwing q :: .java g :: U.frames.tail := hend
    have hW' : U.WarmedH s₂.vm := hW₂
    have hs₂ : s₂ = ((({ U with heap := s₂.heap, slotsUsed := s₂.slotsUsed } : State).setVm s₂.vm).setTop g).pushFrame (.throwing q) := by
      refine e3.trans ?_
      rw [hf₂, State.calling_eq h.top, State.setFrames_setFrames, State.pushFrame, State.frames_setTop _ hr', State.setTop_of_frames _ hr', State.setFrames_setFrames, hr]
      rfl
    have hsame : U.sameButNew ({ U with heap := s₂.heap, slotsUsed := s₂.slotsUsed } : State) L mc ms := by
      refine ⟨?_, q2, q3, q4, q5, q6⟩
      obtain ⟨t, ht, -⟩ := State.frames_cons hr
      show ({ U with heap := s₂.heap, slotsUsed := s₂.slotsUsed } : State) = { U.setFrames U.frames with heap := s₂.heap, slotsUsed := s₂.slotsUsed }
      rw [State.setFrames_self ht]
    subst hg
    refine Or.inr ⟨q, ⟨(({ U with heap := s₂.heap, slotsUsed := s₂.slotsUsed } : State).setVm s₂.vm), Ls ++ L, c0 + mc, s0 + ms⟩,
      ⟨X.admits, X.cas, X.clock, X.frames, X.room, X.hears, X.method, X.code, (X.here.setHeapUsed s₂.heap s₂.slotsUsed).setVm hW'.alike, X.tail, State.WarmedH.trans X.warmed hW', X.limits, X.bytes, X.same.trans (hsame.setVm s.vm)⟩,
      ⟨g, mk, s₂, L, E, ce, rfl, rfl, hx, hce, hcv, hcl, rfl, hL, rfl, rfl⟩, ?_⟩
    show Steps p.tables e below _ (((({ U with heap := s₂.heap, slotsUsed := s₂.slotsUsed } : State).setVm s₂.vm).setTop g).pushFrame (.throwing q))
    rw [← hs₂]
    exact hsteps
end
variable {p : Program} {l : Launch} {e : Env} {R : Room} {s : State} {m : MethodId} {args : Array Value} {below : List Frame} {meth : Method} {c : Code} {T : State} {H : Heap} {locs : List Loc} {cells slots : Nat}
theorem vx_callVX (X : Stand p l e R s m args below meth c T locs cells slots) (hexec : p.tables.exec = Jvm.exec) {own C : String} {index : Nat} {y : MethodName} {bytes : ByteArray} {maxL : Nat} {ret : Option FieldType} {hh : List (Nat × Nat × Nat × Nat)}
    (hown : s.vm.findClass own = some m.cls) (hlink : (Cond.methodLink own index y).before args s = true) (hinst : (Cond.instanceMethod y).before args s = true) (hsel : (Cond.selects C y y).before args s = true)
    (hcode : (Cond.codeWith y bytes maxL ret hh).before args s = true) (hy : y.cls ≠ "java/lang/invoke/MethodHandle" ∧ y.cls ≠ "java/lang/invoke/VarHandle")
    {W9 : Nat} {Pre : Pt → Array Value → Prop} {Post : Pt → Array Value → Option Value → Pt → Prop} {PostX : Pt → Array Value → Addr → Pt → Prop} (hK : vx_Back l R p e below s args y 3 W9 Pre Post PostX)
    {b : Addr} {cellB : Cell} (hcell : T.heap[b]? = some cellB) (hobj : cellB.vm.isStatics = false) (hcls : s.vm.findClass C = some cellB.cls)
    {g : JFrame} (hg : g.method = m) (hsize : g.locals.size = c.maxLocals) {argsL rest : List Value} (hlen : ∀ sig, parseMethodDescriptor y.desc = some sig → argsL.length = sig.parameters.length)
    (hstack : g.stack = argsL.reverse ++ .ref b :: rest) (hW : 2 * g.monitorRoom + (rest.map fun v => v.category).sum ≤ W9) (hdg : decode c.code g.pc = .ok (.invokevirtual index, 3))
    (hpre : ∀ vm₁, s.WarmedH vm₁ → Pre ⟨T.setVm vm₁, locs, cells, slots⟩ (Value.ref b :: argsL).toArray) :
    (∃ (v : Option Value) (vm₁ : Vm) (B : Pt), s.WarmedH vm₁ ∧ Stand p l e R s m args below meth c B.U B.locs B.cells B.slots ∧ Post ⟨T.setVm vm₁, locs, cells, slots⟩ (Value.ref b :: argsL).toArray v B ∧
      ∀ target, Steps p.tables e below (B.U.setTop { g with pc := g.pc + 3, stack := v.toList ++ rest }) target → Steps p.tables e below (T.setTop g) target) ∨
    (∃ (q : Addr) (vm₁ : Vm) (B : Pt), s.WarmedH vm₁ ∧ Stand p l e R s m args below meth c B.U B.locs B.cells B.slots ∧ PostX ⟨T.setVm vm₁, locs, cells, slots⟩ (Value.ref b :: argsL).toArray q B ∧
      Steps p.tables e below (T.setTop g) ((B.U.setTop { g with stack := rest }).pushFrame (.throwing q))) := by
  obtain ⟨mk, methM, hnamed, hmethM, hstM, habM⟩ := Cond.instanceMethod_spec hinst
  obtain ⟨m8, methM', cM, hn8, hmethM', -, -, -, -, -, -, hsigM⟩ := Cond.codeWith_spec hcode
  cases Option.some.inj (hn8.symm.trans hnamed)
  cases hmethM.symm.trans hmethM'
  obtain ⟨c2, r2, m2, q1, q2, q3, q4, kP, hkP, hkPi⟩ := Cond.selects_spec hsel
  cases hcls.symm.trans q1
  cases (State.methodFound?_of_named hnamed hy).symm.trans q2
  cases hnamed.symm.trans q3
  have hselP : selectMethod e.platform s.vm cellB.cls mk = .method mk := by rw [Launch.admits_selectMethod X.admits]; exact q4
  obtain ⟨vm₁, X₁, hstep₁⟩ := X.invokevirtual hexec hown hlink hnamed hmethM hstM hkP hkPi hy (a := b) (cell := cellB) hcell
    (fun z h => by rw [h] at hobj; cases hobj) hselP hmethM habM hkP hkPi (g := g) hg (argsL := argsL) (rest := rest) (hlen _ hsigM) hstack hdg
  rcases hK m meth c ⟨T.setVm vm₁, locs, cells, slots⟩ { g with stack := rest } (.invokevirtual index) mk (Value.ref b :: argsL).toArray X₁ hg hsize hdg hW (X₁.named hnamed) (hpre vm₁ X₁.warmed) with ⟨v, B, X', hpost, hsteps⟩ | ⟨q, B, X', hpost, hsteps⟩
  · exact Or.inl ⟨v, vm₁, B, X₁.warmed, X', hpost, fun target h => hstep₁ _ fun acts => by rw [doInvoke_state]; exact hsteps.trans h⟩
  · exact Or.inr ⟨q, vm₁, B, X₁.warmed, X', hpost, hstep₁ _ fun acts => by rw [doInvoke_state]; exact hsteps⟩
theorem vx_callSX (X : Stand p l e R s m args below meth c T locs cells slots) (hexec : p.tables.exec = Jvm.exec) {own : String} {index : Nat} {y : MethodName} {bytes : ByteArray} {maxL : Nat} {ret : Option FieldType} {hh : List (Nat × Nat × Nat × Nat)}
    (hown : s.vm.findClass own = some m.cls) (hlink : (Cond.methodLink own index y).before args s = true) (hstat : (Cond.static y).before args s = true) (hinit : (Cond.initialized y.cls).before args s = true)
    (hcode : (Cond.codeWith y bytes maxL ret hh).before args s = true) (hy : y.cls ≠ "java/lang/invoke/MethodHandle" ∧ y.cls ≠ "java/lang/invoke/VarHandle")
    {W9 : Nat} {Pre : Pt → Array Value → Prop} {Post : Pt → Array Value → Option Value → Pt → Prop} {PostX : Pt → Array Value → Addr → Pt → Prop} (hK : vx_Back l R p e below s args y 3 W9 Pre Post PostX)
    {g : JFrame} (hg : g.method = m) (hsize : g.locals.size = c.maxLocals) {argsL rest : List Value} (hlen : ∀ sig, parseMethodDescriptor y.desc = some sig → argsL.length = sig.parameters.length)
    (hstack : g.stack = argsL.reverse ++ rest) (hW : 2 * g.monitorRoom + (rest.map fun v => v.category).sum ≤ W9) (hdg : decode c.code g.pc = .ok (.invokestatic index, 3))
    (hpre : ∀ vm₁, s.WarmedH vm₁ → Pre ⟨T.setVm vm₁, locs, cells, slots⟩ argsL.toArray) :
    (∃ (v : Option Value) (vm₁ : Vm) (B : Pt), s.WarmedH vm₁ ∧ Stand p l e R s m args below meth c B.U B.locs B.cells B.slots ∧ Post ⟨T.setVm vm₁, locs, cells, slots⟩ argsL.toArray v B ∧
      ∀ target, Steps p.tables e below (B.U.setTop { g with pc := g.pc + 3, stack := v.toList ++ rest }) target → Steps p.tables e below (T.setTop g) target) ∨
    (∃ (q : Addr) (vm₁ : Vm) (B : Pt), s.WarmedH vm₁ ∧ Stand p l e R s m args below meth c B.U B.locs B.cells B.slots ∧ PostX ⟨T.setVm vm₁, locs, cells, slots⟩ argsL.toArray q B ∧
      Steps p.tables e below (T.setTop g) ((B.U.setTop { g with stack := rest }).pushFrame (.throwing q))) := by
  obtain ⟨mk, methM, cM, hnamed, hmethM, -, -, -, -, -, -, hsigM⟩ := Cond.codeWith_spec hcode
  have hstatic : methM.isStatic = true := Cond.static_spec hnamed hmethM hstat
  obtain ⟨kP, hkP, -⟩ := className_of_methodNamed hnamed
  have hinitP : kP.init = .initialized := Cond.initialized_spec (findClass_of_methodNamed hnamed) hkP hinit
  obtain ⟨vm₁, X₁, hstep₁⟩ := X.invokestatic hexec hown hlink hnamed hmethM hstatic hkP hinitP hy (g := g) hg (argsL := argsL) (rest := rest) (hlen _ hsigM) hstack hdg
  rcases hK m meth c ⟨T.setVm vm₁, locs, cells, slots⟩ { g with stack := rest } (.invokestatic index) mk argsL.toArray X₁ hg hsize hdg hW (X₁.named hnamed) (hpre vm₁ X₁.warmed) with ⟨v, B, X', hpost, hsteps⟩ | ⟨q, B, X', hpost, hsteps⟩
  · exact Or.inl ⟨v, vm₁, B, X₁.warmed, X', hpost, fun target h => hstep₁ _ fun acts => by rw [doInvoke_state]; exact hsteps.trans h⟩
  · exact Or.inr ⟨q, vm₁, B, X₁.warmed, X', hpost, hstep₁ _ fun acts => by rw [doInvoke_state]; exact hsteps⟩
theorem vx_callVW (X : Stand p l e R s m args below meth c T locs cells slots) (hexec : p.tables.exec = Jvm.exec) {own C : String} {index : Nat} {y : MethodName} {bytes : ByteArray} {maxL : Nat} {ret : Option FieldType} {hh : List (Nat × Nat × Nat × Nat)}
    (hown : s.vm.findClass own = some m.cls) (hlink : (Cond.methodLink own index y).before args s = true) (hinst : (Cond.instanceMethod y).before args s = true) (hsel : (Cond.selects C y y).before args s = true)
    (hcode : (Cond.codeWith y bytes maxL ret hh).before args s = true) (hy : y.cls ≠ "java/lang/invoke/MethodHandle" ∧ y.cls ≠ "java/lang/invoke/VarHandle")
    {W9 : Nat} {Pre : Pt → Array Value → Prop} {Post : Pt → Array Value → Option Value → Pt → Prop} (hK : Back l R p e below s args y 3 W9 Pre Post)
    {b : Addr} {cellB : Cell} (hcell : T.heap[b]? = some cellB) (hobj : cellB.vm.isStatics = false) (hcls : s.vm.findClass C = some cellB.cls)
    {g : JFrame} (hg : g.method = m) (hsize : g.locals.size = c.maxLocals) {argsL rest : List Value} (hlen : ∀ sig, parseMethodDescriptor y.desc = some sig → argsL.length = sig.parameters.length)
    (hstack : g.stack = argsL.reverse ++ .ref b :: rest) (hW : 2 * g.monitorRoom + (rest.map fun v => v.category).sum ≤ W9) (hdg : decode c.code g.pc = .ok (.invokevirtual index, 3))
    (hpre : ∀ vm₁, s.WarmedH vm₁ → Pre ⟨T.setVm vm₁, locs, cells, slots⟩ (Value.ref b :: argsL).toArray) :
    ∃ (v : Option Value) (vm₁ : Vm) (B : Pt), s.WarmedH vm₁ ∧ Stand p l e R s m args below meth c B.U B.locs B.cells B.slots ∧ Post ⟨T.setVm vm₁, locs, cells, slots⟩ (Value.ref b :: argsL).toArray v B ∧
      ∀ target, Steps p.tables e below (B.U.setTop { g with pc := g.pc + 3, stack := v.toList ++ rest }) target → Steps p.tables e below (T.setTop g) target := by
  obtain ⟨mk, methM, hnamed, hmethM, hstM, habM⟩ := Cond.instanceMethod_spec hinst
  obtain ⟨m8, methM', cM, hn8, hmethM', -, -, -, -, -, -, hsigM⟩ := Cond.codeWith_spec hcode
  cases Option.some.inj (hn8.symm.trans hnamed)
  cases hmethM.symm.trans hmethM'
  obtain ⟨c2, r2, m2, q1, q2, q3, q4, kP, hkP, hkPi⟩ := Cond.selects_spec hsel
  cases hcls.symm.trans q1
  cases (State.methodFound?_of_named hnamed hy).symm.trans q2
  cases hnamed.symm.trans q3
  have hselP : selectMethod e.platform s.vm cellB.cls mk = .method mk := by rw [Launch.admits_selectMethod X.admits]; exact q4
  obtain ⟨vm₁, X₁, hstep₁⟩ := X.invokevirtual hexec hown hlink hnamed hmethM hstM hkP hkPi hy (a := b) (cell := cellB) hcell
    (fun z h => by rw [h] at hobj; cases hobj) hselP hmethM habM hkP hkPi (g := g) hg (argsL := argsL) (rest := rest) (hlen _ hsigM) hstack hdg
  obtain ⟨v, B, X', hpost, hsteps⟩ := hK m meth c ⟨T.setVm vm₁, locs, cells, slots⟩ { g with stack := rest } (.invokevirtual index) mk (Value.ref b :: argsL).toArray X₁ hg hsize hdg hW (X₁.named hnamed) (hpre vm₁ X₁.warmed)
  exact ⟨v, vm₁, B, X₁.warmed, X', hpost, fun target h => hstep₁ _ fun acts => by rw [doInvoke_state]; exact hsteps.trans h⟩
abbrev vx_CVW (R : Room) (s : State) (args : Array Value) (own C : String) (index : Nat) (y : MethodName) (bytes : ByteArray) (maxL : Nat) (ret : Option FieldType) (hh : List (Nat × Nat × Nat × Nat)) (ws : List Cond) (rm : Room) (mc ms n : Nat) : Prop :=
  (rm.cells = mc ∧ rm.slots = ms ∧ rm.frames + 1 ≤ R.frames ∧ 8 + (maxL + 11) + rm.locals ≤ R.locals ∧ (∀ w ∈ ws, ∀ (a' : Array Value) (U : State), s.WarmedH U.vm → w.before a' U = true) ∧ Cond.codeWith y bytes maxL ret hh ∈ ws) ∧
  (Cond.codeWith y bytes maxL ret hh).before args s = true ∧ (Cond.initialized y.cls).before args s = true ∧ (y.cls ≠ "java/lang/invoke/MethodHandle" ∧ y.cls ≠ "java/lang/invoke/VarHandle") ∧
  (∀ sig, parseMethodDescriptor y.desc = some sig → n = sig.parameters.length) ∧ (Cond.methodLink own index y).before args s = true ∧ (Cond.instanceMethod y).before args s = true ∧ (Cond.selects C y y).before args s = true
theorem vx_cwVW {own C : String} {index maxL mc ms : Nat} {y : MethodName} {bytes : ByteArray} {ret : Option FieldType} {hh : List (Nat × Nat × Nat × Nat)} {Ts ws ws' : List Cond} {rm : Room} (n : Nat) (ht : ∀ w ∈ Ts, w.before args s = true) (hT : GoodIn Ts (wsV own index C y ws)) (hw : ws = Cond.codeWith y bytes maxL ret hh :: ws') (hrc : rm.cells = mc) (hrs : rm.slots = ms)
    (hd : y.cls = C ∧ y.cls ≠ "java/lang/invoke/MethodHandle" ∧ y.cls ≠ "java/lang/invoke/VarHandle" ∧ (parseMethodDescriptor y.desc).map (fun d => d.parameters.length) = some n) (hR : rm.frames + 1 ≤ R.frames ∧ 8 + (maxL + 11) + rm.locals ≤ R.locals) :
    vx_CVW R s args own C index y bytes maxL ret hh ws rm mc ms n := by
  obtain ⟨hC, hd⟩ := hd
  subst hC
  have ok : ∀ w ∈ wsV own index y.cls y ws, w.before args s = true := fun w h => ht w (hT w h).1
  have hG : GoodIn Ts ws := fun w h => hT w (by unfold wsV; exact List.mem_append_right _ h)
  have hc : Cond.codeWith y bytes maxL ret hh ∈ ws := by rw [hw]; exact List.mem_cons_self
  refine ⟨⟨hrc, hrs, hR.1, hR.2, pay_in ht hG, hc⟩, ht _ (hG _ hc).1, ok _ (by simp [wsV]), ⟨hd.1, hd.2.1⟩, fun sig h => ?_, ok _ (by simp [wsV]), ok _ (by simp [wsV]), ok _ (by simp [wsV])⟩
  have h2 := hd.2.2
  rw [h] at h2
  exact (Option.some.inj h2).symm
theorem vx_runVW {y : MethodName} {bytes cc : ByteArray} {maxL nL mc ms n index : Nat} {ret : Option FieldType} {hh : List (Nat × Nat × Nat × Nat)} {ws : List Cond} {rm : Room} {Pc : Array Value → State → Prop} {Qc : Array Value → State → Outcome → State → Prop} {free : Addr → Prop} {Ts : List Cond} {own C : String} {b : Addr} {As rest : List Value} {g : JFrame}
    (S : CallFix p m c cc nL s args Ts own) (hM : Met l y ws rm Pc Qc mc ms free) (cw : vx_CVW R s args own C index y bytes maxL ret hh ws rm mc ms n) (hp : PreV s H C b Pc As)
    (hg : g.method = m) (hn : As.length = n) (hsize : g.locals.size = nL) (hstack : g.stack = As.reverse ++ .ref b :: rest) (hW : 2 * g.monitorRoom + (rest.map fun v => v.category).sum ≤ 8) (hdg : decode cc g.pc = .ok (.invokevirtual index, 3)) (hf : cells + mc ≤ R.cells ∧ slots + ms ≤ R.slots) :
    va_Run p l e R s m args below meth c H locs cells slots mc ms g rest (Qc (Value.ref b :: As).toArray) free := by
  obtain ⟨⟨hrc, hrs, hfr, hlo, hws, hcw⟩, hcode, hini, hy, hlen, hl, hin, hse⟩ := cw
  have hK : Back l R p e below s args y 3 8 (PreOf R mc ms Pc) (PostOf Qc mc ms free) := va_backW (hh := hh) (bytes := bytes) (maxL := maxL) (ret := ret) hM hp.1 hrc hrs hfr hlo hws hcw (fun a' U hW => word_at hW (Or.inl (by first | rfl | simp [Cond.onTables, Cond.keeps, Cond.steady])) hini)
  obtain ⟨hx, hb, hml, ho, -⟩ := S
  obtain ⟨-, ⟨cellB, hcB, hoB, hclB⟩, hPc⟩ := hp
  intro T hT X
  obtain ⟨v, vm₁, ⟨U', l2, c2, s2⟩, hW₁, X', ⟨g', mk, t, L, e1, e2, hq, h1, hL, h2, h3⟩, st⟩ := vx_callVW X hx (C := C) (hh := hh) (bytes := bytes) (maxL := maxL) (ret := ret) ho hl hin hse hcode hy hK (by rw [hT]; exact hcB) hoB hclB hg (hsize.trans hml.symm) (argsL := As) (rest := rest) (fun sig h => hn.trans (hlen sig h)) hstack hW (by rw [hb]; exact hdg)
    (fun vm₁ hW₁ => ⟨hf.1, hf.2, hPc (T.setVm vm₁) hT hW₁⟩)
  dsimp only [Pt.U, Pt.locs, Pt.cells, Pt.slots] at X' e1 e2 h1 h2 h3 st
  subst h1; subst h2; subst h3
  exact ⟨v, (T.setVm vm₁).calling g' mk (Value.ref b :: As).toArray, t, U', L, hT, X', hL, e1, e2, hq, st⟩
section
variable {y : MethodName} {bytes cc : ByteArray} {maxL nL mc ms n index : Nat} {ret : Option FieldType} {ws : List Cond} {rm : Room} {Pc : Array Value → State → Prop} {Qc : Array Value → State → Outcome → State → Prop} {XC : String → State → State → Prop} {free : Addr → Prop} {Ts : List Cond} {own C : String} {b : Addr} {As rest : List Value} {g : JFrame}
theorem vx_runVX {hh : List (Nat × Nat × Nat × Nat)} (S : CallFix p m c cc nL s args Ts own) (hM : vx_Met l y ws rm Pc Qc XC mc ms free) (cw : vx_CVW R s args own C index y bytes maxL ret hh ws rm mc ms n) (hp : PreV s H C b Pc As)
    (hg : g.method = m) (hn : As.length = n) (hsize : g.locals.size = nL) (hstack : g.stack = As.reverse ++ .ref b :: rest) (hW : 2 * g.monitorRoom + (rest.map fun v => v.category).sum ≤ 8) (hdg : decode cc g.pc = .ok (.invokevirtual index, 3)) (hf : cells + mc ≤ R.cells ∧ slots + ms ≤ R.slots) :
    vx_Run p l e R s m args below meth c H locs cells slots mc ms g rest (Qc (Value.ref b :: As).toArray) XC free := by
  obtain ⟨⟨hrc, hrs, hfr, hlo, hws, hcw⟩, hcode, hini, hy, hlen, hl, hin, hse⟩ := cw
  have hK : vx_Back l R p e below s args y 3 8 (PreOf R mc ms Pc) (PostOf Qc mc ms free) (vx_Post XC mc ms free) := vx_backW (hh := hh) (bytes := bytes) (maxL := maxL) (ret := ret) hM hp.1 hrc hrs hfr hlo hws hcw (fun a' U hW => word_at hW (Or.inl (by first | rfl | simp [Cond.onTables, Cond.keeps, Cond.steady])) hini)
  obtain ⟨hx, hb, hml, ho, -⟩ := S
  obtain ⟨-, ⟨cellB, hcB, hoB, hclB⟩, hPc⟩ := hp
  intro T hT X
  rcases vx_callVX X hx (C := C) (hh := hh) (bytes := bytes) (maxL := maxL) (ret := ret) ho hl hin hse hcode hy hK (by rw [hT]; exact hcB) hoB hclB hg (hsize.trans hml.symm) (argsL := As) (rest := rest) (fun sig h => hn.trans (hlen sig h)) hstack hW (by rw [hb]; exact hdg)
    (fun vm₁ hW₁ => ⟨hf.1, hf.2, hPc (T.setVm vm₁) hT hW₁⟩) with ⟨v, vm₁, ⟨U', l2, c2, s2⟩, hW₁, X', ⟨g', mk, t, L, e1, e2, hq, h1, hL, h2, h3⟩, st⟩ | ⟨q, vm₁, ⟨U', l2, c2, s2⟩, hW₁, X', ⟨g', mk, t, L, E, ce, e1, e2, hq, hce, hcv, hcl, h1, hL, h2, h3⟩, st⟩
  · dsimp only [Pt.U, Pt.locs, Pt.cells, Pt.slots] at X' e1 e2 h1 h2 h3 st
    subst h1; subst h2; subst h3
    exact Or.inl ⟨v, (T.setVm vm₁).calling g' mk (Value.ref b :: As).toArray, t, U', L, hT, X', hL, e1, e2, hq, st⟩
  · dsimp only [Pt.U, Pt.locs, Pt.cells, Pt.slots] at X' e1 e2 h1 h2 h3 st hcl
    subst h1; subst h2; subst h3
    exact Or.inr ⟨q, (T.setVm vm₁).calling g' mk (Value.ref b :: As).toArray, t, U', L, E, ce, hT, X', hL, e1, e2, hq, hce, hcv, vx_cls hW₁ hcl, st⟩
theorem vx_runSX {hh : List (Nat × Nat × Nat × Nat)} (S : CallFix p m c cc nL s args Ts own) (hM : vx_Met l y ws rm Pc Qc XC mc ms free) (cw : vx_CSW R s args own index y bytes maxL ret hh ws rm mc ms n) (hp : PreS s H Pc As)
    (hg : g.method = m) (hn : As.length = n) (hsize : g.locals.size = nL) (hstack : g.stack = As.reverse ++ rest) (hW : 2 * g.monitorRoom + (rest.map fun v => v.category).sum ≤ 8) (hdg : decode cc g.pc = .ok (.invokestatic index, 3)) (hf : cells + mc ≤ R.cells ∧ slots + ms ≤ R.slots) :
    vx_Run p l e R s m args below meth c H locs cells slots mc ms g rest (Qc As.toArray) XC free := by
  obtain ⟨⟨hrc, hrs, hfr, hlo, hws, hcw⟩, hcode, hini, hy, hlen, hl, hstt⟩ := cw
  have hK : vx_Back l R p e below s args y 3 8 (PreOf R mc ms Pc) (PostOf Qc mc ms free) (vx_Post XC mc ms free) := vx_backW (hh := hh) (bytes := bytes) (maxL := maxL) (ret := ret) hM hp.1 hrc hrs hfr hlo hws hcw (fun a' U hW => word_at hW (Or.inl (by first | rfl | simp [Cond.onTables, Cond.keeps, Cond.steady])) hini)
  obtain ⟨hx, hb, hml, ho, -⟩ := S
  intro T hT X
  rcases vx_callSX X hx (hh := hh) (bytes := bytes) (maxL := maxL) (ret := ret) ho hl hstt hini hcode hy hK hg (hsize.trans hml.symm) (argsL := As) (rest := rest) (fun sig h => hn.trans (hlen sig h)) hstack hW (by rw [hb]; exact hdg)
    (fun vm₁ hW₁ => ⟨hf.1, hf.2, hp.2 (T.setVm vm₁) hT hW₁⟩) with ⟨v, vm₁, ⟨U', l2, c2, s2⟩, hW₁, X', ⟨g', mk, t, L, e1, e2, hq, h1, hL, h2, h3⟩, st⟩ | ⟨q, vm₁, ⟨U', l2, c2, s2⟩, hW₁, X', ⟨g', mk, t, L, E, ce, e1, e2, hq, hce, hcv, hcl, h1, hL, h2, h3⟩, st⟩
  · dsimp only [Pt.U, Pt.locs, Pt.cells, Pt.slots] at X' e1 e2 h1 h2 h3 st
    subst h1; subst h2; subst h3
    exact Or.inl ⟨v, (T.setVm vm₁).calling g' mk As.toArray, t, U', L, hT, X', hL, e1, e2, hq, st⟩
  · dsimp only [Pt.U, Pt.locs, Pt.cells, Pt.slots] at X' e1 e2 h1 h2 h3 st hcl
    subst h1; subst h2; subst h3
    exact Or.inr ⟨q, (T.setVm vm₁).calling g' mk As.toArray, t, U', L, E, ce, hT, X', hL, e1, e2, hq, hce, hcv, vx_cls hW₁ hcl, st⟩
end
end VXH
theorem vx_ofWH {l : Launch} {y : MethodName} {ws ws' : List Cond} {rm : Room} {Pc : Array Value → State → Prop} {Qc : Array Value → State → Outcome → State → Prop} {XC : String → State → State → Prop} {mc ms : Nat} {free : Addr → Prop} {cc : ByteArray} {maxL : Nat} {ret : Option FieldType} {hh : List (Nat × Nat × Nat × Nat)}
    (hy : plainName y.cls = true) (hw : ws = Cond.codeWith y cc maxL ret hh :: ws')
    (body : ∀ p e s m args below meth c s₁, BodyLoose p l y (headSpec ws rm) cc maxL ret e s m args below meth c s₁ → c.maxLocals = maxL → Pc args s →
      W p l e (headSpec ws rm).room s m args below meth c s.heap [] 0 0 (vx_MQ below Qc XC args s mc ms free) (entryFrame m args maxL)) : vx_Met l y ws rm Pc Qc XC mc ms free := by
  refine MetFree.of_bodyS (code := cc) (maxLocals := maxL) (ret := ret) hy ?_ ?_
  · intro args s m h hn
    obtain ⟨m9, meth, c, hn9, h1, h2, h3, h4, -, h5, h6, -⟩ := Cond.codeWith_spec (atoms_spec (ws := ws) h _ (by rw [hw]; exact List.mem_cons_self))
    cases hn.symm.trans hn9
    exact ⟨meth, c, h1, h2, h3, h4, h5, h6⟩
  · intro p e s m args below meth c s₁ B hml hP _
    have hh0 : s₁.heap = s.heap := by rw [B.state]; rfl
    obtain ⟨t, a1, o, b1, b2, b3⟩ := body p e s m args below meth c s₁ B hml hP s₁ hh0 (Stand.of_body B)
    exact ⟨t, o, a1, b1, b2, b3⟩
/-! ===== END ===== -/

/-! ===== BEGIN what the machine throws by itself, no traces kept ===== -/
section VXM
set_option maxHeartbeats 1000000 in
/-- the machine throws cls with the message text, no traces kept: from its note over the frame g to 'throwing' over the same frame (follows the proofs of Stand.vmThrowsMessage, Shelf/KitTracedVmS.lean, and Stand.throwsMessageColdBareV, StandMessageColdV.lean, without the step out of the frame) -/
theorem vx_vmAt {p : Program} {l : Launch} {e : Env} {R : Room} {s : State} {m₀ : MethodId} {args : Array Value} {below : List Frame} {meth : Method} {c : Code} {W : State} {locs : List Loc} {cells slots : Nat}
    (X : Stand p l e R s m₀ args below meth c W locs cells slots) (hexec : p.tables.exec = Jvm.exec) (htr : e.platform.stackTraces = false) {cls : String} {names : List String} {text : String}
    (hcls : Bundle.fit cls = true) (hnames : ∀ n ∈ names, Bundle.fit n = true) (hsoe : (cls == "java/lang/StackOverflowError") = false) (hoom : (cls == "java/lang/OutOfMemoryError") = false)
    (h : ∀ a ∈ Bundle.messageArmAtoms cls names, a.before args s = true)
    (hlocs : ∀ x ∈ locs, ∀ cell, s.heap[x.base]? = some cell → cell.vm.isStatics = false)
    (htext : (text == notModelled) = false) (hlimit : ¬ (stringBytes (stringToUtf16 text)).size > e.platform.arrayLengthLimit) (hheap : ¬ (stringBytes (stringToUtf16 text)).size * componentBytes .byte > e.platform.maxHeapBytes)
    {g : JFrame} (hg : g.method = m₀) (hsize : g.locals.size = c.maxLocals)
    (hRframes : names.length + 4 < R.frames) (hRlocals : 2 * g.monitorRoom + (g.stack.map fun v => v.category).sum + 10240 ≤ R.locals) (hshort : 13 * names.length + 55 ≤ 10240)
    (hRcells : cells + 3 ≤ R.cells) (hRslots : slots + ((stringBytes (stringToUtf16 text)).size + 4 + 6) ≤ R.slots) (hlocks : meth.locks = false) :
    ∃ (S : State) (q : Addr) (ce : Cell), (∀ target, Steps p.tables e below ((S.setTop g).pushFrame (.throwing q)) target → Steps p.tables e below ((W.setTop g).pushFrame (.throwNew cls (some text) none)) target) ∧
      Stand p l e R s m₀ args below meth c S locs (cells + 3) (slots + ((stringBytes (stringToUtf16 text)).size + 4 + 6)) ∧ S.heap[q]? = some ce ∧ s.vm.findClass cls = some ce.cls ∧ ce.vm = .none := by
  have howns : e.platform.frameOwnsMonitors = true := by rw [X.admits.platform]
  have hfin : e.platform.finalization = false := by rw [X.admits.platform]
  have hpl : e.platform.magicAccessors = ({} : Platform).magicAccessors := by rw [X.admits.platform]
  have a : ∀ x, x ∈ Bundle.messageArmAtoms cls names → x.holds args s none s [] = true := fun x hx => h x hx
  obtain ⟨T, Z0, L, -, Y⟩ := ThrowableC.of_atoms (args := args) howns hfin hpl (fun x hx => h x (by simp [Bundle.messageArmAtoms, hx]))
  obtain ⟨Z, M, LZ, LM, hnZ⟩ := Init0T.ofS_atoms (args := args) hpl L Y (fun x hx => h x (by simp [Bundle.messageArmAtoms, hx]))
  obtain ⟨P1, Ps, hlen, L1, hL, hP1m, hlink1, hlink⟩ := Bundle.chainS (args := args) hpl hnZ names cls hcls hnames (fun x hx => h x (by simp [Bundle.messageArmAtoms, hx]))
  obtain ⟨Zs, LZs, hn4, hfitv, hfitc⟩ := StringT.of_atoms (args := args) (fun x hx => h x (by simp [Bundle.messageArmAtoms, hx]))
  have hfound : s.vm.findClass cls = some P1.m.cls := findClass_of_methodNamed hP1m
  obtain ⟨c1, kX, hc1, hk, hord, -, -, hn6⟩ := Cond.instantiable_spec (a (.instantiable cls 6) (by simp [Bundle.messageArmAtoms]))
  cases Option.some.inj (hc1.symm.trans hfound)
  have hinit := Cond.initialized_spec hfound hk (a (.initialized cls) (by simp [Bundle.messageArmAtoms]))
  have hctor : kX.findMethod "<init>" "(Ljava/lang/String;)V" = some P1.m.idx := findMethod_of_methodNamed hP1m hk
  have hsel0 : selectMethod e.platform s.vm P1.m.cls T.fill0 = .method T.fill0 := by
    obtain ⟨c2, r2, m2, q1, q2, q3, q4, -⟩ := Cond.selects_spec (a (.selects cls Bundle.tFill0 Bundle.tFill0) (by simp [Bundle.messageArmAtoms]))
    cases Option.some.inj (q1.symm.trans hfound)
    cases Option.some.inj (q2.symm.trans (State.methodFound?_of_named Y.fill0 (by decide)))
    cases Option.some.inj (q3.symm.trans Y.fill0)
    rw [Launch.admits_selectMethod X.admits]; exact q4
  have hselF : selectMethod e.platform s.vm P1.m.cls T.fill = .method T.fill := by
    obtain ⟨c2, r2, m2, q1, q2, q3, q4, -⟩ := Cond.selects_spec (a (.selects cls Bundle.tFill Bundle.tFill) (by simp [Bundle.messageArmAtoms]))
    cases Option.some.inj (q1.symm.trans hfound)
    cases Option.some.inj (q2.symm.trans (State.methodFound?_of_named Y.fill (by decide)))
    cases Option.some.inj (q3.symm.trans Y.fill)
    rw [Launch.admits_selectMethod X.admits]; exact q4
  obtain ⟨cellS0, hcS0, hiss⟩ := Y.statics
  obtain ⟨u0, hu0⟩ := Cond.staticRefV Y.unassigned L.unassignedStatic L.statics hcS0 hiss (a (.isRef (.static Bundle.tN "UNASSIGNED_STACK" Bundle.steD)) (by simp [Bundle.messageArmAtoms]))
  obtain ⟨sen, hsen⟩ := Cond.staticRefV Y.sentinel L.sentinelStatic L.statics hcS0 hiss (a (.isRef (.static Bundle.tN "SUPPRESSED_SENTINEL" Bundle.listD)) (by simp [Bundle.messageArmAtoms]))
  obtain ⟨ci198, i198, fB, hk198, hg198, ha198, hsB, -, hnB, htB, hffB⟩ := Cond.ownField (t := .object "java/lang/Object") Y.found L.cls (by decide +kernel) (a (.fieldLink Bundle.tN 198 Bundle.tN "backtrace" "Ljava/lang/Object;") (by simp [Bundle.messageArmAtoms])) (a (.lays Bundle.tN Bundle.tN "backtrace" "Ljava/lang/Object;") (by simp [Bundle.messageArmAtoms])) e.platform hpl
  obtain ⟨cellS, hcS', heS, -, hkeep⟩ := X.same.2.2.2.2.2 T.aS cellS0 hcS0
  have hcellS : W.heap[T.aS]? = some cellS := hcS'
  have hout' : ∀ i, (⟨T.aS, i⟩ : Loc) ∉ locs := fun i hmem => by
    have := hlocs _ hmem cellS0 hcS0
    rw [hiss] at this; cases this
  have hknownS : cellS.vm ≠ .unknown := by
    rw [heS]; intro hu
    rw [show cellS0.vm = .unknown from hu] at hiss
    cases hiss
  have hvU : cellS.slots[T.fUnassigned.slot]? = some u0.v := by rw [hkeep _ (hout' _)]; exact hu0
  have hvSen : cellS.slots[T.fSentinel.slot]? = some sen.v := by rw [hkeep _ (hout' _)]; exact hsen
  obtain ⟨iM, hffM⟩ := Y.msg
  obtain ⟨tyC, dC, hdC, hdnC⟩ := Cond.laysAt hfound hk Y.cause (a (.lays cls Bundle.tN "cause" "Ljava/lang/Throwable;") (by simp [Bundle.messageArmAtoms]))
  obtain ⟨tyS, dS, hdS, hdnS⟩ := Cond.laysAt hfound hk Y.stack (a (.lays cls Bundle.tN "stackTrace" Bundle.steD) (by simp [Bundle.messageArmAtoms]))
  obtain ⟨tyP, dP, hdP, hdnP⟩ := Cond.laysAt hfound hk Y.supp (a (.lays cls Bundle.tN "suppressedExceptions" Bundle.listD) (by simp [Bundle.messageArmAtoms]))
  obtain ⟨tyM, dM, hdM, hdnM⟩ := Cond.laysAt hfound hk hffM (a (.lays cls Bundle.tN "detailMessage" "Ljava/lang/String;") (by simp [Bundle.messageArmAtoms]))
  obtain ⟨tyB, dB, hdB, hdnB⟩ := Cond.laysAt hfound hk hffB (a (.lays cls Bundle.tN "backtrace" "Ljava/lang/Object;") (by simp [Bundle.messageArmAtoms]))
  have bC := Cond.laysApart hdB hdC hdnB hdnC (by rw [hnB, Y.causeName]; decide)
  have bS := Cond.laysApart hdB hdS hdnB hdnS (by rw [hnB, Y.stackName]; decide)
  have bP := Cond.laysApart hdB hdP hdnB hdnP (by rw [hnB, Y.suppName]; decide)
  have hbk : ((preparedCellV T.toThrowableT (freshCell P1.m.cls kX) (W.heap.size + 2) u0 sen).withEntry W.cur).slots[fB.slot]? = some .null := by
    have := fresh_default (c := P1.m.cls) tyB
    rw [htB] at this
    simpa [preparedCellV, Cell.setSlot, Cell.withEntry, Array.getElem?_setIfInBounds, bC, bS, bP, bC.symm, bS.symm, bP.symm, defaultValue] using this
  have tkC := Takes.of_laid (v := .ref (W.heap.size + 2)) hk hord tyC (by rw [Y.causeType]; rfl)
  have tkS := Takes.of_laid (v := u0.v) hk hord tyS (by rw [Y.stackType]; exact fits_refV_array _ u0)
  have tkP := Takes.of_laid (v := sen.v) hk hord tyP (by rw [Y.suppType]; exact fits_refV_object _ sen)
  have tkM := Takes.of_laid (v := .ref (W.heap.size + 1)) hk hord tyM (by rw [Y.msgType]; rfl)
  have hskip : SkipFacts T e.platform s (fun u => u) u0 ((preparedCellV T.toThrowableT (freshCell P1.m.cls kX) (W.heap.size + 2) u0 sen).withEntry W.cur) := ⟨{ ci198 := ci198, i198 := i198, fBack := fB }, ⟨hk198, hg198, ha198, hsB⟩, hbk, fun _ _ => rfl⟩
  have h0 : At W g.method c below := by rw [hg]; exact X.here
  obtain ⟨hbeyond, hfreeW⟩ := X.vmMayThrow hsize (.throwNew cls (some text) none) (fun f hf => by cases hf) rfl hRlocals
  have hfr' : W.frames.length + Ps.length + 4 < (e.platform.stackLimits W.me).1 := by have := X.framesAbove hRframes; omega
  have hwd' : (stackUse (.java g :: W.frames.tail)).2 + 13 * Ps.length + 55 ≤ (e.platform.stackLimits W.me).2 := by have := X.stackAbove hsize (K := 13 * Ps.length + 55) (by omega); omega
  have hslots : W.slotsUsed + (stringBytes (stringToUtf16 text)).size + Zs.kS.instanceTypes.size + kX.instanceTypes.size ≤ e.platform.maxSlots := by
    have := X.slotsAbove hRslots
    rw [hn4, hn6]
    omega
  obtain ⟨vm', hW', st⟩ := Steps.vmThrowsMessageColdByV p (s₀ := s) (S := W) (g := g) h0 hexec T L Z LZ M LM X.warmed (t := W.cur) rfl Zs LZs P1 L1 Ps hL hlink1 hlink hsoe hoom hfound hk hinit hord hctor
    (Launch.admits_hotImplicitExceptions X.admits) hbeyond hfreeW htext hlimit hheap (X.cellsAbove hRcells) hslots (hfitv _) (hfitc _)
    (Nn := fun u => u) heapOnly_id (fun _ _ => rfl) (fun _ => rfl) (fun u x y => setCell_twice _ _ _ _) (fun _ => Nat.le_refl _) (cN := ((preparedCellV T.toThrowableT (freshCell P1.m.cls kX) (W.heap.size + 2) u0 sen).withEntry W.cur))
    hsel0 hcellS hknownS hvU tkS (fun _ hu => hu) (fun _ hu => hu) rfl rfl rfl (by simp [preparedCellV, Cell.setSlot, Cell.withEntry]) hskip (fun _ _ hA hW _ hroom _ hrest => L.nativeOff p htr hA hW hroom hrest) hselF hvSen tkC tkP tkM Y.objLocals rfl hfr' hwd'
  rw [plainBareV_eq T.toThrowableT (W.heap.size + 2) u0 sen (.ref (W.heap.size + 1)) W.cur rfl rfl] at st
  obtain ⟨-, -, w3, w4, -, -, -⟩ := withThrown_facts e.platform W Zs text P1.m.cls kX
  have X3 := ((X.pushed (bytesOf Zs.cB (stringToUtf16 text))).pushed (stringAt Zs.cS Zs.kS Zs.fv Zs.fc (stringToUtf16 text) W.heap.size)).pushed (freshCell P1.m.cls kX)
  rw [← withString_eq] at X3
  have X4 := X3.noted hW'
  have ha : (W.heap.size + 2) < ((withThrown W Zs text P1.m.cls kX).setVm vm').heap.size := by show _ < (withThrown W Zs text P1.m.cls kX).heap.size; rw [w3]; omega
  have hcell : ((withThrown W Zs text P1.m.cls kX).setVm vm').heap[(W.heap.size + 2)]? = some (freshCell P1.m.cls kX) := w4
  have X5 := ((((X4.stored hcell T.fCause.slot (.ref (W.heap.size + 2))).storedAgain ha T.fStack.slot u0.v).storedAgain ha T.fSupp.slot sen.v).storedAgain ha T.fStack.slot u0.v).storedAgain ha T.fMsg.slot (.ref (W.heap.size + 1))
  obtain ⟨g₁, hfrM⟩ := X5.frames_eq
  have hU : ((((withThrown W Zs text P1.m.cls kX).setVm vm').setCell (W.heap.size + 2) (plainBareV T.toThrowableT (freshCell P1.m.cls kX) (W.heap.size + 2) u0 sen (.ref (W.heap.size + 1)))).setTop g).pushFrame (.throwing (W.heap.size + 2)) = (((withThrown W Zs text P1.m.cls kX).setVm vm').setCell (W.heap.size + 2) (plainBareV T.toThrowableT (freshCell P1.m.cls kX) (W.heap.size + 2) u0 sen (.ref (W.heap.size + 1)))).setFrames (.throwing (W.heap.size + 2) :: .java g :: below) := by
    rw [State.pushFrame, State.frames_setTop _ hfrM, State.setTop_of_frames _ hfrM, State.setFrames_setFrames]
  have b1 : (bytesOf Zs.cB (stringToUtf16 text)).slots.size = (stringBytes (stringToUtf16 text)).size := by
    rw [(Cell.writeAll_facts _ _).2.2]; simp [bytes0]
  have b2 : (stringAt Zs.cS Zs.kS Zs.fv Zs.fc (stringToUtf16 text) W.heap.size).slots.size = 4 := by simp [string0, Cell.setSlot, hn4]
  have b3 : (freshCell P1.m.cls kX).slots.size = 6 := by simp [hn6]
  rw [b1, b2, b3] at X5
  have e9 : slots + (stringBytes (stringToUtf16 text)).size + 4 + 6 = slots + ((stringBytes (stringToUtf16 text)).size + 4 + 6) := by omega
  rw [e9] at X5
  simp only [List.append_assoc, List.cons_append, List.nil_append] at X5
  refine ⟨((withThrown W Zs text P1.m.cls kX).setVm vm').setCell (W.heap.size + 2) (plainBareV T.toThrowableT (freshCell P1.m.cls kX) (W.heap.size + 2) u0 sen (.ref (W.heap.size + 1))), W.heap.size + 2, _, fun target ht => st _ (by rw [X.tail, ← hU]; exact ht),
    X5.forget (fun y hy => ?_), heapAt_setCell_self _ ha, hfound, rfl⟩
  simp only [List.mem_cons, List.not_mem_nil, or_false] at hy
  have hge : s.heap.size ≤ W.heap.size := X.same.2.1
  rcases hy with rfl | rfl | rfl | rfl | rfl <;> exact Nat.le_trans hge (Nat.le_add_right _ 2)
set_option maxHeartbeats 1000000 in
/-- the machine throws NullPointerException, no traces kept: from its note over the frame g to 'throwing' over the same frame (follows the proof of Stand.vmThrowsNpe, Shelf42/KT2.lean; throwsNpeColdBareVAt, Shelf42/NT91.lean, called) -/
theorem vx_npeAt {p : Program} {l : Launch} {e : Env} {R : Room} {s : State} {m₀ : MethodId} {args : Array Value} {below : List Frame} {meth : Method} {c : Code} {W : State} {locs : List Loc} {cells slots : Nat}
    (X : Stand p l e R s m₀ args below meth c W locs cells slots) (hexec : p.tables.exec = Jvm.exec) (htr : e.platform.stackTraces = false) {n : Nat}
    (h : ∀ a ∈ Bundle.npeArmAtoms n, a.before args s = true)
    (hlocs : ∀ x ∈ locs, ∀ cell, s.heap[x.base]? = some cell → cell.vm.isStatics = false)
    {g : JFrame} (hg : g.method = m₀) (hsize : g.locals.size = c.maxLocals)
    (hRframes : 7 < R.frames) (hRlocals : 2 * g.monitorRoom + (g.stack.map fun v => v.category).sum + 10240 ≤ R.locals)
    (hRcells : cells + 1 ≤ R.cells) (hRslots : slots + n ≤ R.slots) (hlocks : meth.locks = false) :
    ∃ (S : State) (q : Addr) (ce : Cell), (∀ target, Steps p.tables e below ((S.setTop g).pushFrame (.throwing q)) target → Steps p.tables e below ((W.setTop g).pushFrame (.throwNew "java/lang/NullPointerException" none none)) target) ∧
      Stand p l e R s m₀ args below meth c S locs (cells + 1) (slots + n) ∧ S.heap[q]? = some ce ∧ s.vm.findClass "java/lang/NullPointerException" = some ce.cls ∧ ce.vm = .none := by
  have howns : e.platform.frameOwnsMonitors = true := by rw [X.admits.platform]
  have hfin : e.platform.finalization = false := by rw [X.admits.platform]
  have hpl : e.platform.magicAccessors = ({} : Platform).magicAccessors := by rw [X.admits.platform]
  have hpl2 : e.platform.arrayCloneIsPublic = true := by rw [X.admits.platform]
  have a' : ∀ x, x ∈ Bundle.npeArmAtoms n → x.holds args s none s [] = true := fun x hx => h x hx
  obtain ⟨T, Z, L, LZ, Y⟩ := ThrowableC.of_atoms (args := args) howns hfin hpl (fun x hx => h x (by simp [Bundle.npeArmAtoms, hx]))
  obtain ⟨N, LN, hcN, hnNF, hordN, hffS⟩ := NpeC.of_atoms (args := args) hpl hpl2 L Y (fun x hx => h x (by simp [Bundle.npeArmAtoms, hx]))
  obtain ⟨P1, L1, hP1m, hP1s⟩ := PassC.of_atoms (args := args) (s := s) hpl (X := Bundle.nN) (Y := Bundle.rN) (by decide) (by decide) LibCode.NullPointerException.Init0.at_0 LibCode.NullPointerException.Init0.at_1 LibCode.NullPointerException.Init0.at_4 (fun x hx => h x (by simp [Bundle.npeArmAtoms, hx]))
  obtain ⟨PR, LR, hPRm, hPRs⟩ := PassC.of_atoms (args := args) (s := s) hpl (X := Bundle.rN) (Y := Bundle.eN) (by decide) (by decide) LibCode.RuntimeException.Init0.at_0 LibCode.RuntimeException.Init0.at_1 LibCode.RuntimeException.Init0.at_4 (fun x hx => h x (by simp [Bundle.npeArmAtoms, hx]))
  obtain ⟨PE, LEx, hPEm, hPEs⟩ := PassC.of_atoms (args := args) (s := s) hpl (X := Bundle.eN) (Y := Bundle.tN) (by decide) (by decide) LibCode.Exception.Init0.at_0 LibCode.Exception.Init0.at_1 LibCode.Exception.Init0.at_4 (fun x hx => h x (by simp [Bundle.npeArmAtoms, hx]))
  have hfound : s.vm.findClass Bundle.nN = some P1.m.cls := findClass_of_methodNamed hP1m
  have ecls : N.cN = P1.m.cls := Option.some.inj (hcN.symm.trans hfound)
  have hk : s.vm.classes[P1.m.cls]? = some N.kN := by rw [← ecls]; exact LN.cls
  have hinit := Cond.initialized_spec hfound hk (a' (.initialized Bundle.nN) (by simp [Bundle.npeArmAtoms]))
  have hctor : N.kN.findMethod "<init>" "()V" = some P1.m.idx := findMethod_of_methodNamed hP1m hk
  obtain ⟨c1, k1, hc1, hk1, -, -, -, hn⟩ := Cond.instantiable_spec (a' (.instantiable Bundle.nN n) (by simp [Bundle.npeArmAtoms]))
  cases Option.some.inj (hc1.symm.trans hfound)
  cases Option.some.inj (hk1.symm.trans hk)
  have hfsz : (freshCell P1.m.cls N.kN).slots.size = n := by simp [hn]
  have hlink1 : P1.sup = PR.m := Option.some.inj (hP1s.symm.trans hPRm)
  have hlinkR : PR.sup = PE.m := Option.some.inj (hPRs.symm.trans hPEm)
  have hlinkE : PE.sup = Z.m T.toThrowableT := Option.some.inj (hPEs.symm.trans Y.init0)
  have hLs : ∀ P, P ∈ [PR, PE] → P.Links0 e.platform s := fun P hP => by
    simp only [List.mem_cons, List.not_mem_nil, or_false] at hP
    rcases hP with rfl | rfl
    · exact LR
    · exact LEx
  have hsel0 : selectMethod e.platform s.vm P1.m.cls T.fill0 = .method T.fill0 := by
    obtain ⟨c2, r2, m2, q1, q2, q3, q4, -⟩ := Cond.selects_spec (a' (.selects Bundle.nN Bundle.tFill0 Bundle.tFill0) (by simp [Bundle.npeArmAtoms]))
    cases Option.some.inj (q1.symm.trans hfound)
    cases Option.some.inj (q2.symm.trans (State.methodFound?_of_named Y.fill0 (by decide)))
    cases Option.some.inj (q3.symm.trans Y.fill0)
    rw [Launch.admits_selectMethod X.admits]; exact q4
  have hselF : selectMethod e.platform s.vm P1.m.cls T.fill = .method N.fill := by
    obtain ⟨c2, r2, m2, q1, q2, q3, q4, -⟩ := Cond.selects_spec (a' (.selects Bundle.nN Bundle.tFill Bundle.nFill) (by simp [Bundle.npeArmAtoms]))
    cases Option.some.inj (q1.symm.trans hfound)
    cases Option.some.inj (q2.symm.trans (State.methodFound?_of_named Y.fill (by decide)))
    cases Option.some.inj (q3.symm.trans hnNF)
    rw [Launch.admits_selectMethod X.admits]; exact q4
  obtain ⟨cellS0, hcS0, hiss⟩ := Y.statics
  obtain ⟨u0, hu0⟩ := Cond.staticRefV Y.unassigned L.unassignedStatic L.statics hcS0 hiss (a' (.isRef (.static Bundle.tN "UNASSIGNED_STACK" Bundle.steD)) (by simp [Bundle.npeArmAtoms]))
  obtain ⟨sen, hsen⟩ := Cond.staticRefV Y.sentinel L.sentinelStatic L.statics hcS0 hiss (a' (.isRef (.static Bundle.tN "SUPPRESSED_SENTINEL" Bundle.listD)) (by simp [Bundle.npeArmAtoms]))
  obtain ⟨ci198, i198, fB, hk198, hg198, ha198, hsB, -, hnB, htB, hffB⟩ := Cond.ownField (t := .object "java/lang/Object") Y.found L.cls (by decide +kernel) (a' (.fieldLink Bundle.tN 198 Bundle.tN "backtrace" Bundle.objD) (by simp [Bundle.npeArmAtoms])) (a' (.lays Bundle.tN Bundle.tN "backtrace" Bundle.objD) (by simp [Bundle.npeArmAtoms])) e.platform hpl
  obtain ⟨cellS, hcS', heS, -, hkeep⟩ := X.same.2.2.2.2.2 T.aS cellS0 hcS0
  have hcellS : W.heap[T.aS]? = some cellS := hcS'
  have hout' : ∀ i, (⟨T.aS, i⟩ : Loc) ∉ locs := fun i hmem => by
    have := hlocs _ hmem cellS0 hcS0
    rw [hiss] at this; cases this
  have hknownS : cellS.vm ≠ .unknown := by
    rw [heS]; intro hu
    rw [show cellS0.vm = .unknown from hu] at hiss
    cases hiss
  have hvU : cellS.slots[T.fUnassigned.slot]? = some u0.v := by rw [hkeep _ (hout' _)]; exact hu0
  have hvSen : cellS.slots[T.fSentinel.slot]? = some sen.v := by rw [hkeep _ (hout' _)]; exact hsen
  obtain ⟨tyC, dC, hdC, hdnC⟩ := Cond.laysAt hfound hk Y.cause (a' (.lays Bundle.nN Bundle.tN "cause" "Ljava/lang/Throwable;") (by simp [Bundle.npeArmAtoms]))
  obtain ⟨tyS, dS, hdS, hdnS⟩ := Cond.laysAt hfound hk Y.stack (a' (.lays Bundle.nN Bundle.tN "stackTrace" Bundle.steD) (by simp [Bundle.npeArmAtoms]))
  obtain ⟨tyP, dP, hdP, hdnP⟩ := Cond.laysAt hfound hk Y.supp (a' (.lays Bundle.nN Bundle.tN "suppressedExceptions" Bundle.listD) (by simp [Bundle.npeArmAtoms]))
  obtain ⟨tyX, dX, hdX, hdnX⟩ := Cond.laysAt hfound hk hffS (a' (.lays Bundle.nN Bundle.nN "extendedMessageState" "I") (by simp [Bundle.npeArmAtoms, Bundle.npeAtoms]))
  obtain ⟨hnX, htX⟩ := State.fieldFound?_type hffS (t := .int) (by decide +kernel)
  have xC := Cond.laysApart hdC hdX hdnC hdnX (by rw [hnX, Y.causeName]; decide)
  have xS := Cond.laysApart hdS hdX hdnS hdnX (by rw [hnX, Y.stackName]; decide)
  have xP := Cond.laysApart hdP hdX hdnP hdnX (by rw [hnX, Y.suppName]; decide)
  have hv0 : (freshCell P1.m.cls N.kN).slots[N.fState.slot]? = some (.int 0) := by
    have := fresh_default (c := P1.m.cls) tyX
    rw [htX] at this; exact this
  obtain ⟨tyB, dB, hdB, hdnB⟩ := Cond.laysAt hfound hk hffB (a' (.lays Bundle.nN Bundle.tN "backtrace" Bundle.objD) (by simp [Bundle.npeArmAtoms]))
  have bC := Cond.laysApart hdB hdC hdnB hdnC (by rw [hnB, Y.causeName]; decide)
  have bS := Cond.laysApart hdB hdS hdnB hdnS (by rw [hnB, Y.stackName]; decide)
  have bP := Cond.laysApart hdB hdP hdnB hdnP (by rw [hnB, Y.suppName]; decide)
  have bX := Cond.laysApart hdB hdX hdnB hdnX (by rw [hnB, hnX]; decide)
  have hbk : ((npeCell N.toNpeT (preparedCellV T.toThrowableT (freshCell P1.m.cls N.kN) W.heap.size u0 sen) W.cur).withEntry W.cur).slots[fB.slot]? = some .null := by
    have := fresh_default (c := P1.m.cls) tyB
    rw [htB] at this
    simpa [npeCell, preparedCellV, Cell.setSlot, Cell.withEntry, Array.getElem?_setIfInBounds, bC, bS, bP, bX, bC.symm, bS.symm, bP.symm, bX.symm, defaultValue] using this
  have tkC := Takes.of_laid (v := .ref W.heap.size) hk hordN tyC (by rw [Y.causeType]; rfl)
  have tkS := Takes.of_laid (v := u0.v) hk hordN tyS (by rw [Y.stackType]; exact fits_refV_array _ u0)
  have tkP := Takes.of_laid (v := sen.v) hk hordN tyP (by rw [Y.suppType]; exact fits_refV_object _ sen)
  have tkX := Takes.of_laid (v := .int 1) hk hordN tyX (by rw [htX]; rfl)
  have hskip : SkipFacts T e.platform s (fun u => u) u0 ((npeCell N.toNpeT (preparedCellV T.toThrowableT (freshCell P1.m.cls N.kN) W.heap.size u0 sen) W.cur).withEntry W.cur) := ⟨{ ci198 := ci198, i198 := i198, fBack := fB }, ⟨hk198, hg198, ha198, hsB⟩, hbk, fun _ _ => rfl⟩
  obtain ⟨vm', X3, st, -⟩ := X.throwsNpeColdBareVAt hexec hg hsize T L Z LZ N LN P1 L1 [PR, PE] hLs hlink1 ⟨hlinkR, hlinkE, trivial⟩ hfound hk hinit hordN hctor hsel0 hselF hcellS hknownS hvU hvSen
    hv0 xC xS xP tkC tkS tkP tkX Y.objLocals hskip (fun _ _ hA hW _ hroom _ hrest => L.nativeOff p htr hA hW hroom hrest) (by simpa using hRframes) hRlocals (by simp) hRcells (by rw [hn]; exact hRslots)
  have hlt : W.heap.size < ((W.pushCell (freshCell P1.m.cls N.kN)).setVm vm').heap.size := by
    show W.heap.size < (W.pushCell (freshCell P1.m.cls N.kN)).heap.size
    rw [State.heap_size_pushCell]; omega
  rw [hfsz] at X3
  obtain ⟨g₁, hfrM⟩ := X3.frames_eq
  have hU : ((((W.pushCell (freshCell P1.m.cls N.kN)).setVm vm').setCell W.heap.size (npeBareV T.toThrowableT N.toNpeT (freshCell P1.m.cls N.kN) W.heap.size u0 sen)).setTop g).pushFrame (.throwing W.heap.size) = (((W.pushCell (freshCell P1.m.cls N.kN)).setVm vm').setCell W.heap.size (npeBareV T.toThrowableT N.toNpeT (freshCell P1.m.cls N.kN) W.heap.size u0 sen)).setFrames (.throwing W.heap.size :: .java g :: below) := by
    rw [State.pushFrame, State.frames_setTop _ hfrM, State.setTop_of_frames _ hfrM, State.setFrames_setFrames]
  refine ⟨_, W.heap.size, _, fun target ht => st.trans (by rw [← hU]; exact ht), X3.forget (fun y hy => ?_), heapAt_setCell_self _ hlt, hfound, rfl⟩
  simp only [List.mem_cons, List.not_mem_nil, or_false] at hy
  have hge : s.heap.size ≤ W.heap.size := X.same.2.1
  rcases hy with rfl | rfl | rfl | rfl | rfl <;> exact hge
/-- the words of a machine's NullPointerException, but the four that speak of the heap -/
def vx_atN (n : Nat) : List Cond := (Bundle.npeArmAtoms n).filter vx_no
/-- the words of a machine's throw with a message, but the four that speak of the heap -/
def vx_atM (X : String) (names : List String) : List Cond := (Bundle.messageArmAtoms X names).filter vx_no
section
variable {p : Program} {l : Launch} {e : Env} {R : Room} {s : State} {m : MethodId} {args : Array Value} {below : List Frame} {meth : Method} {c : Code} {H : Heap} {locs : List Loc} {cells slots : Nat}
/-- a frame seen from a rebased start, seen from the first start again -/
theorem vx_back9 {T S : State} {R' : Room} {k n : Nat} (X : Stand p l e R s m args below meth c T locs cells slots) (Y : Stand p l e R' ((T.setVm s.vm).setFrames (.invoking m args :: below)) m args below meth c T [] 0 0) (Z : Stand p l e R' ((T.setVm s.vm).setFrames (.invoking m args :: below)) m args below meth c S [] k n) :
    Stand p l e R s m args below meth c S locs (cells + k) (slots + n) := by
  have hW0 : s.WarmedH ((T.setVm s.vm).setFrames (.invoking m args :: below)).vm := State.WarmedH.refl s
  refine { admits := X.admits, cas := X.cas, clock := X.clock, frames := X.frames, room := X.room, hears := X.hears, method := X.method, code := X.code, here := Z.here, tail := Z.tail, warmed := State.WarmedH.trans hW0 Z.warmed, limits := Z.limits.trans (Y.limits.symm.trans X.limits), bytes := Z.bytes.trans (Y.bytes.symm.trans X.bytes), same := ?_ }
  obtain ⟨e1, e2⟩ := Z.same
  rw [State.setFrames_setFrames] at e1
  have h2 : (T.setVm s.vm).sameButNew (S.setVm s.vm) [] k n := ⟨e1, e2⟩
  have h3 := X.same.trans h2
  rw [List.append_nil] at h3
  exact h3
/-- from the machine's note that E is thrown here with this text -/
def vx_Note (p : Program) (l : Launch) (e : Env) (R : Room) (s : State) (m : MethodId) (args : Array Value) (below : List Frame) (meth : Method) (c : Code) (H : Heap) (locs : List Loc) (cells slots : Nat) (Q : State → Prop) (g : JFrame) (E text : String) : Prop :=
  ∀ T : State, T.heap = H → Stand p l e R s m args below meth c T locs cells slots → ∃ t, Steps p.tables e below ((T.setTop g).pushFrame (.throwNew E (some text) none)) t ∧ Q t
theorem vx_vm {pc : Nat} {ls : Array Slot} {rest : List Value} {Q : State → Prop} (hexec : p.tables.exec = Jvm.exec) (hl : l.stackTraces = false) {cls text : String} {names : List String} {nb : Nat} {A : Nat → Prop}
    (hcls : Bundle.fit cls = true) (hnames : ∀ n ∈ names, Bundle.fit n = true) (hsoe : (cls == "java/lang/StackOverflowError") = false) (hoom : (cls == "java/lang/OutOfMemoryError") = false)
    (hat : ∀ w ∈ vx_atM cls names, w.before args s = true) (hgood : ∀ w ∈ vx_atM cls names, vx_ot w = true)
    (hU : vx_Zq Bundle.tN "UNASSIGNED_STACK" Bundle.steD A s s.heap) (hN : vx_Zq Bundle.tN "SUPPRESSED_SENTINEL" Bundle.listD A s s.heap) (hS : va_S A s.heap H locs) (hsize : ls.size = c.maxLocals)
    (htext : (text == notModelled) = false) (hnb : (stringBytes (stringToUtf16 text)).size ≤ nb) (hnb1 : nb ≤ 1000)
    (hRframes : names.length + 4 < R.frames) (hRlocals : (rest.map fun v => v.category).sum + 10240 ≤ R.locals) (hshort : 13 * names.length + 55 ≤ 10240) (hRcells : cells + 3 ≤ R.cells) (hRslots : slots + (nb + 10) ≤ R.slots) (hlocks : meth.locks = false)
    (k : ∀ (H1 : Heap) (q9 : Addr) (ce : Cell), H.size ≤ H1.size → (∀ q : Nat, q < H.size → H1[q]? = H[q]?) → va_S A s.heap H1 locs → H1[q9]? = some ce → ce.vm = .none → s.vm.findClass cls = some ce.cls → vx_W p l e R s m args below meth c H1 locs (cells + 3) (slots + (nb + 10)) Q (F0 m pc ls rest) q9) :
    vx_Note p l e R s m args below meth c H locs cells slots Q (F0 m pc ls rest) cls text := by
  intro T hT X
  have htr : e.platform.stackTraces = false := (show e.platform.stackTraces = l.stackTraces by rw [X.admits.platform]).trans hl
  have Y := vx_rebase X (R' := { frames := R.frames, locals := R.locals, cells := 3, slots := nb + 10 }) (Nat.le_refl _) (Nat.le_refl _) hRcells hRslots
  have hhp : ((T.setVm s.vm).setFrames (.invoking m args :: below)).heap = H := hT
  have hW0 : s.WarmedH ((T.setVm s.vm).setFrames (.invoking m args :: below)).vm := State.WarmedH.refl s
  have hat' : ∀ w ∈ vx_atM cls names, w.before args ((T.setVm s.vm).setFrames (.invoking m args :: below)) = true := fun w hw => vx_ot_at hW0 rfl (hgood w hw) (hat w hw)
  have hU' : vx_Zq Bundle.tN "UNASSIGNED_STACK" Bundle.steD A ((T.setVm s.vm).setFrames (.invoking m args :: below)) ((T.setVm s.vm).setFrames (.invoking m args :: below)).heap := by rw [hhp]; exact vx_Zq.moved hW0.alike (hU.kept hS.2.1)
  have hN' : vx_Zq Bundle.tN "SUPPRESSED_SENTINEL" Bundle.listD A ((T.setVm s.vm).setFrames (.invoking m args :: below)) ((T.setVm s.vm).setFrames (.invoking m args :: below)).heap := by rw [hhp]; exact vx_Zq.moved hW0.alike (hN.kept hS.2.1)
  obtain ⟨S, q, ce, st, Z, hce, hcl', hv⟩ := vx_vmAt Y hexec htr (cls := cls) (names := names) (text := text) hcls hnames hsoe hoom (vx_own hat' (vx_isRefq hU'.1) (vx_isRefq hN'.1) hU'.2.word hN'.2.word) (fun x hx => nomatch hx) htext
    (by rw [Launch.admits_arrayLengthLimit X.admits]; omega) (by rw [Launch.admits_maxHeapBytes X.admits]; simp only [componentBytes]; omega)
    (g := F0 m pc ls rest) rfl hsize hRframes (by show 2 * 0 + (rest.map fun v => v.category).sum + 10240 ≤ R.locals; omega) hshort (by show 0 + 3 ≤ 3; omega) (by show 0 + (_ + 4 + 6) ≤ nb + 10; omega) hlocks
  obtain ⟨f1, f2⟩ := vx_frame Z.same
  have f1' : H.size ≤ S.heap.size := by rw [← hT]; exact f1
  have f2' : ∀ q : Nat, q < H.size → S.heap[q]? = H[q]? := fun q hq => by
    rw [← hT]
    exact f2 q (by rw [← hT] at hq; exact hq) (fun z hz => nomatch hz)
  have X5 := vx_back9 X Y Z
  have X6 : Stand p l e R s m args below meth c S locs (cells + 3) (slots + (nb + 10)) := { X5 with same := X5.same.mono (by omega) (by omega) }
  obtain ⟨t, a1, b1⟩ := k S.heap q ce f1' f2' ⟨Nat.le_trans hS.1 f1', fun q h1 h2 => (f2' q (Nat.lt_of_lt_of_le h1 hS.1)).trans (hS.2.1 q h1 h2), hS.2.2⟩ hce hv hcl' S rfl X6
  exact ⟨t, st t a1, b1⟩
/-- from the machine's note that NullPointerException is thrown here -/
def vx_NoteN (p : Program) (l : Launch) (e : Env) (R : Room) (s : State) (m : MethodId) (args : Array Value) (below : List Frame) (meth : Method) (c : Code) (H : Heap) (locs : List Loc) (cells slots : Nat) (Q : State → Prop) (g : JFrame) : Prop :=
  ∀ T : State, T.heap = H → Stand p l e R s m args below meth c T locs cells slots → ∃ t, Steps p.tables e below ((T.setTop g).pushFrame (.throwNew "java/lang/NullPointerException" none none)) t ∧ Q t
theorem vx_npe {pc : Nat} {ls : Array Slot} {rest : List Value} {Q : State → Prop} (hexec : p.tables.exec = Jvm.exec) (hl : l.stackTraces = false) {nb : Nat} {A : Nat → Prop}
    (hat : ∀ w ∈ vx_atN nb, w.before args s = true) (hgood : ∀ w ∈ vx_atN nb, vx_ot w = true)
    (hU : vx_Zq Bundle.tN "UNASSIGNED_STACK" Bundle.steD A s s.heap) (hN : vx_Zq Bundle.tN "SUPPRESSED_SENTINEL" Bundle.listD A s s.heap) (hS : va_S A s.heap H locs) (hsize : ls.size = c.maxLocals)
    (hRframes : 7 < R.frames) (hRlocals : (rest.map fun v => v.category).sum + 10240 ≤ R.locals) (hRcells : cells + 1 ≤ R.cells) (hRslots : slots + nb ≤ R.slots) (hlocks : meth.locks = false)
    (k : ∀ (H1 : Heap) (q9 : Addr) (ce : Cell), H.size ≤ H1.size → (∀ q : Nat, q < H.size → H1[q]? = H[q]?) → va_S A s.heap H1 locs → H1[q9]? = some ce → ce.vm = .none → s.vm.findClass "java/lang/NullPointerException" = some ce.cls → vx_W p l e R s m args below meth c H1 locs (cells + 1) (slots + nb) Q (F0 m pc ls rest) q9) :
    vx_NoteN p l e R s m args below meth c H locs cells slots Q (F0 m pc ls rest) := by
  intro T hT X
  have htr : e.platform.stackTraces = false := (show e.platform.stackTraces = l.stackTraces by rw [X.admits.platform]).trans hl
  have Y := vx_rebase X (R' := { frames := R.frames, locals := R.locals, cells := 1, slots := nb }) (Nat.le_refl _) (Nat.le_refl _) hRcells hRslots
  have hhp : ((T.setVm s.vm).setFrames (.invoking m args :: below)).heap = H := hT
  have hW0 : s.WarmedH ((T.setVm s.vm).setFrames (.invoking m args :: below)).vm := State.WarmedH.refl s
  have hat' : ∀ w ∈ vx_atN nb, w.before args ((T.setVm s.vm).setFrames (.invoking m args :: below)) = true := fun w hw => vx_ot_at hW0 rfl (hgood w hw) (hat w hw)
  have hU' : vx_Zq Bundle.tN "UNASSIGNED_STACK" Bundle.steD A ((T.setVm s.vm).setFrames (.invoking m args :: below)) ((T.setVm s.vm).setFrames (.invoking m args :: below)).heap := by rw [hhp]; exact vx_Zq.moved hW0.alike (hU.kept hS.2.1)
  have hN' : vx_Zq Bundle.tN "SUPPRESSED_SENTINEL" Bundle.listD A ((T.setVm s.vm).setFrames (.invoking m args :: below)) ((T.setVm s.vm).setFrames (.invoking m args :: below)).heap := by rw [hhp]; exact vx_Zq.moved hW0.alike (hN.kept hS.2.1)
  obtain ⟨S, q, ce, st, Z, hce, hcl', hv⟩ := vx_npeAt Y hexec htr (n := nb) (vx_own hat' (vx_isRefq hU'.1) (vx_isRefq hN'.1) hU'.2.word hN'.2.word) (fun x hx => nomatch hx)
    (g := F0 m pc ls rest) rfl hsize hRframes (by show 2 * 0 + (rest.map fun v => v.category).sum + 10240 ≤ R.locals; omega) (by show 0 + 1 ≤ 1; omega) (by show 0 + nb ≤ nb; omega) hlocks
  obtain ⟨f1, f2⟩ := vx_frame Z.same
  have f1' : H.size ≤ S.heap.size := by rw [← hT]; exact f1
  have f2' : ∀ q : Nat, q < H.size → S.heap[q]? = H[q]? := fun q hq => by
    rw [← hT]
    exact f2 q (by rw [← hT] at hq; exact hq) (fun z hz => nomatch hz)
  have X5 := vx_back9 X Y Z
  have X6 : Stand p l e R s m args below meth c S locs (cells + 1) (slots + nb) := { X5 with same := X5.same.mono (by omega) (by omega) }
  obtain ⟨t, a1, b1⟩ := k S.heap q ce f1' f2' ⟨Nat.le_trans hS.1 f1', fun q h1 h2 => (f2' q (Nat.lt_of_lt_of_le h1 hS.1)).trans (hS.2.1 q h1 h2), hS.2.2⟩ hce hv hcl' S rfl X6
  exact ⟨t, st t a1, b1⟩
variable {Q : State → Prop} {cc : ByteArray} {pc : Nat} {ls : Array Slot} {rest : List Value}
theorem vx_idivZ (hexec : p.tables.exec = Jvm.exec) (hb : c.code = cc) {a b : Int32} (h0 : b = 0) (d : decode cc pc = .ok (.idiv, 1)) (k : vx_Note p l e R s m args below meth c H locs cells slots Q (F0 m pc ls rest) "java/lang/ArithmeticException" "/ by zero") :
    W p l e R s m args below meth c H locs cells slots Q (F0 m pc ls (.int b :: .int a :: rest)) := by
  intro T hT X
  obtain ⟨t, st, q⟩ := k T hT X
  exact ⟨t, X.idivZero hexec (g := F0 m pc ls (.int b :: .int a :: rest)) rfl (a := a) (rest := rest) (by rw [h0]) (by rw [hb]; exact d) t st, q⟩
theorem vx_iremZ (hexec : p.tables.exec = Jvm.exec) (hb : c.code = cc) {a b : Int32} (h0 : b = 0) (d : decode cc pc = .ok (.irem, 1)) (k : vx_Note p l e R s m args below meth c H locs cells slots Q (F0 m pc ls rest) "java/lang/ArithmeticException" "/ by zero") :
    W p l e R s m args below meth c H locs cells slots Q (F0 m pc ls (.int b :: .int a :: rest)) := by
  intro T hT X
  obtain ⟨t, st, q⟩ := k T hT X
  exact ⟨t, X.iremZero hexec (g := F0 m pc ls (.int b :: .int a :: rest)) rfl (a := a) (rest := rest) (by rw [h0]) (by rw [hb]; exact d) t st, q⟩
theorem vx_ldivZ (hexec : p.tables.exec = Jvm.exec) (hb : c.code = cc) {a b : Int64} (h0 : b = 0) (d : decode cc pc = .ok (.ldiv, 1)) (k : vx_Note p l e R s m args below meth c H locs cells slots Q (F0 m pc ls rest) "java/lang/ArithmeticException" "/ by zero") :
    W p l e R s m args below meth c H locs cells slots Q (F0 m pc ls (.long b :: .long a :: rest)) := by
  intro T hT X
  obtain ⟨t, st, q⟩ := k T hT X
  exact ⟨t, X.ldivZero hexec (g := F0 m pc ls (.long b :: .long a :: rest)) rfl (a := a) (rest := rest) (by rw [h0]) (by rw [hb]; exact d) t st, q⟩
theorem vx_lremZ (hexec : p.tables.exec = Jvm.exec) (hb : c.code = cc) {a b : Int64} (h0 : b = 0) (d : decode cc pc = .ok (.lrem, 1)) (k : vx_Note p l e R s m args below meth c H locs cells slots Q (F0 m pc ls rest) "java/lang/ArithmeticException" "/ by zero") :
    W p l e R s m args below meth c H locs cells slots Q (F0 m pc ls (.long b :: .long a :: rest)) := by
  intro T hT X
  obtain ⟨t, st, q⟩ := k T hT X
  exact ⟨t, X.lremZero hexec (g := F0 m pc ls (.long b :: .long a :: rest)) rfl (a := a) (rest := rest) (by rw [h0]) (by rw [hb]; exact d) t st, q⟩
theorem vx_ialdZ {D : va_G} {cl : List vw_C} {ws : va_W} {tys : List (ClassId × FieldType)} {a : Nat} (hexec : p.tables.exec = Jvm.exec) (hb : c.code = cc) (hK : va_K D cl tys s) (hP : va_P D cl ws H) (q0 t0 : Nat) {cA : ClassId} {n : Nat} {f : Nat → Int32} (ha : ws[q0]? = some (a, .inl (cA, n, .inl f))) (ht : tys[t0]? = some (cA, .int)) {i : Int32} (hout : ¬ vp_in i n) (hdg : decode cc pc = .ok (.iaload, 1))
    (k : ∀ tx : String, tx = (toString "Index " ++ toString i ++ toString " out of bounds for length " ++ toString n : String) → vx_Note p l e R s m args below meth c H locs cells slots Q (F0 m pc ls rest) "java/lang/ArrayIndexOutOfBoundsException" tx) : W p l e R s m args below meth c H locs cells slots Q (F0 m pc ls (.int i :: .ref a :: rest)) := by
  intro T hT X
  obtain ⟨t, st, q⟩ := k _ rfl T hT X
  refine ⟨t, ?_, q⟩
  have h1 := X.ialoadOut hexec (by rw [hT]; exact hP q0 _ ha) ((hK.2 t0 _ ht).1 n (fun j => .int (f j))) (j := i) (by show (i < 0 ∨ (arrV _ _ _).slots.size ≤ _); rw [arrV_size]; exact Classical.byContradiction hout) (g := F0 m pc ls (.int i :: .ref a :: rest)) rfl (rest := rest) rfl (by rw [hb]; exact hdg) t
  simp only [arrV_size] at h1
  exact h1 st
theorem vx_iastZ {D : va_G} {cl : List vw_C} {ws : va_W} {tys : List (ClassId × FieldType)} {a : Nat} (hexec : p.tables.exec = Jvm.exec) (hb : c.code = cc) (hK : va_K D cl tys s) (hP : va_P D cl ws H) (q0 t0 : Nat) {cA : ClassId} {n : Nat} {f : Nat → Int32} (ha : ws[q0]? = some (a, .inl (cA, n, .inl f))) (ht : tys[t0]? = some (cA, .int)) {i : Int32} {x : Int32} (hout : ¬ vp_in i n) (hdg : decode cc pc = .ok (.iastore, 1))
    (k : ∀ tx : String, tx = (toString "Index " ++ toString i ++ toString " out of bounds for length " ++ toString n : String) → vx_Note p l e R s m args below meth c H locs cells slots Q (F0 m pc ls rest) "java/lang/ArrayIndexOutOfBoundsException" tx) : W p l e R s m args below meth c H locs cells slots Q (F0 m pc ls (.int x :: .int i :: .ref a :: rest)) := by
  intro T hT X
  obtain ⟨t, st, q⟩ := k _ rfl T hT X
  refine ⟨t, ?_, q⟩
  have h1 := X.iastoreOut hexec (by rw [hT]; exact hP q0 _ ha) ((hK.2 t0 _ ht).1 n (fun j => .int (f j))) (j := i) (by show (i < 0 ∨ (arrV _ _ _).slots.size ≤ _); rw [arrV_size]; exact Classical.byContradiction hout) (g := F0 m pc ls (.int x :: .int i :: .ref a :: rest)) rfl (rest := rest) rfl (by rw [hb]; exact hdg) t
  simp only [arrV_size] at h1
  exact h1 st
theorem vx_baldZ {D : va_G} {cl : List vw_C} {ws : va_W} {tys : List (ClassId × FieldType)} {a : Nat} (hexec : p.tables.exec = Jvm.exec) (hb : c.code = cc) (hK : va_K D cl tys s) (hP : va_P D cl ws H) (q0 t0 : Nat) {cA : ClassId} {n : Nat} {f : Nat → Int32} (ha : ws[q0]? = some (a, .inl (cA, n, .inl f))) (ht : tys[t0]? = some (cA, .byte)) {i : Int32} (hout : ¬ vp_in i n) (hdg : decode cc pc = .ok (.baload, 1))
    (k : ∀ tx : String, tx = (toString "Index " ++ toString i ++ toString " out of bounds for length " ++ toString n : String) → vx_Note p l e R s m args below meth c H locs cells slots Q (F0 m pc ls rest) "java/lang/ArrayIndexOutOfBoundsException" tx) : W p l e R s m args below meth c H locs cells slots Q (F0 m pc ls (.int i :: .ref a :: rest)) := by
  intro T hT X
  obtain ⟨t, st, q⟩ := k _ rfl T hT X
  refine ⟨t, ?_, q⟩
  have h1 := X.baloadOut hexec (by rw [hT]; exact hP q0 _ ha) ((hK.2 t0 _ ht).1 n (fun j => .int (f j))) (j := i) (by show (i < 0 ∨ (arrV _ _ _).slots.size ≤ _); rw [arrV_size]; exact Classical.byContradiction hout) (g := F0 m pc ls (.int i :: .ref a :: rest)) rfl (rest := rest) rfl (by rw [hb]; exact hdg) t
  simp only [arrV_size] at h1
  exact h1 st
theorem vx_bastZ {D : va_G} {cl : List vw_C} {ws : va_W} {tys : List (ClassId × FieldType)} {a : Nat} (hexec : p.tables.exec = Jvm.exec) (hb : c.code = cc) (hK : va_K D cl tys s) (hP : va_P D cl ws H) (q0 t0 : Nat) {cA : ClassId} {n : Nat} {f : Nat → Int32} (ha : ws[q0]? = some (a, .inl (cA, n, .inl f))) (ht : tys[t0]? = some (cA, .byte)) {i : Int32} {x : Int32} (hout : ¬ vp_in i n) (hdg : decode cc pc = .ok (.bastore, 1))
    (k : ∀ tx : String, tx = (toString "Index " ++ toString i ++ toString " out of bounds for length " ++ toString n : String) → vx_Note p l e R s m args below meth c H locs cells slots Q (F0 m pc ls rest) "java/lang/ArrayIndexOutOfBoundsException" tx) : W p l e R s m args below meth c H locs cells slots Q (F0 m pc ls (.int x :: .int i :: .ref a :: rest)) := by
  intro T hT X
  obtain ⟨t, st, q⟩ := k _ rfl T hT X
  refine ⟨t, ?_, q⟩
  have h1 := X.bastoreOut hexec (by rw [hT]; exact hP q0 _ ha) ((hK.2 t0 _ ht).1 n (fun j => .int (f j))) (j := i) (by show (i < 0 ∨ (arrV _ _ _).slots.size ≤ _); rw [arrV_size]; exact Classical.byContradiction hout) (g := F0 m pc ls (.int x :: .int i :: .ref a :: rest)) rfl (rest := rest) rfl (by rw [hb]; exact hdg) t
  simp only [arrV_size] at h1
  exact h1 st
theorem vx_zaldZ {D : va_G} {cl : List vw_C} {ws : va_W} {tys : List (ClassId × FieldType)} {a : Nat} (hexec : p.tables.exec = Jvm.exec) (hb : c.code = cc) (hK : va_K D cl tys s) (hP : va_P D cl ws H) (q0 t0 : Nat) {cA : ClassId} {n : Nat} {f : Nat → Int32} (ha : ws[q0]? = some (a, .inl (cA, n, .inl f))) (ht : tys[t0]? = some (cA, .boolean)) {i : Int32} (hout : ¬ vp_in i n) (hdg : decode cc pc = .ok (.baload, 1))
    (k : ∀ tx : String, tx = (toString "Index " ++ toString i ++ toString " out of bounds for length " ++ toString n : String) → vx_Note p l e R s m args below meth c H locs cells slots Q (F0 m pc ls rest) "java/lang/ArrayIndexOutOfBoundsException" tx) : W p l e R s m args below meth c H locs cells slots Q (F0 m pc ls (.int i :: .ref a :: rest)) := by
  intro T hT X
  obtain ⟨t, st, q⟩ := k _ rfl T hT X
  refine ⟨t, ?_, q⟩
  have h1 := X.baloadOut hexec (by rw [hT]; exact hP q0 _ ha) ((hK.2 t0 _ ht).1 n (fun j => .int (f j))) (j := i) (by show (i < 0 ∨ (arrV _ _ _).slots.size ≤ _); rw [arrV_size]; exact Classical.byContradiction hout) (g := F0 m pc ls (.int i :: .ref a :: rest)) rfl (rest := rest) rfl (by rw [hb]; exact hdg) t
  simp only [arrV_size] at h1
  exact h1 st
theorem vx_zastZ {D : va_G} {cl : List vw_C} {ws : va_W} {tys : List (ClassId × FieldType)} {a : Nat} (hexec : p.tables.exec = Jvm.exec) (hb : c.code = cc) (hK : va_K D cl tys s) (hP : va_P D cl ws H) (q0 t0 : Nat) {cA : ClassId} {n : Nat} {f : Nat → Int32} (ha : ws[q0]? = some (a, .inl (cA, n, .inl f))) (ht : tys[t0]? = some (cA, .boolean)) {i : Int32} {x : Int32} (hout : ¬ vp_in i n) (hdg : decode cc pc = .ok (.bastore, 1))
    (k : ∀ tx : String, tx = (toString "Index " ++ toString i ++ toString " out of bounds for length " ++ toString n : String) → vx_Note p l e R s m args below meth c H locs cells slots Q (F0 m pc ls rest) "java/lang/ArrayIndexOutOfBoundsException" tx) : W p l e R s m args below meth c H locs cells slots Q (F0 m pc ls (.int x :: .int i :: .ref a :: rest)) := by
  intro T hT X
  obtain ⟨t, st, q⟩ := k _ rfl T hT X
  refine ⟨t, ?_, q⟩
  have h1 := X.bastoreOut hexec (by rw [hT]; exact hP q0 _ ha) ((hK.2 t0 _ ht).1 n (fun j => .int (f j))) (j := i) (by show (i < 0 ∨ (arrV _ _ _).slots.size ≤ _); rw [arrV_size]; exact Classical.byContradiction hout) (g := F0 m pc ls (.int x :: .int i :: .ref a :: rest)) rfl (rest := rest) rfl (by rw [hb]; exact hdg) t
  simp only [arrV_size] at h1
  exact h1 st
theorem vx_caldZ {D : va_G} {cl : List vw_C} {ws : va_W} {tys : List (ClassId × FieldType)} {a : Nat} (hexec : p.tables.exec = Jvm.exec) (hb : c.code = cc) (hK : va_K D cl tys s) (hP : va_P D cl ws H) (q0 t0 : Nat) {cA : ClassId} {n : Nat} {f : Nat → Int32} (ha : ws[q0]? = some (a, .inl (cA, n, .inl f))) (ht : tys[t0]? = some (cA, .char)) {i : Int32} (hout : ¬ vp_in i n) (hdg : decode cc pc = .ok (.caload, 1))
    (k : ∀ tx : String, tx = (toString "Index " ++ toString i ++ toString " out of bounds for length " ++ toString n : String) → vx_Note p l e R s m args below meth c H locs cells slots Q (F0 m pc ls rest) "java/lang/ArrayIndexOutOfBoundsException" tx) : W p l e R s m args below meth c H locs cells slots Q (F0 m pc ls (.int i :: .ref a :: rest)) := by
  intro T hT X
  obtain ⟨t, st, q⟩ := k _ rfl T hT X
  refine ⟨t, ?_, q⟩
  have h1 := X.caloadOut hexec (by rw [hT]; exact hP q0 _ ha) ((hK.2 t0 _ ht).1 n (fun j => .int (f j))) (j := i) (by show (i < 0 ∨ (arrV _ _ _).slots.size ≤ _); rw [arrV_size]; exact Classical.byContradiction hout) (g := F0 m pc ls (.int i :: .ref a :: rest)) rfl (rest := rest) rfl (by rw [hb]; exact hdg) t
  simp only [arrV_size] at h1
  exact h1 st
theorem vx_castZ {D : va_G} {cl : List vw_C} {ws : va_W} {tys : List (ClassId × FieldType)} {a : Nat} (hexec : p.tables.exec = Jvm.exec) (hb : c.code = cc) (hK : va_K D cl tys s) (hP : va_P D cl ws H) (q0 t0 : Nat) {cA : ClassId} {n : Nat} {f : Nat → Int32} (ha : ws[q0]? = some (a, .inl (cA, n, .inl f))) (ht : tys[t0]? = some (cA, .char)) {i : Int32} {x : Int32} (hout : ¬ vp_in i n) (hdg : decode cc pc = .ok (.castore, 1))
    (k : ∀ tx : String, tx = (toString "Index " ++ toString i ++ toString " out of bounds for length " ++ toString n : String) → vx_Note p l e R s m args below meth c H locs cells slots Q (F0 m pc ls rest) "java/lang/ArrayIndexOutOfBoundsException" tx) : W p l e R s m args below meth c H locs cells slots Q (F0 m pc ls (.int x :: .int i :: .ref a :: rest)) := by
  intro T hT X
  obtain ⟨t, st, q⟩ := k _ rfl T hT X
  refine ⟨t, ?_, q⟩
  have h1 := X.castoreOut hexec (by rw [hT]; exact hP q0 _ ha) ((hK.2 t0 _ ht).1 n (fun j => .int (f j))) (j := i) (by show (i < 0 ∨ (arrV _ _ _).slots.size ≤ _); rw [arrV_size]; exact Classical.byContradiction hout) (g := F0 m pc ls (.int x :: .int i :: .ref a :: rest)) rfl (rest := rest) rfl (by rw [hb]; exact hdg) t
  simp only [arrV_size] at h1
  exact h1 st
theorem vx_saldZ {D : va_G} {cl : List vw_C} {ws : va_W} {tys : List (ClassId × FieldType)} {a : Nat} (hexec : p.tables.exec = Jvm.exec) (hb : c.code = cc) (hK : va_K D cl tys s) (hP : va_P D cl ws H) (q0 t0 : Nat) {cA : ClassId} {n : Nat} {f : Nat → Int32} (ha : ws[q0]? = some (a, .inl (cA, n, .inl f))) (ht : tys[t0]? = some (cA, .short)) {i : Int32} (hout : ¬ vp_in i n) (hdg : decode cc pc = .ok (.saload, 1))
    (k : ∀ tx : String, tx = (toString "Index " ++ toString i ++ toString " out of bounds for length " ++ toString n : String) → vx_Note p l e R s m args below meth c H locs cells slots Q (F0 m pc ls rest) "java/lang/ArrayIndexOutOfBoundsException" tx) : W p l e R s m args below meth c H locs cells slots Q (F0 m pc ls (.int i :: .ref a :: rest)) := by
  intro T hT X
  obtain ⟨t, st, q⟩ := k _ rfl T hT X
  refine ⟨t, ?_, q⟩
  have h1 := X.saloadOut hexec (by rw [hT]; exact hP q0 _ ha) ((hK.2 t0 _ ht).1 n (fun j => .int (f j))) (j := i) (by show (i < 0 ∨ (arrV _ _ _).slots.size ≤ _); rw [arrV_size]; exact Classical.byContradiction hout) (g := F0 m pc ls (.int i :: .ref a :: rest)) rfl (rest := rest) rfl (by rw [hb]; exact hdg) t
  simp only [arrV_size] at h1
  exact h1 st
theorem vx_sastZ {D : va_G} {cl : List vw_C} {ws : va_W} {tys : List (ClassId × FieldType)} {a : Nat} (hexec : p.tables.exec = Jvm.exec) (hb : c.code = cc) (hK : va_K D cl tys s) (hP : va_P D cl ws H) (q0 t0 : Nat) {cA : ClassId} {n : Nat} {f : Nat → Int32} (ha : ws[q0]? = some (a, .inl (cA, n, .inl f))) (ht : tys[t0]? = some (cA, .short)) {i : Int32} {x : Int32} (hout : ¬ vp_in i n) (hdg : decode cc pc = .ok (.sastore, 1))
    (k : ∀ tx : String, tx = (toString "Index " ++ toString i ++ toString " out of bounds for length " ++ toString n : String) → vx_Note p l e R s m args below meth c H locs cells slots Q (F0 m pc ls rest) "java/lang/ArrayIndexOutOfBoundsException" tx) : W p l e R s m args below meth c H locs cells slots Q (F0 m pc ls (.int x :: .int i :: .ref a :: rest)) := by
  intro T hT X
  obtain ⟨t, st, q⟩ := k _ rfl T hT X
  refine ⟨t, ?_, q⟩
  have h1 := X.sastoreOut hexec (by rw [hT]; exact hP q0 _ ha) ((hK.2 t0 _ ht).1 n (fun j => .int (f j))) (j := i) (by show (i < 0 ∨ (arrV _ _ _).slots.size ≤ _); rw [arrV_size]; exact Classical.byContradiction hout) (g := F0 m pc ls (.int x :: .int i :: .ref a :: rest)) rfl (rest := rest) rfl (by rw [hb]; exact hdg) t
  simp only [arrV_size] at h1
  exact h1 st
theorem vx_laldZ {D : va_G} {cl : List vw_C} {ws : va_W} {tys : List (ClassId × FieldType)} {a : Nat} (hexec : p.tables.exec = Jvm.exec) (hb : c.code = cc) (hK : va_K D cl tys s) (hP : va_P D cl ws H) (q0 t0 : Nat) {cA : ClassId} {n : Nat} {f : Nat → Int64} (ha : ws[q0]? = some (a, .inl (cA, n, .inr (.inl f)))) (ht : tys[t0]? = some (cA, .long)) {i : Int32} (hout : ¬ vp_in i n) (hdg : decode cc pc = .ok (.laload, 1))
    (k : ∀ tx : String, tx = (toString "Index " ++ toString i ++ toString " out of bounds for length " ++ toString n : String) → vx_Note p l e R s m args below meth c H locs cells slots Q (F0 m pc ls rest) "java/lang/ArrayIndexOutOfBoundsException" tx) : W p l e R s m args below meth c H locs cells slots Q (F0 m pc ls (.int i :: .ref a :: rest)) := by
  intro T hT X
  obtain ⟨t, st, q⟩ := k _ rfl T hT X
  refine ⟨t, ?_, q⟩
  have h1 := X.laloadOut hexec (by rw [hT]; exact hP q0 _ ha) ((hK.2 t0 _ ht).1 n (fun j => .long (f j))) (j := i) (by show (i < 0 ∨ (arrV _ _ _).slots.size ≤ _); rw [arrV_size]; exact Classical.byContradiction hout) (g := F0 m pc ls (.int i :: .ref a :: rest)) rfl (rest := rest) rfl (by rw [hb]; exact hdg) t
  simp only [arrV_size] at h1
  exact h1 st
theorem vx_lastZ {D : va_G} {cl : List vw_C} {ws : va_W} {tys : List (ClassId × FieldType)} {a : Nat} (hexec : p.tables.exec = Jvm.exec) (hb : c.code = cc) (hK : va_K D cl tys s) (hP : va_P D cl ws H) (q0 t0 : Nat) {cA : ClassId} {n : Nat} {f : Nat → Int64} (ha : ws[q0]? = some (a, .inl (cA, n, .inr (.inl f)))) (ht : tys[t0]? = some (cA, .long)) {i : Int32} {x : Int64} (hout : ¬ vp_in i n) (hdg : decode cc pc = .ok (.lastore, 1))
    (k : ∀ tx : String, tx = (toString "Index " ++ toString i ++ toString " out of bounds for length " ++ toString n : String) → vx_Note p l e R s m args below meth c H locs cells slots Q (F0 m pc ls rest) "java/lang/ArrayIndexOutOfBoundsException" tx) : W p l e R s m args below meth c H locs cells slots Q (F0 m pc ls (.long x :: .int i :: .ref a :: rest)) := by
  intro T hT X
  obtain ⟨t, st, q⟩ := k _ rfl T hT X
  refine ⟨t, ?_, q⟩
  have h1 := X.lastoreOut hexec (by rw [hT]; exact hP q0 _ ha) ((hK.2 t0 _ ht).1 n (fun j => .long (f j))) (j := i) (by show (i < 0 ∨ (arrV _ _ _).slots.size ≤ _); rw [arrV_size]; exact Classical.byContradiction hout) (g := F0 m pc ls (.long x :: .int i :: .ref a :: rest)) rfl (rest := rest) rfl (by rw [hb]; exact hdg) t
  simp only [arrV_size] at h1
  exact h1 st
theorem vx_faldZ {D : va_G} {cl : List vw_C} {ws : va_W} {tys : List (ClassId × FieldType)} {a : Nat} (hexec : p.tables.exec = Jvm.exec) (hb : c.code = cc) (hK : va_K D cl tys s) (hP : va_P D cl ws H) (q0 t0 : Nat) {cA : ClassId} {n : Nat} {f : Nat → UInt32} (ha : ws[q0]? = some (a, .inl (cA, n, .inr (.inr (.inl f))))) (ht : tys[t0]? = some (cA, .float)) {i : Int32} (hout : ¬ vp_in i n) (hdg : decode cc pc = .ok (.faload, 1))
    (k : ∀ tx : String, tx = (toString "Index " ++ toString i ++ toString " out of bounds for length " ++ toString n : String) → vx_Note p l e R s m args below meth c H locs cells slots Q (F0 m pc ls rest) "java/lang/ArrayIndexOutOfBoundsException" tx) : W p l e R s m args below meth c H locs cells slots Q (F0 m pc ls (.int i :: .ref a :: rest)) := by
  intro T hT X
  obtain ⟨t, st, q⟩ := k _ rfl T hT X
  refine ⟨t, ?_, q⟩
  have h1 := X.faloadOut hexec (by rw [hT]; exact hP q0 _ ha) ((hK.2 t0 _ ht).1 n (fun j => .float (f j))) (j := i) (by show (i < 0 ∨ (arrV _ _ _).slots.size ≤ _); rw [arrV_size]; exact Classical.byContradiction hout) (g := F0 m pc ls (.int i :: .ref a :: rest)) rfl (rest := rest) rfl (by rw [hb]; exact hdg) t
  simp only [arrV_size] at h1
  exact h1 st
theorem vx_fastZ {D : va_G} {cl : List vw_C} {ws : va_W} {tys : List (ClassId × FieldType)} {a : Nat} (hexec : p.tables.exec = Jvm.exec) (hb : c.code = cc) (hK : va_K D cl tys s) (hP : va_P D cl ws H) (q0 t0 : Nat) {cA : ClassId} {n : Nat} {f : Nat → UInt32} (ha : ws[q0]? = some (a, .inl (cA, n, .inr (.inr (.inl f))))) (ht : tys[t0]? = some (cA, .float)) {i : Int32} {x : UInt32} (hout : ¬ vp_in i n) (hdg : decode cc pc = .ok (.fastore, 1))
    (k : ∀ tx : String, tx = (toString "Index " ++ toString i ++ toString " out of bounds for length " ++ toString n : String) → vx_Note p l e R s m args below meth c H locs cells slots Q (F0 m pc ls rest) "java/lang/ArrayIndexOutOfBoundsException" tx) : W p l e R s m args below meth c H locs cells slots Q (F0 m pc ls (.float x :: .int i :: .ref a :: rest)) := by
  intro T hT X
  obtain ⟨t, st, q⟩ := k _ rfl T hT X
  refine ⟨t, ?_, q⟩
  have h1 := X.fastoreOut hexec (by rw [hT]; exact hP q0 _ ha) ((hK.2 t0 _ ht).1 n (fun j => .float (f j))) (j := i) (by show (i < 0 ∨ (arrV _ _ _).slots.size ≤ _); rw [arrV_size]; exact Classical.byContradiction hout) (g := F0 m pc ls (.float x :: .int i :: .ref a :: rest)) rfl (rest := rest) rfl (by rw [hb]; exact hdg) t
  simp only [arrV_size] at h1
  exact h1 st
theorem vx_daldZ {D : va_G} {cl : List vw_C} {ws : va_W} {tys : List (ClassId × FieldType)} {a : Nat} (hexec : p.tables.exec = Jvm.exec) (hb : c.code = cc) (hK : va_K D cl tys s) (hP : va_P D cl ws H) (q0 t0 : Nat) {cA : ClassId} {n : Nat} {f : Nat → UInt64} (ha : ws[q0]? = some (a, .inl (cA, n, .inr (.inr (.inr (.inl f)))))) (ht : tys[t0]? = some (cA, .double)) {i : Int32} (hout : ¬ vp_in i n) (hdg : decode cc pc = .ok (.daload, 1))
    (k : ∀ tx : String, tx = (toString "Index " ++ toString i ++ toString " out of bounds for length " ++ toString n : String) → vx_Note p l e R s m args below meth c H locs cells slots Q (F0 m pc ls rest) "java/lang/ArrayIndexOutOfBoundsException" tx) : W p l e R s m args below meth c H locs cells slots Q (F0 m pc ls (.int i :: .ref a :: rest)) := by
  intro T hT X
  obtain ⟨t, st, q⟩ := k _ rfl T hT X
  refine ⟨t, ?_, q⟩
  have h1 := X.daloadOut hexec (by rw [hT]; exact hP q0 _ ha) ((hK.2 t0 _ ht).1 n (fun j => .double (f j))) (j := i) (by show (i < 0 ∨ (arrV _ _ _).slots.size ≤ _); rw [arrV_size]; exact Classical.byContradiction hout) (g := F0 m pc ls (.int i :: .ref a :: rest)) rfl (rest := rest) rfl (by rw [hb]; exact hdg) t
  simp only [arrV_size] at h1
  exact h1 st
theorem vx_dastZ {D : va_G} {cl : List vw_C} {ws : va_W} {tys : List (ClassId × FieldType)} {a : Nat} (hexec : p.tables.exec = Jvm.exec) (hb : c.code = cc) (hK : va_K D cl tys s) (hP : va_P D cl ws H) (q0 t0 : Nat) {cA : ClassId} {n : Nat} {f : Nat → UInt64} (ha : ws[q0]? = some (a, .inl (cA, n, .inr (.inr (.inr (.inl f)))))) (ht : tys[t0]? = some (cA, .double)) {i : Int32} {x : UInt64} (hout : ¬ vp_in i n) (hdg : decode cc pc = .ok (.dastore, 1))
    (k : ∀ tx : String, tx = (toString "Index " ++ toString i ++ toString " out of bounds for length " ++ toString n : String) → vx_Note p l e R s m args below meth c H locs cells slots Q (F0 m pc ls rest) "java/lang/ArrayIndexOutOfBoundsException" tx) : W p l e R s m args below meth c H locs cells slots Q (F0 m pc ls (.double x :: .int i :: .ref a :: rest)) := by
  intro T hT X
  obtain ⟨t, st, q⟩ := k _ rfl T hT X
  refine ⟨t, ?_, q⟩
  have h1 := X.dastoreOut hexec (by rw [hT]; exact hP q0 _ ha) ((hK.2 t0 _ ht).1 n (fun j => .double (f j))) (j := i) (by show (i < 0 ∨ (arrV _ _ _).slots.size ≤ _); rw [arrV_size]; exact Classical.byContradiction hout) (g := F0 m pc ls (.double x :: .int i :: .ref a :: rest)) rfl (rest := rest) rfl (by rw [hb]; exact hdg) t
  simp only [arrV_size] at h1
  exact h1 st
theorem vx_arraylengthN (hexec : p.tables.exec = Jvm.exec) (hb : c.code = cc) (hdg : decode cc pc = .ok (.arraylength, 1)) (k : vx_NoteN p l e R s m args below meth c H locs cells slots Q (F0 m pc ls rest)) : W p l e R s m args below meth c H locs cells slots Q (F0 m pc ls (.null :: rest)) := by
  intro T hT X
  obtain ⟨t, st, q⟩ := k T hT X
  exact ⟨t, X.arraylengthNull hexec (g := F0 m pc ls (.null :: rest)) rfl (rest := rest) rfl (by rw [hb]; exact hdg) t st, q⟩
theorem vx_ialoadN (hexec : p.tables.exec = Jvm.exec) (hb : c.code = cc) {i : Int32} (hdg : decode cc pc = .ok (.iaload, 1)) (k : vx_NoteN p l e R s m args below meth c H locs cells slots Q (F0 m pc ls rest)) : W p l e R s m args below meth c H locs cells slots Q (F0 m pc ls (.int i :: .null :: rest)) := by
  intro T hT X
  obtain ⟨t, st, q⟩ := k T hT X
  exact ⟨t, X.ialoadNull hexec (g := F0 m pc ls (.int i :: .null :: rest)) rfl (rest := rest) rfl (by rw [hb]; exact hdg) t st, q⟩
theorem vx_laloadN (hexec : p.tables.exec = Jvm.exec) (hb : c.code = cc) {i : Int32} (hdg : decode cc pc = .ok (.laload, 1)) (k : vx_NoteN p l e R s m args below meth c H locs cells slots Q (F0 m pc ls rest)) : W p l e R s m args below meth c H locs cells slots Q (F0 m pc ls (.int i :: .null :: rest)) := by
  intro T hT X
  obtain ⟨t, st, q⟩ := k T hT X
  exact ⟨t, X.laloadNull hexec (g := F0 m pc ls (.int i :: .null :: rest)) rfl (rest := rest) rfl (by rw [hb]; exact hdg) t st, q⟩
theorem vx_faloadN (hexec : p.tables.exec = Jvm.exec) (hb : c.code = cc) {i : Int32} (hdg : decode cc pc = .ok (.faload, 1)) (k : vx_NoteN p l e R s m args below meth c H locs cells slots Q (F0 m pc ls rest)) : W p l e R s m args below meth c H locs cells slots Q (F0 m pc ls (.int i :: .null :: rest)) := by
  intro T hT X
  obtain ⟨t, st, q⟩ := k T hT X
  exact ⟨t, X.faloadNull hexec (g := F0 m pc ls (.int i :: .null :: rest)) rfl (rest := rest) rfl (by rw [hb]; exact hdg) t st, q⟩
theorem vx_daloadN (hexec : p.tables.exec = Jvm.exec) (hb : c.code = cc) {i : Int32} (hdg : decode cc pc = .ok (.daload, 1)) (k : vx_NoteN p l e R s m args below meth c H locs cells slots Q (F0 m pc ls rest)) : W p l e R s m args below meth c H locs cells slots Q (F0 m pc ls (.int i :: .null :: rest)) := by
  intro T hT X
  obtain ⟨t, st, q⟩ := k T hT X
  exact ⟨t, X.daloadNull hexec (g := F0 m pc ls (.int i :: .null :: rest)) rfl (rest := rest) rfl (by rw [hb]; exact hdg) t st, q⟩
theorem vx_aaloadN (hexec : p.tables.exec = Jvm.exec) (hb : c.code = cc) {i : Int32} (hdg : decode cc pc = .ok (.aaload, 1)) (k : vx_NoteN p l e R s m args below meth c H locs cells slots Q (F0 m pc ls rest)) : W p l e R s m args below meth c H locs cells slots Q (F0 m pc ls (.int i :: .null :: rest)) := by
  intro T hT X
  obtain ⟨t, st, q⟩ := k T hT X
  exact ⟨t, X.aaloadNull hexec (g := F0 m pc ls (.int i :: .null :: rest)) rfl (rest := rest) rfl (by rw [hb]; exact hdg) t st, q⟩
theorem vx_baloadN (hexec : p.tables.exec = Jvm.exec) (hb : c.code = cc) {i : Int32} (hdg : decode cc pc = .ok (.baload, 1)) (k : vx_NoteN p l e R s m args below meth c H locs cells slots Q (F0 m pc ls rest)) : W p l e R s m args below meth c H locs cells slots Q (F0 m pc ls (.int i :: .null :: rest)) := by
  intro T hT X
  obtain ⟨t, st, q⟩ := k T hT X
  exact ⟨t, X.baloadNull hexec (g := F0 m pc ls (.int i :: .null :: rest)) rfl (rest := rest) rfl (by rw [hb]; exact hdg) t st, q⟩
theorem vx_caloadN (hexec : p.tables.exec = Jvm.exec) (hb : c.code = cc) {i : Int32} (hdg : decode cc pc = .ok (.caload, 1)) (k : vx_NoteN p l e R s m args below meth c H locs cells slots Q (F0 m pc ls rest)) : W p l e R s m args below meth c H locs cells slots Q (F0 m pc ls (.int i :: .null :: rest)) := by
  intro T hT X
  obtain ⟨t, st, q⟩ := k T hT X
  exact ⟨t, X.caloadNull hexec (g := F0 m pc ls (.int i :: .null :: rest)) rfl (rest := rest) rfl (by rw [hb]; exact hdg) t st, q⟩
theorem vx_saloadN (hexec : p.tables.exec = Jvm.exec) (hb : c.code = cc) {i : Int32} (hdg : decode cc pc = .ok (.saload, 1)) (k : vx_NoteN p l e R s m args below meth c H locs cells slots Q (F0 m pc ls rest)) : W p l e R s m args below meth c H locs cells slots Q (F0 m pc ls (.int i :: .null :: rest)) := by
  intro T hT X
  obtain ⟨t, st, q⟩ := k T hT X
  exact ⟨t, X.saloadNull hexec (g := F0 m pc ls (.int i :: .null :: rest)) rfl (rest := rest) rfl (by rw [hb]; exact hdg) t st, q⟩
theorem vx_iastoreN (hexec : p.tables.exec = Jvm.exec) (hb : c.code = cc) {x : Int32} {i : Int32} (hdg : decode cc pc = .ok (.iastore, 1)) (k : vx_NoteN p l e R s m args below meth c H locs cells slots Q (F0 m pc ls rest)) : W p l e R s m args below meth c H locs cells slots Q (F0 m pc ls (.int x :: .int i :: .null :: rest)) := by
  intro T hT X
  obtain ⟨t, st, q⟩ := k T hT X
  exact ⟨t, X.iastoreNull hexec (g := F0 m pc ls (.int x :: .int i :: .null :: rest)) rfl (rest := rest) rfl (by rw [hb]; exact hdg) t st, q⟩
theorem vx_lastoreN (hexec : p.tables.exec = Jvm.exec) (hb : c.code = cc) {x : Int64} {i : Int32} (hdg : decode cc pc = .ok (.lastore, 1)) (k : vx_NoteN p l e R s m args below meth c H locs cells slots Q (F0 m pc ls rest)) : W p l e R s m args below meth c H locs cells slots Q (F0 m pc ls (.long x :: .int i :: .null :: rest)) := by
  intro T hT X
  obtain ⟨t, st, q⟩ := k T hT X
  exact ⟨t, X.lastoreNull hexec (g := F0 m pc ls (.long x :: .int i :: .null :: rest)) rfl (rest := rest) rfl (by rw [hb]; exact hdg) t st, q⟩
theorem vx_fastoreN (hexec : p.tables.exec = Jvm.exec) (hb : c.code = cc) {x : UInt32} {i : Int32} (hdg : decode cc pc = .ok (.fastore, 1)) (k : vx_NoteN p l e R s m args below meth c H locs cells slots Q (F0 m pc ls rest)) : W p l e R s m args below meth c H locs cells slots Q (F0 m pc ls (.float x :: .int i :: .null :: rest)) := by
  intro T hT X
  obtain ⟨t, st, q⟩ := k T hT X
  exact ⟨t, X.fastoreNull hexec (g := F0 m pc ls (.float x :: .int i :: .null :: rest)) rfl (rest := rest) rfl (by rw [hb]; exact hdg) t st, q⟩
theorem vx_dastoreN (hexec : p.tables.exec = Jvm.exec) (hb : c.code = cc) {x : UInt64} {i : Int32} (hdg : decode cc pc = .ok (.dastore, 1)) (k : vx_NoteN p l e R s m args below meth c H locs cells slots Q (F0 m pc ls rest)) : W p l e R s m args below meth c H locs cells slots Q (F0 m pc ls (.double x :: .int i :: .null :: rest)) := by
  intro T hT X
  obtain ⟨t, st, q⟩ := k T hT X
  exact ⟨t, X.dastoreNull hexec (g := F0 m pc ls (.double x :: .int i :: .null :: rest)) rfl (rest := rest) rfl (by rw [hb]; exact hdg) t st, q⟩
theorem vx_bastoreN (hexec : p.tables.exec = Jvm.exec) (hb : c.code = cc) {x : Int32} {i : Int32} (hdg : decode cc pc = .ok (.bastore, 1)) (k : vx_NoteN p l e R s m args below meth c H locs cells slots Q (F0 m pc ls rest)) : W p l e R s m args below meth c H locs cells slots Q (F0 m pc ls (.int x :: .int i :: .null :: rest)) := by
  intro T hT X
  obtain ⟨t, st, q⟩ := k T hT X
  exact ⟨t, X.bastoreNull hexec (g := F0 m pc ls (.int x :: .int i :: .null :: rest)) rfl (rest := rest) rfl (by rw [hb]; exact hdg) t st, q⟩
theorem vx_castoreN (hexec : p.tables.exec = Jvm.exec) (hb : c.code = cc) {x : Int32} {i : Int32} (hdg : decode cc pc = .ok (.castore, 1)) (k : vx_NoteN p l e R s m args below meth c H locs cells slots Q (F0 m pc ls rest)) : W p l e R s m args below meth c H locs cells slots Q (F0 m pc ls (.int x :: .int i :: .null :: rest)) := by
  intro T hT X
  obtain ⟨t, st, q⟩ := k T hT X
  exact ⟨t, X.castoreNull hexec (g := F0 m pc ls (.int x :: .int i :: .null :: rest)) rfl (rest := rest) rfl (by rw [hb]; exact hdg) t st, q⟩
theorem vx_sastoreN (hexec : p.tables.exec = Jvm.exec) (hb : c.code = cc) {x : Int32} {i : Int32} (hdg : decode cc pc = .ok (.sastore, 1)) (k : vx_NoteN p l e R s m args below meth c H locs cells slots Q (F0 m pc ls rest)) : W p l e R s m args below meth c H locs cells slots Q (F0 m pc ls (.int x :: .int i :: .null :: rest)) := by
  intro T hT X
  obtain ⟨t, st, q⟩ := k T hT X
  exact ⟨t, X.sastoreNull hexec (g := F0 m pc ls (.int x :: .int i :: .null :: rest)) rfl (rest := rest) rfl (by rw [hb]; exact hdg) t st, q⟩
theorem vx_invokeN {own C : String} {index maxL : Nat} {y : MethodName} {bytes : ByteArray} {ret : Option FieldType} (hexec : p.tables.exec = Jvm.exec) (hb : c.code = cc) (hown : s.vm.findClass own = some m.cls) (hlink : (Cond.methodLink own index y).before args s = true) (hinst : (Cond.instanceMethod y).before args s = true) (hcode : (Cond.code y bytes maxL ret).before args s = true) (hsel : (Cond.selects C y y).before args s = true)
    (hx : y.cls ≠ "java/lang/invoke/MethodHandle" ∧ y.cls ≠ "java/lang/invoke/VarHandle") {As : List Value} (hlen : (parseMethodDescriptor y.desc).map (fun d => d.parameters.length) = some As.length) (hdg : decode cc pc = .ok (.invokevirtual index, 3))
    (k : vx_NoteN p l e R s m args below meth c H locs cells slots Q (F0 m pc ls rest)) {st0 : List Value} (hst : st0 = As.reverse ++ .null :: rest) : W p l e R s m args below meth c H locs cells slots Q (F0 m pc ls st0) := by
  intro T hT X
  obtain ⟨r0, r, hn, hrm, hstR, hsigR⟩ := va_Decl.of hinst hcode
  obtain ⟨c2, r2, m2, q1, q2, q3, q4, kP, hkP, hkPi⟩ := Cond.selects_spec hsel
  cases hn.symm.trans q3
  have hl9 : As.length = r.sig.parameters.length := by
    rw [hsigR] at hlen
    exact (Option.some.inj hlen).symm
  obtain ⟨vm', X1, st1⟩ := X.invokevirtualNull hexec hown hlink hn hrm hstR hkP hkPi hx (g := F0 m pc ls st0) rfl (argsL := As) (rest := rest) hl9 hst (by rw [hb]; exact hdg)
  obtain ⟨t, st, q⟩ := k (T.setVm vm') hT X1
  exact ⟨t, st1 t st, q⟩
theorem vx_newarrayZ {atype : ArrayType} (hexec : p.tables.exec = Jvm.exec) (hb : c.code = cc) {n : Int32} (h0 : n < 0) (hdg : decode cc pc = .ok (.newarray atype, 2)) (k : ∀ tx : String, tx = toString n → vx_Note p l e R s m args below meth c H locs cells slots Q (F0 m pc ls rest) "java/lang/NegativeArraySizeException" tx) : W p l e R s m args below meth c H locs cells slots Q (F0 m pc ls (.int n :: rest)) := by
  intro T hT X
  obtain ⟨t, st, q⟩ := k _ rfl T hT X
  exact ⟨t, X.newarrayNegative hexec (g := F0 m pc ls (.int n :: rest)) rfl h0 (rest := rest) rfl (by rw [hb]; exact hdg) t st, q⟩
end
end VXM
/-! ===== END ===== -/
end
section
def RX0 : String := "Wagonplay$Ground"
def TX0 : u_T := fun k => match k with
  | 0 => ("Wagonplay$Ground", "stations", "[LWagonplay$Station;", true)
  | 1 => ("Wagonplay$Ground", "wet", "[Z", true)
  | _ => ("Wagonplay$Ground", "count", "I", false)
def tyX0 : Nat → FieldType := fun k => match k with
  | 0 => .array (.object "Wagonplay$Station")
  | 1 => .array .boolean
  | _ => .int
abbrev wsX00 : List Cond := u_ws RX0 TX0 3
theorem nmX0 : ∀ a, a < 3 → ∀ b, b < 3 → a ≠ b → (TX0 a).2.1 ≠ (TX0 b).2.1 := by decide +kernel
theorem tyX0_ok : ∀ k, k < 3 → parseFieldDescriptor (TX0 k).2.2.1 = some (tyX0 k) := by decide +kernel
abbrev cX0_init : ByteArray := prog_2_method_1_code
def yX0_init : MethodName := ⟨RX0, "<init>", "()V"⟩
abbrev cX0_rainsAt : ByteArray := prog_2_method_2_code
def yX0_rainsAt : MethodName := ⟨RX0, "rainsAt", "(I)Z"⟩
def RX1 : String := "Wagonplay$Guild"
def TX1 : u_T := fun k => match k with
  | 0 => ("Wagonplay$Guild", "wealth", "I", false)
  | 1 => ("Wagonplay$Guild", "fines", "I", false)
  | 2 => ("Wagonplay$Guild", "over", "Z", false)
  | 3 => ("Wagonplay$Guild", "height", "I", false)
  | 4 => ("Wagonplay$Guild", "hands", "I", false)
  | 5 => ("Wagonplay$Guild", "wheels", "I", false)
  | _ => ("Wagonplay$Guild", "play", "LWagonplay$Play;", true)
def tyX1 : Nat → FieldType := fun k => match k with
  | 0 => .int
  | 1 => .int
  | 2 => .boolean
  | 3 => .int
  | 4 => .int
  | 5 => .int
  | _ => .object "Wagonplay$Play"
abbrev wsX10 : List Cond := u_ws RX1 TX1 7
theorem nmX1 : ∀ a, a < 7 → ∀ b, b < 7 → a ≠ b → (TX1 a).2.1 ≠ (TX1 b).2.1 := by decide +kernel
theorem tyX1_ok : ∀ k, k < 7 → parseFieldDescriptor (TX1 k).2.2.1 = some (tyX1 k) := by decide +kernel
abbrev cX1_init : ByteArray := prog_3_method_1_code
def yX1_init : MethodName := ⟨RX1, "<init>", "()V"⟩
abbrev cX1_wage : ByteArray := prog_3_method_2_code
def yX1_wage : MethodName := ⟨RX1, "wage", "()I"⟩
def RX2 : String := "Wagonplay$Letters"
def TX2 : u_T := fun k => match k with
  | 0 => ("Wagonplay$Letters", "typed", "[C", true)
  | _ => ("Wagonplay$Letters", "count", "I", false)
def tyX2 : Nat → FieldType := fun k => match k with
  | 0 => .array .char
  | _ => .int
abbrev wsX20 : List Cond := u_ws RX2 TX2 2
theorem nmX2 : ∀ a, a < 2 → ∀ b, b < 2 → a ≠ b → (TX2 a).2.1 ≠ (TX2 b).2.1 := by decide +kernel
theorem tyX2_ok : ∀ k, k < 2 → parseFieldDescriptor (TX2 k).2.2.1 = some (tyX2 k) := by decide +kernel
abbrev cX2_init : ByteArray := prog_4_method_1_code
def yX2_init : MethodName := ⟨RX2, "<init>", "()V"⟩
abbrev cX2_append : ByteArray := prog_4_method_2_code
def yX2_append : MethodName := ⟨RX2, "append", "(C)V"⟩
abbrev cX2_spelt : ByteArray := prog_4_method_3_code
def yX2_spelt : MethodName := ⟨RX2, "spelt", "()I"⟩
abbrev cX2_isTyped : ByteArray := prog_4_method_4_code
def yX2_isTyped : MethodName := ⟨RX2, "isTyped", "(Ljava/lang/String;)Z"⟩
abbrev cX2_wordOf : ByteArray := prog_4_method_5_code
def yX2_wordOf : MethodName := ⟨RX2, "wordOf", "(I)Ljava/lang/String;"⟩
def RX3 : String := "Wagonplay$Plan"
def TX3 : u_T := fun k => match k with
  | 0 => ("Wagonplay$Plan", "shows", "[LWagonplay$Show;", true)
  | 1 => ("Wagonplay$Plan", "count", "I", false)
  | _ => ("Wagonplay$Plan", "stops", "I", false)
def tyX3 : Nat → FieldType := fun k => match k with
  | 0 => .array (.object "Wagonplay$Show")
  | 1 => .int
  | _ => .int
abbrev wsX30 : List Cond := u_ws RX3 TX3 3
theorem nmX3 : ∀ a, a < 3 → ∀ b, b < 3 → a ≠ b → (TX3 a).2.1 ≠ (TX3 b).2.1 := by decide +kernel
theorem tyX3_ok : ∀ k, k < 3 → parseFieldDescriptor (TX3 k).2.2.1 = some (tyX3 k) := by decide +kernel
abbrev cX3_init : ByteArray := prog_5_method_1_code
def yX3_init : MethodName := ⟨RX3, "<init>", "()V"⟩
abbrev cX3_start : ByteArray := prog_5_method_2_code
def yX3_start : MethodName := ⟨RX3, "start", "(LWagonplay$Ground;)V"⟩
abbrev cX3_append : ByteArray := prog_5_method_3_code
def yX3_append : MethodName := ⟨RX3, "append", "(ILWagonplay$Guild;LWagonplay$Ground;)V"⟩
abbrev cX3_playAt : ByteArray := prog_5_method_5_code
def yX3_playAt : MethodName := ⟨RX3, "playAt", "(ILWagonplay$Show;LWagonplay$Guild;LWagonplay$Ground;)V"⟩
abbrev cX3_firstFree : ByteArray := prog_5_method_6_code
def yX3_firstFree : MethodName := ⟨RX3, "firstFree", "(IILWagonplay$Play;LWagonplay$Station;LWagonplay$Ground;)I"⟩
abbrev cX3_endOfClashes : ByteArray := prog_5_method_7_code
def yX3_endOfClashes : MethodName := ⟨RX3, "endOfClashes", "(III)I"⟩
abbrev cX3_judge : ByteArray := prog_5_method_8_code
def yX3_judge : MethodName := ⟨RX3, "judge", "(ILWagonplay$Show;LWagonplay$Play;LWagonplay$Station;I)V"⟩
abbrev cX3_latestEnd : ByteArray := prog_5_method_9_code
def yX3_latestEnd : MethodName := ⟨RX3, "latestEnd", "()I"⟩
abbrev cX3_countWhole : ByteArray := prog_5_method_10_code
def yX3_countWhole : MethodName := ⟨RX3, "countWhole", "()I"⟩
abbrev cX3_isDaySound : ByteArray := prog_5_method_11_code
def yX3_isDaySound : MethodName := ⟨RX3, "isDaySound", "()Z"⟩
abbrev cX3_isWaySound : ByteArray := prog_5_method_12_code
def yX3_isWaySound : MethodName := ⟨RX3, "isWaySound", "(I)Z"⟩
abbrev cX3_isApart : ByteArray := prog_5_method_13_code
def yX3_isApart : MethodName := ⟨RX3, "isApart", "(I)Z"⟩
abbrev cX3_overlap : ByteArray := prog_5_method_14_code
def yX3_overlap : MethodName := ⟨RX3, "overlap", "(LWagonplay$Show;LWagonplay$Show;)Z"⟩
def RX4 : String := "Wagonplay$Play"
def TX4 : u_T := fun k => match k with
  | 0 => ("Wagonplay$Play", "lines", "I", false)
  | 1 => ("Wagonplay$Play", "parts", "I", false)
  | 2 => ("Wagonplay$Play", "topic", "I", false)
  | 3 => ("Wagonplay$Play", "learnt", "I", false)
  | 4 => ("Wagonplay$Play", "linesInBook", "I", false)
  | 5 => ("Wagonplay$Play", "players", "[I", true)
  | _ => ("Wagonplay$Play", "lost", "[Z", true)
def tyX4 : Nat → FieldType := fun k => match k with
  | 0 => .int
  | 1 => .int
  | 2 => .int
  | 3 => .int
  | 4 => .int
  | 5 => .array .int
  | _ => .array .boolean
abbrev wsX40 : List Cond := u_ws RX4 TX4 7
theorem nmX4 : ∀ a, a < 7 → ∀ b, b < 7 → a ≠ b → (TX4 a).2.1 ≠ (TX4 b).2.1 := by decide +kernel
theorem tyX4_ok : ∀ k, k < 7 → parseFieldDescriptor (TX4 k).2.2.1 = some (tyX4 k) := by decide +kernel
abbrev cX4_init : ByteArray := prog_6_method_1_code
def yX4_init : MethodName := ⟨RX4, "<init>", "()V"⟩
abbrev cX4_write : ByteArray := prog_6_method_2_code
def yX4_write : MethodName := ⟨RX4, "write", "(II)V"⟩
abbrev cX4_forget : ByteArray := prog_6_method_3_code
def yX4_forget : MethodName := ⟨RX4, "forget", "()V"⟩
abbrev cX4_minutes : ByteArray := prog_6_method_4_code
def yX4_minutes : MethodName := ⟨RX4, "minutes", "(Z)I"⟩
abbrev cX4_playerBits : ByteArray := prog_6_method_5_code
def yX4_playerBits : MethodName := ⟨RX4, "playerBits", "()I"⟩
abbrev cX4_linesNotInBook : ByteArray := prog_6_method_6_code
def yX4_linesNotInBook : MethodName := ⟨RX4, "linesNotInBook", "()I"⟩
abbrev cX4_leafCount : ByteArray := prog_6_method_7_code
def yX4_leafCount : MethodName := ⟨RX4, "leafCount", "()I"⟩
abbrev cX4_lastLineOf : ByteArray := prog_6_method_8_code
def yX4_lastLineOf : MethodName := ⟨RX4, "lastLineOf", "(I)I"⟩
abbrev cX4_knownLines : ByteArray := prog_6_method_9_code
def yX4_knownLines : MethodName := ⟨RX4, "knownLines", "()I"⟩
abbrev cX4_bringBookUpToDate : ByteArray := prog_6_method_10_code
def yX4_bringBookUpToDate : MethodName := ⟨RX4, "bringBookUpToDate", "()V"⟩
abbrev cX4_findLeavesUpTo : ByteArray := prog_6_method_11_code
def yX4_findLeavesUpTo : MethodName := ⟨RX4, "findLeavesUpTo", "(I)V"⟩
def RX5 : String := "Wagonplay$Show"
def TX5 : u_T := fun k => match k with
  | 0 => ("Wagonplay$Show", "guild", "I", false)
  | 1 => ("Wagonplay$Show", "playerBits", "I", false)
  | 2 => ("Wagonplay$Show", "comes", "[I", true)
  | 3 => ("Wagonplay$Show", "begins", "[I", true)
  | 4 => ("Wagonplay$Show", "ends", "[I", true)
  | 5 => ("Wagonplay$Show", "gaps", "[I", true)
  | 6 => ("Wagonplay$Show", "said", "[I", true)
  | _ => ("Wagonplay$Show", "ways", "[C", true)
def tyX5 : Nat → FieldType := fun k => match k with
  | 0 => .int
  | 1 => .int
  | 2 => .array .int
  | 3 => .array .int
  | 4 => .array .int
  | 5 => .array .int
  | 6 => .array .int
  | _ => .array .char
abbrev wsX50 : List Cond := u_ws RX5 TX5 8
theorem nmX5 : ∀ a, a < 8 → ∀ b, b < 8 → a ≠ b → (TX5 a).2.1 ≠ (TX5 b).2.1 := by decide +kernel
theorem tyX5_ok : ∀ k, k < 8 → parseFieldDescriptor (TX5 k).2.2.1 = some (tyX5 k) := by decide +kernel
abbrev cX5_init : ByteArray := prog_7_method_1_code
def yX5_init : MethodName := ⟨RX5, "<init>", "()V"⟩
abbrev cX5_isWhole : ByteArray := prog_7_method_2_code
def yX5_isWhole : MethodName := ⟨RX5, "isWhole", "(I)Z"⟩
abbrev cX5_isLate : ByteArray := prog_7_method_3_code
def yX5_isLate : MethodName := ⟨RX5, "isLate", "(I)Z"⟩
abbrev cX5_isOnWithin : ByteArray := prog_7_method_4_code
def yX5_isOnWithin : MethodName := ⟨RX5, "isOnWithin", "(III)Z"⟩
def RX6 : String := "Wagonplay$Station"
def TX6 : u_T := fun k => match k with
  | 0 => ("Wagonplay$Station", "minutes", "I", false)
  | 1 => ("Wagonplay$Station", "hill", "I", false)
  | 2 => ("Wagonplay$Station", "corner", "I", false)
  | 3 => ("Wagonplay$Station", "torches", "Z", false)
  | 4 => ("Wagonplay$Station", "scribe", "Z", false)
  | 5 => ("Wagonplay$Station", "house", "I", false)
  | _ => ("Wagonplay$Station", "rent", "I", false)
def tyX6 : Nat → FieldType := fun k => match k with
  | 0 => .int
  | 1 => .int
  | 2 => .int
  | 3 => .boolean
  | 4 => .boolean
  | 5 => .int
  | _ => .int
abbrev wsX60 : List Cond := u_ws RX6 TX6 7
theorem nmX6 : ∀ a, a < 7 → ∀ b, b < 7 → a ≠ b → (TX6 a).2.1 ≠ (TX6 b).2.1 := by decide +kernel
theorem tyX6_ok : ∀ k, k < 7 → parseFieldDescriptor (TX6 k).2.2.1 = some (tyX6 k) := by decide +kernel
abbrev cX6_init : ByteArray := prog_8_method_1_code
def yX6_init : MethodName := ⟨RX6, "<init>", "()V"⟩
abbrev cX6_endBids : ByteArray := prog_8_method_3_code
def yX6_endBids : MethodName := ⟨RX6, "endBids", "()V"⟩
abbrev cX6_minutesOfWay : ByteArray := prog_8_method_4_code
def yX6_minutesOfWay : MethodName := ⟨RX6, "minutesOfWay", "(LWagonplay$Guild;Z)I"⟩
abbrev cX6_isTooDark : ByteArray := prog_8_method_5_code
def yX6_isTooDark : MethodName := ⟨RX6, "isTooDark", "(I)Z"⟩
abbrev cX6_endOfPlay : ByteArray := prog_8_method_6_code
def yX6_endOfPlay : MethodName := ⟨RX6, "endOfPlay", "(II)I"⟩
def RX7 : String := "Wagonplay"
def TX7 : u_T := fun k => match k with
  | 0 => ("Wagonplay", "guilds", "[LWagonplay$Guild;", true)
  | 1 => ("Wagonplay", "order", "[I", true)
  | 2 => ("Wagonplay", "ground", "LWagonplay$Ground;", true)
  | 3 => ("Wagonplay", "letters", "LWagonplay$Letters;", true)
  | 4 => ("Wagonplay", "struck", "[Z", true)
  | 5 => ("Wagonplay", "housePaid", "[I", true)
  | 6 => ("Wagonplay", "today", "LWagonplay$Plan;", true)
  | 7 => ("Wagonplay", "trial", "LWagonplay$Plan;", true)
  | 8 => ("Wagonplay", "triedOrder", "[I", true)
  | 9 => ("Wagonplay", "bestOrder", "[I", true)
  | 10 => ("Wagonplay", "bestEnd", "I", false)
  | 11 => ("Wagonplay", "guildCount", "I", false)
  | 12 => ("Wagonplay", "yearNow", "I", false)
  | 13 => ("Wagonplay", "townMoney", "I", false)
  | 14 => ("Wagonplay", "wealthBrought", "I", false)
  | _ => ("Wagonplay", "dayPlayed", "Z", false)
def tyX7 : Nat → FieldType := fun k => match k with
  | 0 => .array (.object "Wagonplay$Guild")
  | 1 => .array .int
  | 2 => .object "Wagonplay$Ground"
  | 3 => .object "Wagonplay$Letters"
  | 4 => .array .boolean
  | 5 => .array .int
  | 6 => .object "Wagonplay$Plan"
  | 7 => .object "Wagonplay$Plan"
  | 8 => .array .int
  | 9 => .array .int
  | 10 => .int
  | 11 => .int
  | 12 => .int
  | 13 => .int
  | 14 => .int
  | _ => .boolean
abbrev wsX70 : List Cond := u_ws RX7 TX7 16
theorem nmX7 : ∀ a, a < 16 → ∀ b, b < 16 → a ≠ b → (TX7 a).2.1 ≠ (TX7 b).2.1 := by decide +kernel
theorem tyX7_ok : ∀ k, k < 16 → parseFieldDescriptor (TX7 k).2.2.1 = some (tyX7 k) := by decide +kernel
abbrev cX7_init : ByteArray := prog_1_method_1_code
def yX7_init : MethodName := ⟨RX7, "<init>", "()V"⟩
abbrev cX7_addGuild : ByteArray := prog_1_method_2_code
def yX7_addGuild : MethodName := ⟨RX7, "addGuild", "(III)I"⟩
abbrev cX7_merge : ByteArray := prog_1_method_3_code
def yX7_merge : MethodName := ⟨RX7, "merge", "(II)I"⟩
abbrev cX7_isOver : ByteArray := prog_1_method_4_code
def yX7_isOver : MethodName := ⟨RX7, "isOver", "(I)Z"⟩
abbrev cX7_of : ByteArray := prog_1_method_5_code
def yX7_of : MethodName := ⟨RX7, "of", "(IC)I"⟩
abbrev cX7_type : ByteArray := prog_1_method_6_code
def yX7_type : MethodName := ⟨RX7, "type", "(C)I"⟩
abbrev cX7_wipe : ByteArray := prog_1_method_7_code
def yX7_wipe : MethodName := ⟨RX7, "wipe", "()I"⟩
abbrev cX7_subject : ByteArray := prog_1_method_8_code
def yX7_subject : MethodName := ⟨RX7, "subject", "(I)C"⟩
abbrev cX7_strike : ByteArray := prog_1_method_9_code
def yX7_strike : MethodName := ⟨RX7, "strike", "(Z)Z"⟩
abbrev cX7_learn : ByteArray := prog_1_method_10_code
def yX7_learn : MethodName := ⟨RX7, "learn", "(II)I"⟩
abbrev cX7_cast : ByteArray := prog_1_method_11_code
def yX7_cast : MethodName := ⟨RX7, "cast", "(III)I"⟩
abbrev cX7_wagon : ByteArray := prog_1_method_12_code
def yX7_wagon : MethodName := ⟨RX7, "wagon", "(III)I"⟩
abbrev cX7_mend : ByteArray := prog_1_method_13_code
def yX7_mend : MethodName := ⟨RX7, "mend", "(II)I"⟩
abbrev cX7_put : ByteArray := prog_1_method_19_code
def yX7_put : MethodName := ⟨RX7, "put", "(II)I"⟩
abbrev cX7_place : ByteArray := prog_1_method_20_code
def yX7_place : MethodName := ⟨RX7, "place", "(I)I"⟩
abbrev cX7_add : ByteArray := prog_1_method_22_code
def yX7_add : MethodName := ⟨RX7, "add", "(II)I"⟩
abbrev cX7_day : ByteArray := prog_1_method_23_code
def yX7_day : MethodName := ⟨RX7, "day", "()I"⟩
abbrev cX7_end : ByteArray := prog_1_method_26_code
def yX7_end : MethodName := ⟨RX7, "end", "()I"⟩
abbrev cX7_foresee : ByteArray := prog_1_method_27_code
def yX7_foresee : MethodName := ⟨RX7, "foresee", "()I"⟩
abbrev cX7_lose : ByteArray := prog_1_method_30_code
def yX7_lose : MethodName := ⟨RX7, "lose", "(II)Z"⟩
abbrev cX7_leaves : ByteArray := prog_1_method_31_code
def yX7_leaves : MethodName := ⟨RX7, "leaves", "(I)I"⟩
abbrev cX7_known : ByteArray := prog_1_method_32_code
def yX7_known : MethodName := ⟨RX7, "known", "(I)I"⟩
abbrev cX7_callIn : ByteArray := prog_1_method_33_code
def yX7_callIn : MethodName := ⟨RX7, "callIn", "()I"⟩
abbrev cX7_town : ByteArray := prog_1_method_34_code
def yX7_town : MethodName := ⟨RX7, "town", "()I"⟩
abbrev cX7_year : ByteArray := prog_1_method_36_code
def yX7_year : MethodName := ⟨RX7, "year", "()I"⟩
abbrev cX7_isSound : ByteArray := prog_1_method_40_code
def yX7_isSound : MethodName := ⟨RX7, "isSound", "()Z"⟩
abbrev cX7_needRange : ByteArray := prog_1_method_41_code
def yX7_needRange : MethodName := ⟨RX7, "needRange", "(III)V"⟩
abbrev cX7_needGuild : ByteArray := prog_1_method_42_code
def yX7_needGuild : MethodName := ⟨RX7, "needGuild", "(I)V"⟩
abbrev cX7_needNotOver : ByteArray := prog_1_method_43_code
def yX7_needNotOver : MethodName := ⟨RX7, "needNotOver", "(I)V"⟩
abbrev cX7_needStations : ByteArray := prog_1_method_45_code
def yX7_needStations : MethodName := ⟨RX7, "needStations", "()V"⟩
abbrev cX7_needDayPlayed : ByteArray := prog_1_method_46_code
def yX7_needDayPlayed : MethodName := ⟨RX7, "needDayPlayed", "()V"⟩
abbrev cX7_typedSubject : ByteArray := prog_1_method_48_code
def yX7_typedSubject : MethodName := ⟨RX7, "typedSubject", "()I"⟩
abbrev cX7_takesPart : ByteArray := prog_1_method_50_code
def yX7_takesPart : MethodName := ⟨RX7, "takesPart", "(I)Z"⟩
abbrev cX7_placeOf : ByteArray := prog_1_method_52_code
def yX7_placeOf : MethodName := ⟨RX7, "placeOf", "(I)I"⟩
abbrev cX7_plan : ByteArray := prog_1_method_54_code
def yX7_plan : MethodName := ⟨RX7, "plan", "(LWagonplay$Plan;[II)V"⟩
abbrev cX7_charge : ByteArray := prog_1_method_59_code
def yX7_charge : MethodName := ⟨RX7, "charge", "(LWagonplay$Guild;I)V"⟩
abbrev cX7_settle : ByteArray := prog_1_method_60_code
def yX7_settle : MethodName := ⟨RX7, "settle", "(LWagonplay$Show;)V"⟩
abbrev cX7_writeDown : ByteArray := prog_1_method_61_code
def yX7_writeDown : MethodName := ⟨RX7, "writeDown", "(LWagonplay$Show;LWagonplay$Play;)V"⟩
abbrev cX7_takeRents : ByteArray := prog_1_method_62_code
def yX7_takeRents : MethodName := ⟨RX7, "takeRents", "()V"⟩
abbrev cX7_isMoneySound : ByteArray := prog_1_method_63_code
def yX7_isMoneySound : MethodName := ⟨RX7, "isMoneySound", "()Z"⟩
abbrev cX7_isOrderSound : ByteArray := prog_1_method_64_code
def yX7_isOrderSound : MethodName := ⟨RX7, "isOrderSound", "()Z"⟩
def RX8 : String := "WagonplayModel$Day"
def TX8 : u_T := fun k => match k with
  | _ => ("", "", "", false)
def tyX8 : Nat → FieldType := fun k => match k with
  | _ => .int
abbrev wsX80 : List Cond := u_ws RX8 TX8 0
theorem nmX8 : ∀ a, a < 0 → ∀ b, b < 0 → a ≠ b → (TX8 a).2.1 ≠ (TX8 b).2.1 := by decide +kernel
theorem tyX8_ok : ∀ k, k < 0 → parseFieldDescriptor (TX8 k).2.2.1 = some (tyX8 k) := by decide +kernel
def RX9 : String := "WagonplayModel$Guild"
def TX9 : u_T := fun k => match k with
  | _ => ("", "", "", false)
def tyX9 : Nat → FieldType := fun k => match k with
  | _ => .int
abbrev wsX90 : List Cond := u_ws RX9 TX9 0
theorem nmX9 : ∀ a, a < 0 → ∀ b, b < 0 → a ≠ b → (TX9 a).2.1 ≠ (TX9 b).2.1 := by decide +kernel
theorem tyX9_ok : ∀ k, k < 0 → parseFieldDescriptor (TX9 k).2.2.1 = some (tyX9 k) := by decide +kernel
def RX10 : String := "WagonplayModel$Station"
def TX10 : u_T := fun k => match k with
  | _ => ("", "", "", false)
def tyX10 : Nat → FieldType := fun k => match k with
  | _ => .int
abbrev wsX100 : List Cond := u_ws RX10 TX10 0
theorem nmX10 : ∀ a, a < 0 → ∀ b, b < 0 → a ≠ b → (TX10 a).2.1 ≠ (TX10 b).2.1 := by decide +kernel
theorem tyX10_ok : ∀ k, k < 0 → parseFieldDescriptor (TX10 k).2.2.1 = some (tyX10 k) := by decide +kernel
def RX11 : String := "WagonplayModel"
def TX11 : u_T := fun k => match k with
  | _ => ("", "", "", false)
def tyX11 : Nat → FieldType := fun k => match k with
  | _ => .int
abbrev wsX110 : List Cond := u_ws RX11 TX11 0
theorem nmX11 : ∀ a, a < 0 → ∀ b, b < 0 → a ≠ b → (TX11 a).2.1 ≠ (TX11 b).2.1 := by decide +kernel
theorem tyX11_ok : ∀ k, k < 0 → parseFieldDescriptor (TX11 k).2.2.1 = some (tyX11 k) := by decide +kernel
def RJx145de : String := "java/io/Serializable"
def TJx145de : u_T := fun k => match k with
  | _ => ("", "", "", false)
def tyJx145de : Nat → FieldType := fun k => match k with
  | _ => .int
abbrev wsJx145de0 : List Cond := u_ws RJx145de TJx145de 0
theorem nmJx145de : ∀ a, a < 0 → ∀ b, b < 0 → a ≠ b → (TJx145de a).2.1 ≠ (TJx145de b).2.1 := by decide +kernel
theorem tyJx145de_ok : ∀ k, k < 0 → parseFieldDescriptor (TJx145de k).2.2.1 = some (tyJx145de k) := by decide +kernel
def RJx00060 : String := "java/lang/ArrayIndexOutOfBoundsException"
def TJx00060 : u_T := fun k => match k with
  | 0 => ("java/lang/Throwable", "backtrace", "Ljava/lang/Object;", false)
  | 1 => ("java/lang/Throwable", "detailMessage", "Ljava/lang/String;", false)
  | 2 => ("java/lang/Throwable", "cause", "Ljava/lang/Throwable;", false)
  | 3 => ("java/lang/Throwable", "stackTrace", "[Ljava/lang/StackTraceElement;", false)
  | 4 => ("java/lang/Throwable", "depth", "I", false)
  | _ => ("java/lang/Throwable", "suppressedExceptions", "Ljava/util/List;", false)
def tyJx00060 : Nat → FieldType := fun k => match k with
  | 0 => .object "java/lang/Object"
  | 1 => .object "java/lang/String"
  | 2 => .object "java/lang/Throwable"
  | 3 => .array (.object "java/lang/StackTraceElement")
  | 4 => .int
  | _ => .object "java/util/List"
abbrev wsJx000600 : List Cond := u_ws RJx00060 TJx00060 6
theorem nmJx00060 : ∀ a, a < 6 → ∀ b, b < 6 → a ≠ b → (TJx00060 a).2.1 ≠ (TJx00060 b).2.1 := by decide +kernel
theorem tyJx00060_ok : ∀ k, k < 6 → parseFieldDescriptor (TJx00060 k).2.2.1 = some (tyJx00060 k) := by decide +kernel
abbrev cJx00060_init_a7421 : ByteArray := prog_14_method_2_code
def yJx00060_init_a7421 : MethodName := ⟨RJx00060, "<init>", "(Ljava/lang/String;)V"⟩
def RJx9f9b0 : String := "java/lang/CharSequence"
def TJx9f9b0 : u_T := fun k => match k with
  | _ => ("", "", "", false)
def tyJx9f9b0 : Nat → FieldType := fun k => match k with
  | _ => .int
abbrev wsJx9f9b00 : List Cond := u_ws RJx9f9b0 TJx9f9b0 0
theorem nmJx9f9b0 : ∀ a, a < 0 → ∀ b, b < 0 → a ≠ b → (TJx9f9b0 a).2.1 ≠ (TJx9f9b0 b).2.1 := by decide +kernel
theorem tyJx9f9b0_ok : ∀ k, k < 0 → parseFieldDescriptor (TJx9f9b0 k).2.2.1 = some (tyJx9f9b0 k) := by decide +kernel
def RJxb160c : String := "java/lang/Comparable"
def TJxb160c : u_T := fun k => match k with
  | _ => ("", "", "", false)
def tyJxb160c : Nat → FieldType := fun k => match k with
  | _ => .int
abbrev wsJxb160c0 : List Cond := u_ws RJxb160c TJxb160c 0
theorem nmJxb160c : ∀ a, a < 0 → ∀ b, b < 0 → a ≠ b → (TJxb160c a).2.1 ≠ (TJxb160c b).2.1 := by decide +kernel
theorem tyJxb160c_ok : ∀ k, k < 0 → parseFieldDescriptor (TJxb160c k).2.2.1 = some (tyJxb160c k) := by decide +kernel
def RJ9 : String := "java/lang/Math"
def TJ9 : u_T := fun k => match k with
  | _ => ("", "", "", false)
def tyJ9 : Nat → FieldType := fun k => match k with
  | _ => .int
abbrev wsJ90 : List Cond := u_ws RJ9 TJ9 0
theorem nmJ9 : ∀ a, a < 0 → ∀ b, b < 0 → a ≠ b → (TJ9 a).2.1 ≠ (TJ9 b).2.1 := by decide +kernel
theorem tyJ9_ok : ∀ k, k < 0 → parseFieldDescriptor (TJ9 k).2.2.1 = some (tyJ9 k) := by decide +kernel
abbrev cJ9_floorDiv_7cf53 : ByteArray := prog_19_method_47_code
def yJ9_floorDiv_7cf53 : MethodName := ⟨RJ9, "floorDiv", "(II)I"⟩
abbrev cJ9_floorMod_7cf53 : ByteArray := prog_19_method_50_code
def yJ9_floorMod_7cf53 : MethodName := ⟨RJ9, "floorMod", "(II)I"⟩
abbrev cJ9_max_7cf53 : ByteArray := prog_19_method_65_code
def yJ9_max_7cf53 : MethodName := ⟨RJ9, "max", "(II)I"⟩
abbrev cJ9_min_7cf53 : ByteArray := prog_19_method_69_code
def yJ9_min_7cf53 : MethodName := ⟨RJ9, "min", "(II)I"⟩
def RJ0 : String := "java/lang/String"
def TJ0 : u_T := fun k => match k with
  | 0 => ("java/lang/String", "value", "[B", true)
  | _ => ("java/lang/String", "coder", "B", true)
def tyJ0 : Nat → FieldType := fun k => match k with
  | 0 => .array .byte
  | _ => .byte
abbrev wsJ00 : List Cond := u_ws RJ0 TJ0 2
theorem nmJ0 : ∀ a, a < 2 → ∀ b, b < 2 → a ≠ b → (TJ0 a).2.1 ≠ (TJ0 b).2.1 := by decide +kernel
theorem tyJ0_ok : ∀ k, k < 2 → parseFieldDescriptor (TJ0 k).2.2.1 = some (tyJ0 k) := by decide +kernel
abbrev cJ0_length_8abf5 : ByteArray := prog_21_method_54_code
def yJ0_length_8abf5 : MethodName := ⟨RJ0, "length", "()I"⟩
abbrev cJ0_charAt_5068e : ByteArray := prog_21_method_56_code
def yJ0_charAt_5068e : MethodName := ⟨RJ0, "charAt", "(I)C"⟩
abbrev cJ0_coder_7d493 : ByteArray := prog_21_method_152_code
def yJ0_coder_7d493 : MethodName := ⟨RJ0, "coder", "()B"⟩
abbrev cJ0_isLatin1_aae02 : ByteArray := prog_21_method_154_code
def yJ0_isLatin1_aae02 : MethodName := ⟨RJ0, "isLatin1", "()Z"⟩
abbrev cJ0_checkIndex_df160 : ByteArray := prog_21_method_155_code
def yJ0_checkIndex_df160 : MethodName := ⟨RJ0, "checkIndex", "(II)V"⟩
def RJ1 : String := "java/lang/StringLatin1"
def TJ1 : u_T := fun k => match k with
  | _ => ("", "", "", false)
def tyJ1 : Nat → FieldType := fun k => match k with
  | _ => .int
abbrev wsJ10 : List Cond := u_ws RJ1 TJ1 0
theorem nmJ1 : ∀ a, a < 0 → ∀ b, b < 0 → a ≠ b → (TJ1 a).2.1 ≠ (TJ1 b).2.1 := by decide +kernel
theorem tyJ1_ok : ∀ k, k < 0 → parseFieldDescriptor (TJ1 k).2.2.1 = some (tyJ1 k) := by decide +kernel
abbrev cJ1_charAt_3b067 : ByteArray := prog_22_method_2_code
def yJ1_charAt_3b067 : MethodName := ⟨RJ1, "charAt", "([BI)C"⟩
def RJ2 : String := "java/lang/StringUTF16"
def TJ2 : u_T := fun k => match k with
  | _ => ("", "", "", false)
def tyJ2 : Nat → FieldType := fun k => match k with
  | _ => .int
abbrev wsJ20 : List Cond := u_ws RJ2 TJ2 0
theorem nmJ2 : ∀ a, a < 0 → ∀ b, b < 0 → a ≠ b → (TJ2 a).2.1 ≠ (TJ2 b).2.1 := by decide +kernel
theorem tyJ2_ok : ∀ k, k < 0 → parseFieldDescriptor (TJ2 k).2.2.1 = some (tyJ2 k) := by decide +kernel
abbrev cJ2_getChar_3b067 : ByteArray := prog_23_method_5_code
def yJ2_getChar_3b067 : MethodName := ⟨RJ2, "getChar", "([BI)C"⟩
abbrev cJ2_length_9d52b : ByteArray := prog_23_method_6_code
def yJ2_length_9d52b : MethodName := ⟨RJ2, "length", "([B)I"⟩
abbrev cJ2_charAt_3b067 : ByteArray := prog_23_method_83_code
def yJ2_charAt_3b067 : MethodName := ⟨RJ2, "charAt", "([BI)C"⟩
abbrev cJ2_checkIndex_2214a : ByteArray := prog_23_method_91_code
def yJ2_checkIndex_2214a : MethodName := ⟨RJ2, "checkIndex", "(I[B)V"⟩
def RJxfd54e : String := "java/lang/constant/Constable"
def TJxfd54e : u_T := fun k => match k with
  | _ => ("", "", "", false)
def tyJxfd54e : Nat → FieldType := fun k => match k with
  | _ => .int
abbrev wsJxfd54e0 : List Cond := u_ws RJxfd54e TJxfd54e 0
theorem nmJxfd54e : ∀ a, a < 0 → ∀ b, b < 0 → a ≠ b → (TJxfd54e a).2.1 ≠ (TJxfd54e b).2.1 := by decide +kernel
theorem tyJxfd54e_ok : ∀ k, k < 0 → parseFieldDescriptor (TJxfd54e k).2.2.1 = some (tyJxfd54e k) := by decide +kernel
def RJx3cf43 : String := "java/lang/constant/ConstantDesc"
def TJx3cf43 : u_T := fun k => match k with
  | _ => ("", "", "", false)
def tyJx3cf43 : Nat → FieldType := fun k => match k with
  | _ => .int
abbrev wsJx3cf430 : List Cond := u_ws RJx3cf43 TJx3cf43 0
theorem nmJx3cf43 : ∀ a, a < 0 → ∀ b, b < 0 → a ≠ b → (TJx3cf43 a).2.1 ≠ (TJx3cf43 b).2.1 := by decide +kernel
theorem tyJx3cf43_ok : ∀ k, k < 0 → parseFieldDescriptor (TJx3cf43 k).2.2.1 = some (tyJx3cf43 k) := by decide +kernel
def RJ3 : String := "jdk/internal/util/Preconditions"
def TJ3 : u_T := fun k => match k with
  | _ => ("", "", "", false)
def tyJ3 : Nat → FieldType := fun k => match k with
  | _ => .int
abbrev wsJ30 : List Cond := u_ws RJ3 TJ3 0
theorem nmJ3 : ∀ a, a < 0 → ∀ b, b < 0 → a ≠ b → (TJ3 a).2.1 ≠ (TJ3 b).2.1 := by decide +kernel
theorem tyJ3_ok : ∀ k, k < 0 → parseFieldDescriptor (TJ3 k).2.2.1 = some (tyJ3 k) := by decide +kernel
abbrev cJ3_checkIndex_8e157 : ByteArray := prog_26_method_11_code
def yJ3_checkIndex_8e157 : MethodName := ⟨RJ3, "checkIndex", "(IILjava/util/function/BiFunction;)I"⟩
def RL : String := "WagonplayLaw"
abbrev cL_cell : ByteArray := method_2_code
def yL_cell : MethodName := ⟨RL, "cell", "([II)I"⟩
abbrev cL_addGuild : ByteArray := method_3_code
def yL_addGuild : MethodName := ⟨RL, "addGuild", "(LWagonplay;III)I"⟩
abbrev cL_merge : ByteArray := method_4_code
def yL_merge : MethodName := ⟨RL, "merge", "(LWagonplay;II)I"⟩
abbrev cL_of : ByteArray := method_5_code
def yL_of : MethodName := ⟨RL, "of", "(LWagonplay;IC)I"⟩
abbrev cL_type : ByteArray := method_6_code
def yL_type : MethodName := ⟨RL, "type", "(LWagonplay;C)I"⟩
abbrev cL_subject : ByteArray := method_7_code
def yL_subject : MethodName := ⟨RL, "subject", "(LWagonplay;I)I"⟩
abbrev cL_learn : ByteArray := method_8_code
def yL_learn : MethodName := ⟨RL, "learn", "(LWagonplay;II)I"⟩
abbrev cL_cast : ByteArray := method_9_code
def yL_cast : MethodName := ⟨RL, "cast", "(LWagonplay;III)I"⟩
abbrev cL_wagon : ByteArray := method_10_code
def yL_wagon : MethodName := ⟨RL, "wagon", "(LWagonplay;III)I"⟩
abbrev cL_mend : ByteArray := method_11_code
def yL_mend : MethodName := ⟨RL, "mend", "(LWagonplay;II)I"⟩
abbrev cL_put : ByteArray := method_12_code
def yL_put : MethodName := ⟨RL, "put", "(LWagonplay;II)I"⟩
abbrev cL_place : ByteArray := method_13_code
def yL_place : MethodName := ⟨RL, "place", "(LWagonplay;I)I"⟩
abbrev cL_add : ByteArray := method_14_code
def yL_add : MethodName := ⟨RL, "add", "(LWagonplay;II)I"⟩
abbrev cL_day : ByteArray := method_15_code
def yL_day : MethodName := ⟨RL, "day", "(LWagonplay;)I"⟩
abbrev cL_end : ByteArray := method_16_code
def yL_end : MethodName := ⟨RL, "end", "(LWagonplay;)I"⟩
abbrev cL_foresee : ByteArray := method_17_code
def yL_foresee : MethodName := ⟨RL, "foresee", "(LWagonplay;)I"⟩
abbrev cL_leaves : ByteArray := method_18_code
def yL_leaves : MethodName := ⟨RL, "leaves", "(LWagonplay;I)I"⟩
abbrev cL_known : ByteArray := method_19_code
def yL_known : MethodName := ⟨RL, "known", "(LWagonplay;I)I"⟩
abbrev cL_year : ByteArray := method_20_code
def yL_year : MethodName := ⟨RL, "year", "(LWagonplay;)I"⟩
abbrev cL_isOver : ByteArray := method_21_code
def yL_isOver : MethodName := ⟨RL, "isOver", "(LWagonplay;I)I"⟩
abbrev cL_strike : ByteArray := method_22_code
def yL_strike : MethodName := ⟨RL, "strike", "(LWagonplay;Z)I"⟩
abbrev cL_lose : ByteArray := method_23_code
def yL_lose : MethodName := ⟨RL, "lose", "(LWagonplay;II)I"⟩
abbrev cL_in : ByteArray := method_24_code
def yL_in : MethodName := ⟨RL, "in", "([III)I"⟩
abbrev cL_types : ByteArray := method_25_code
def yL_types : MethodName := ⟨RL, "types", "(LWagonplay;Ljava/lang/String;)Z"⟩
abbrev cL_word : ByteArray := method_26_code
def yL_word : MethodName := ⟨RL, "word", "(I)Ljava/lang/String;"⟩
abbrev cL_law : ByteArray := code
def yL_law : MethodName := ⟨RL, "law", "([I)Z"⟩
abbrev vwCl : List vw_C := [(RJ0, TJ0, 2), (RJx00060, TJx00060, 6), (RX0, TX0, 3), (RX1, TX1, 7), (RX2, TX2, 2), (RX3, TX3, 3), (RX4, TX4, 7), (RX5, TX5, 8), (RX6, TX6, 7), (RX7, TX7, 16)]
end
section
def zB_0 : List Cond := [Cond.classLink RL 10 RX7, Cond.instantiable RX7 16, Cond.initialized RX7, Cond.arrayClass .int, Cond.arrayClass .char, Cond.arrayClass .boolean, Cond.classLink RL 131 "[[Z", Cond.classLink RL 133 "[[I", Cond.constant RL 17 (-900001), Cond.constant RL 29 (-900003), Cond.constant RL 20 (-900002), Cond.methodLink RL 126 yX7_init, Cond.instanceMethod yX7_init, Cond.code yX7_init cX7_init 2 none, Cond.methodLink RX7 1 objectInit, Cond.instanceMethod objectInit, Cond.code objectInit ⟨#[0xb1]⟩ 1 none, Cond.classLink RX7 9 RX1, Cond.fieldLink RX7 11 "Wagonplay" "guilds" "[LWagonplay$Guild;", Cond.fieldLink RX7 15 "Wagonplay" "order" "[I", Cond.classLink RX7 19 RX0, Cond.instantiable RX0 3, Cond.initialized RX0, Cond.fieldLink RX7 22 "Wagonplay" "ground" "LWagonplay$Ground;"]
theorem zB_0_in : ∀ w ∈ zB_0, w ∈ lw_tbl := List.forall_mem_cons.mpr ⟨List.mem_of_getElem? (i := 45) (by decide +kernel), List.forall_mem_cons.mpr ⟨List.mem_of_getElem? (i := 46) (by decide +kernel), List.forall_mem_cons.mpr ⟨List.mem_of_getElem? (i := 24) (by decide +kernel), List.forall_mem_cons.mpr ⟨List.mem_of_getElem? (i := 92) (by decide +kernel), List.forall_mem_cons.mpr ⟨List.mem_of_getElem? (i := 121) (by decide +kernel), List.forall_mem_cons.mpr ⟨List.mem_of_getElem? (i := 93) (by decide +kernel), List.forall_mem_cons.mpr ⟨List.mem_of_getElem? (i := 914) (by decide +kernel), List.forall_mem_cons.mpr ⟨List.mem_of_getElem? (i := 916) (by decide +kernel), List.forall_mem_cons.mpr ⟨List.mem_of_getElem? (i := 464) (by decide +kernel), List.forall_mem_cons.mpr ⟨List.mem_of_getElem? (i := 536) (by decide +kernel), List.forall_mem_cons.mpr ⟨List.mem_of_getElem? (i := 465) (by decide +kernel), List.forall_mem_cons.mpr ⟨List.mem_of_getElem? (i := 47) (by decide +kernel), List.forall_mem_cons.mpr ⟨List.mem_of_getElem? (i := 48) (by decide +kernel), List.forall_mem_cons.mpr ⟨List.mem_of_getElem? (i := 49) (by decide +kernel), List.forall_mem_cons.mpr ⟨List.mem_of_getElem? (i := 50) (by decide +kernel), List.forall_mem_cons.mpr ⟨List.mem_of_getElem? (i := 51) (by decide +kernel), List.forall_mem_cons.mpr ⟨List.mem_of_getElem? (i := 52) (by decide +kernel), List.forall_mem_cons.mpr ⟨List.mem_of_getElem? (i := 53) (by decide +kernel), List.forall_mem_cons.mpr ⟨List.mem_of_getElem? (i := 251) (by decide +kernel), List.forall_mem_cons.mpr ⟨List.mem_of_getElem? (i := 252) (by decide +kernel), List.forall_mem_cons.mpr ⟨List.mem_of_getElem? (i := 55) (by decide +kernel), List.forall_mem_cons.mpr ⟨List.mem_of_getElem? (i := 56) (by decide +kernel), List.forall_mem_cons.mpr ⟨List.mem_of_getElem? (i := 25) (by decide +kernel), List.forall_mem_cons.mpr ⟨List.mem_of_getElem? (i := 253) (by decide +kernel), (fun _ h => nomatch h)⟩⟩⟩⟩⟩⟩⟩⟩⟩⟩⟩⟩⟩⟩⟩⟩⟩⟩⟩⟩⟩⟩⟩⟩
def zB_1 : List Cond := [Cond.classLink RX7 26 RX2, Cond.instantiable RX2 2, Cond.initialized RX2, Cond.fieldLink RX7 29 "Wagonplay" "letters" "LWagonplay$Letters;", Cond.fieldLink RX7 33 "Wagonplay" "struck" "[Z", Cond.fieldLink RX7 37 "Wagonplay" "housePaid" "[I", Cond.classLink RX7 40 RX3, Cond.instantiable RX3 3, Cond.initialized RX3, Cond.fieldLink RX7 43 "Wagonplay" "today" "LWagonplay$Plan;", Cond.fieldLink RX7 47 "Wagonplay" "trial" "LWagonplay$Plan;", Cond.fieldLink RX7 50 "Wagonplay" "triedOrder" "[I", Cond.fieldLink RX7 53 "Wagonplay" "bestOrder" "[I", Cond.instantiable RX1 7, Cond.initialized RX1, Cond.methodLink RX7 21 yX0_init, Cond.instanceMethod yX0_init, Cond.code yX0_init cX0_init 2 none, Cond.methodLink RX0 3 objectInit, Cond.classLink RX0 9 RX6, Cond.fieldLink RX0 11 "Wagonplay$Ground" "stations" "[LWagonplay$Station;", Cond.fieldLink RX0 17 "Wagonplay$Ground" "wet" "[Z", Cond.instantiable RX6 7, Cond.initialized RX6]
theorem zB_1_in : ∀ w ∈ zB_1, w ∈ lw_tbl := List.forall_mem_cons.mpr ⟨List.mem_of_getElem? (i := 107) (by decide +kernel), List.forall_mem_cons.mpr ⟨List.mem_of_getElem? (i := 108) (by decide +kernel), List.forall_mem_cons.mpr ⟨List.mem_of_getElem? (i := 27) (by decide +kernel), List.forall_mem_cons.mpr ⟨List.mem_of_getElem? (i := 254) (by decide +kernel), List.forall_mem_cons.mpr ⟨List.mem_of_getElem? (i := 255) (by decide +kernel), List.forall_mem_cons.mpr ⟨List.mem_of_getElem? (i := 256) (by decide +kernel), List.forall_mem_cons.mpr ⟨List.mem_of_getElem? (i := 122) (by decide +kernel), List.forall_mem_cons.mpr ⟨List.mem_of_getElem? (i := 123) (by decide +kernel), List.forall_mem_cons.mpr ⟨List.mem_of_getElem? (i := 28) (by decide +kernel), List.forall_mem_cons.mpr ⟨List.mem_of_getElem? (i := 257) (by decide +kernel), List.forall_mem_cons.mpr ⟨List.mem_of_getElem? (i := 258) (by decide +kernel), List.forall_mem_cons.mpr ⟨List.mem_of_getElem? (i := 259) (by decide +kernel), List.forall_mem_cons.mpr ⟨List.mem_of_getElem? (i := 260) (by decide +kernel), List.forall_mem_cons.mpr ⟨List.mem_of_getElem? (i := 181) (by decide +kernel), List.forall_mem_cons.mpr ⟨List.mem_of_getElem? (i := 30) (by decide +kernel), List.forall_mem_cons.mpr ⟨List.mem_of_getElem? (i := 57) (by decide +kernel), List.forall_mem_cons.mpr ⟨List.mem_of_getElem? (i := 58) (by decide +kernel), List.forall_mem_cons.mpr ⟨List.mem_of_getElem? (i := 59) (by decide +kernel), List.forall_mem_cons.mpr ⟨List.mem_of_getElem? (i := 60) (by decide +kernel), List.forall_mem_cons.mpr ⟨List.mem_of_getElem? (i := 61) (by decide +kernel), List.forall_mem_cons.mpr ⟨List.mem_of_getElem? (i := 94) (by decide +kernel), List.forall_mem_cons.mpr ⟨List.mem_of_getElem? (i := 97) (by decide +kernel), List.forall_mem_cons.mpr ⟨List.mem_of_getElem? (i := 63) (by decide +kernel), List.forall_mem_cons.mpr ⟨List.mem_of_getElem? (i := 26) (by decide +kernel), (fun _ h => nomatch h)⟩⟩⟩⟩⟩⟩⟩⟩⟩⟩⟩⟩⟩⟩⟩⟩⟩⟩⟩⟩⟩⟩⟩⟩
def zB_2 : List Cond := [Cond.instanceMethod yX6_init, Cond.code yX6_init cX6_init 1 none, Cond.methodLink RX6 3 objectInit, Cond.fieldLink RX6 9 "Wagonplay$Station" "house" "I", Cond.instanceMethod yX2_init, Cond.code yX2_init cX2_init 1 none, Cond.methodLink RX2 3 objectInit, Cond.fieldLink RX2 9 "Wagonplay$Letters" "typed" "[C", Cond.methodLink RX7 42 yX3_init, Cond.instanceMethod yX3_init, Cond.code yX3_init cX3_init 2 none, Cond.methodLink RX3 3 objectInit, Cond.classLink RX3 9 RX5, Cond.fieldLink RX3 11 "Wagonplay$Plan" "shows" "[LWagonplay$Show;", Cond.instantiable RX5 8, Cond.initialized RX5, Cond.instanceMethod yX5_init, Cond.code yX5_init cX5_init 1 none, Cond.methodLink RX5 3 objectInit, Cond.fieldLink RX5 9 "Wagonplay$Show" "comes" "[I", Cond.fieldLink RX5 15 "Wagonplay$Show" "begins" "[I", Cond.fieldLink RX5 18 "Wagonplay$Show" "ends" "[I", Cond.fieldLink RX5 21 "Wagonplay$Show" "gaps" "[I", Cond.fieldLink RX5 24 "Wagonplay$Show" "said" "[I"]
theorem zB_2_in : ∀ w ∈ zB_2, w ∈ lw_tbl := List.forall_mem_cons.mpr ⟨List.mem_of_getElem? (i := 65) (by decide +kernel), List.forall_mem_cons.mpr ⟨List.mem_of_getElem? (i := 66) (by decide +kernel), List.forall_mem_cons.mpr ⟨List.mem_of_getElem? (i := 67) (by decide +kernel), List.forall_mem_cons.mpr ⟨List.mem_of_getElem? (i := 73) (by decide +kernel), List.forall_mem_cons.mpr ⟨List.mem_of_getElem? (i := 110) (by decide +kernel), List.forall_mem_cons.mpr ⟨List.mem_of_getElem? (i := 111) (by decide +kernel), List.forall_mem_cons.mpr ⟨List.mem_of_getElem? (i := 112) (by decide +kernel), List.forall_mem_cons.mpr ⟨List.mem_of_getElem? (i := 113) (by decide +kernel), List.forall_mem_cons.mpr ⟨List.mem_of_getElem? (i := 124) (by decide +kernel), List.forall_mem_cons.mpr ⟨List.mem_of_getElem? (i := 125) (by decide +kernel), List.forall_mem_cons.mpr ⟨List.mem_of_getElem? (i := 126) (by decide +kernel), List.forall_mem_cons.mpr ⟨List.mem_of_getElem? (i := 127) (by decide +kernel), List.forall_mem_cons.mpr ⟨List.mem_of_getElem? (i := 128) (by decide +kernel), List.forall_mem_cons.mpr ⟨List.mem_of_getElem? (i := 168) (by decide +kernel), List.forall_mem_cons.mpr ⟨List.mem_of_getElem? (i := 130) (by decide +kernel), List.forall_mem_cons.mpr ⟨List.mem_of_getElem? (i := 29) (by decide +kernel), List.forall_mem_cons.mpr ⟨List.mem_of_getElem? (i := 132) (by decide +kernel), List.forall_mem_cons.mpr ⟨List.mem_of_getElem? (i := 133) (by decide +kernel), List.forall_mem_cons.mpr ⟨List.mem_of_getElem? (i := 134) (by decide +kernel), List.forall_mem_cons.mpr ⟨List.mem_of_getElem? (i := 138) (by decide +kernel), List.forall_mem_cons.mpr ⟨List.mem_of_getElem? (i := 140) (by decide +kernel), List.forall_mem_cons.mpr ⟨List.mem_of_getElem? (i := 142) (by decide +kernel), List.forall_mem_cons.mpr ⟨List.mem_of_getElem? (i := 144) (by decide +kernel), List.forall_mem_cons.mpr ⟨List.mem_of_getElem? (i := 146) (by decide +kernel), (fun _ h => nomatch h)⟩⟩⟩⟩⟩⟩⟩⟩⟩⟩⟩⟩⟩⟩⟩⟩⟩⟩⟩⟩⟩⟩⟩⟩
def zB_3 : List Cond := [Cond.fieldLink RX5 27 "Wagonplay$Show" "ways" "[C", Cond.instanceMethod yX1_init, Cond.code yX1_init cX1_init 1 none, Cond.methodLink RX1 1 objectInit, Cond.fieldLink RX1 7 "Wagonplay$Guild" "height" "I", Cond.fieldLink RX1 13 "Wagonplay$Guild" "hands" "I", Cond.fieldLink RX1 16 "Wagonplay$Guild" "wheels" "I", Cond.classLink RX1 19 RX4, Cond.instantiable RX4 7, Cond.initialized RX4, Cond.fieldLink RX1 22 "Wagonplay$Guild" "play" "LWagonplay$Play;", Cond.methodLink RX1 21 yX4_init, Cond.instanceMethod yX4_init, Cond.code yX4_init cX4_init 2 none, Cond.methodLink RX4 3 objectInit, Cond.fieldLink RX4 9 "Wagonplay$Play" "players" "[I", Cond.fieldLink RX4 15 "Wagonplay$Play" "lost" "[Z", Cond.methodLink RL 127 yL_in, Cond.static yL_in, Cond.initialized RL, Cond.code yL_in cL_in 3 (some .int), Cond.constant RL 101 (2147483647), Cond.methodLink RL 95 yL_cell, Cond.static yL_cell]
theorem zB_3_in : ∀ w ∈ zB_3, w ∈ lw_tbl := List.forall_mem_cons.mpr ⟨List.mem_of_getElem? (i := 149) (by decide +kernel), List.forall_mem_cons.mpr ⟨List.mem_of_getElem? (i := 183) (by decide +kernel), List.forall_mem_cons.mpr ⟨List.mem_of_getElem? (i := 184) (by decide +kernel), List.forall_mem_cons.mpr ⟨List.mem_of_getElem? (i := 185) (by decide +kernel), List.forall_mem_cons.mpr ⟨List.mem_of_getElem? (i := 224) (by decide +kernel), List.forall_mem_cons.mpr ⟨List.mem_of_getElem? (i := 227) (by decide +kernel), List.forall_mem_cons.mpr ⟨List.mem_of_getElem? (i := 230) (by decide +kernel), List.forall_mem_cons.mpr ⟨List.mem_of_getElem? (i := 186) (by decide +kernel), List.forall_mem_cons.mpr ⟨List.mem_of_getElem? (i := 187) (by decide +kernel), List.forall_mem_cons.mpr ⟨List.mem_of_getElem? (i := 31) (by decide +kernel), List.forall_mem_cons.mpr ⟨List.mem_of_getElem? (i := 233) (by decide +kernel), List.forall_mem_cons.mpr ⟨List.mem_of_getElem? (i := 188) (by decide +kernel), List.forall_mem_cons.mpr ⟨List.mem_of_getElem? (i := 189) (by decide +kernel), List.forall_mem_cons.mpr ⟨List.mem_of_getElem? (i := 190) (by decide +kernel), List.forall_mem_cons.mpr ⟨List.mem_of_getElem? (i := 191) (by decide +kernel), List.forall_mem_cons.mpr ⟨List.mem_of_getElem? (i := 202) (by decide +kernel), List.forall_mem_cons.mpr ⟨List.mem_of_getElem? (i := 204) (by decide +kernel), List.forall_mem_cons.mpr ⟨List.mem_of_getElem? (i := 888) (by decide +kernel), List.forall_mem_cons.mpr ⟨List.mem_of_getElem? (i := 889) (by decide +kernel), List.forall_mem_cons.mpr ⟨List.mem_of_getElem? (i := 23) (by decide +kernel), List.forall_mem_cons.mpr ⟨List.mem_of_getElem? (i := 890) (by decide +kernel), List.forall_mem_cons.mpr ⟨List.mem_of_getElem? (i := 896) (by decide +kernel), List.forall_mem_cons.mpr ⟨List.mem_of_getElem? (i := 891) (by decide +kernel), List.forall_mem_cons.mpr ⟨List.mem_of_getElem? (i := 892) (by decide +kernel), (fun _ h => nomatch h)⟩⟩⟩⟩⟩⟩⟩⟩⟩⟩⟩⟩⟩⟩⟩⟩⟩⟩⟩⟩⟩⟩⟩⟩
def zB_4 : List Cond := [Cond.code yL_cell cL_cell 3 (some .int), Cond.constant RL 7 (69069), Cond.constant RL 8 (1103515245), Cond.methodLink RL 135 yL_addGuild, Cond.static yL_addGuild, Cond.codeWith yL_addGuild cL_addGuild 5 (some .int) [(0, 7, 8, 15), (0, 7, 13, 18)], Cond.classLink RL 15 "java/lang/IllegalArgumentException", Cond.classLink RL 18 "java/lang/IllegalStateException", Cond.methodLink RL 9 yX7_addGuild, Cond.instanceMethod yX7_addGuild, Cond.selects RX7 yX7_addGuild yX7_addGuild, Cond.code yX7_addGuild cX7_addGuild 6 (some .int), Cond.classLink RX7 65 "java/lang/IllegalStateException", Cond.initialized "java/lang/IllegalStateException", Cond.fieldLink RX7 61 "Wagonplay" "guildCount" "I", Cond.fieldLink RX7 72 "Wagonplay$Guild" "wealth" "I", Cond.fieldLink RX7 75 "Wagonplay$Guild" "play" "LWagonplay$Play;", Cond.fieldLink RX7 85 "Wagonplay" "wealthBrought" "I", Cond.methodLink RX7 57 yX7_needRange, Cond.static yX7_needRange, Cond.code yX7_needRange cX7_needRange 3 none, Cond.classLink RX7 92 "java/lang/IllegalArgumentException", Cond.initialized "java/lang/IllegalArgumentException", Cond.methodLink RX7 79 yX4_write]
theorem zB_4_in : ∀ w ∈ zB_4, w ∈ lw_tbl := List.forall_mem_cons.mpr ⟨List.mem_of_getElem? (i := 893) (by decide +kernel), List.forall_mem_cons.mpr ⟨List.mem_of_getElem? (i := 894) (by decide +kernel), List.forall_mem_cons.mpr ⟨List.mem_of_getElem? (i := 895) (by decide +kernel), List.forall_mem_cons.mpr ⟨List.mem_of_getElem? (i := 362) (by decide +kernel), List.forall_mem_cons.mpr ⟨List.mem_of_getElem? (i := 363) (by decide +kernel), List.forall_mem_cons.mpr ⟨List.mem_of_getElem? (i := 364) (by decide +kernel), List.forall_mem_cons.mpr ⟨List.mem_of_getElem? (i := 365) (by decide +kernel), List.forall_mem_cons.mpr ⟨List.mem_of_getElem? (i := 366) (by decide +kernel), List.forall_mem_cons.mpr ⟨List.mem_of_getElem? (i := 367) (by decide +kernel), List.forall_mem_cons.mpr ⟨List.mem_of_getElem? (i := 368) (by decide +kernel), List.forall_mem_cons.mpr ⟨List.mem_of_getElem? (i := 369) (by decide +kernel), List.forall_mem_cons.mpr ⟨List.mem_of_getElem? (i := 370) (by decide +kernel), List.forall_mem_cons.mpr ⟨List.mem_of_getElem? (i := 444) (by decide +kernel), List.forall_mem_cons.mpr ⟨List.mem_of_getElem? (i := 36) (by decide +kernel), List.forall_mem_cons.mpr ⟨List.mem_of_getElem? (i := 261) (by decide +kernel), List.forall_mem_cons.mpr ⟨List.mem_of_getElem? (i := 221) (by decide +kernel), List.forall_mem_cons.mpr ⟨List.mem_of_getElem? (i := 234) (by decide +kernel), List.forall_mem_cons.mpr ⟨List.mem_of_getElem? (i := 264) (by decide +kernel), List.forall_mem_cons.mpr ⟨List.mem_of_getElem? (i := 371) (by decide +kernel), List.forall_mem_cons.mpr ⟨List.mem_of_getElem? (i := 372) (by decide +kernel), List.forall_mem_cons.mpr ⟨List.mem_of_getElem? (i := 373) (by decide +kernel), List.forall_mem_cons.mpr ⟨List.mem_of_getElem? (i := 374) (by decide +kernel), List.forall_mem_cons.mpr ⟨List.mem_of_getElem? (i := 35) (by decide +kernel), List.forall_mem_cons.mpr ⟨List.mem_of_getElem? (i := 460) (by decide +kernel), (fun _ h => nomatch h)⟩⟩⟩⟩⟩⟩⟩⟩⟩⟩⟩⟩⟩⟩⟩⟩⟩⟩⟩⟩⟩⟩⟩⟩
def zB_5 : List Cond := [Cond.instanceMethod yX4_write, Cond.selects RX4 yX4_write yX4_write, Cond.code yX4_write cX4_write 3 none, Cond.fieldLink RX4 19 "Wagonplay$Play" "lines" "I", Cond.fieldLink RX4 23 "Wagonplay$Play" "linesInBook" "I", Cond.fieldLink RX4 26 "Wagonplay$Play" "parts" "I", Cond.methodLink RL 138 yL_isOver, Cond.static yL_isOver, Cond.codeWith yL_isOver cL_isOver 3 (some .int) [(0, 13, 14, 25)], Cond.classLink RL 25 "java/lang/IndexOutOfBoundsException", Cond.methodLink RL 83 yX7_isOver, Cond.instanceMethod yX7_isOver, Cond.selects RX7 yX7_isOver yX7_isOver, Cond.code yX7_isOver cX7_isOver 2 (some .boolean), Cond.fieldLink RX7 100 "Wagonplay$Guild" "over" "Z", Cond.methodLink RX7 88 yX7_needGuild, Cond.instanceMethod yX7_needGuild, Cond.selects RX7 yX7_needGuild yX7_needGuild, Cond.code yX7_needGuild cX7_needGuild 2 none, Cond.classLink RX7 158 "java/lang/IndexOutOfBoundsException", Cond.initialized "java/lang/IndexOutOfBoundsException", Cond.methodLink RL 141 yL_strike, Cond.static yL_strike, Cond.codeWith yL_strike cL_strike 3 (some .int) [(0, 13, 14, 27)]]
theorem zB_5_in : ∀ w ∈ zB_5, w ∈ lw_tbl := List.forall_mem_cons.mpr ⟨List.mem_of_getElem? (i := 461) (by decide +kernel), List.forall_mem_cons.mpr ⟨List.mem_of_getElem? (i := 462) (by decide +kernel), List.forall_mem_cons.mpr ⟨List.mem_of_getElem? (i := 463) (by decide +kernel), List.forall_mem_cons.mpr ⟨List.mem_of_getElem? (i := 192) (by decide +kernel), List.forall_mem_cons.mpr ⟨List.mem_of_getElem? (i := 201) (by decide +kernel), List.forall_mem_cons.mpr ⟨List.mem_of_getElem? (i := 196) (by decide +kernel), List.forall_mem_cons.mpr ⟨List.mem_of_getElem? (i := 867) (by decide +kernel), List.forall_mem_cons.mpr ⟨List.mem_of_getElem? (i := 868) (by decide +kernel), List.forall_mem_cons.mpr ⟨List.mem_of_getElem? (i := 869) (by decide +kernel), List.forall_mem_cons.mpr ⟨List.mem_of_getElem? (i := 469) (by decide +kernel), List.forall_mem_cons.mpr ⟨List.mem_of_getElem? (i := 870) (by decide +kernel), List.forall_mem_cons.mpr ⟨List.mem_of_getElem? (i := 871) (by decide +kernel), List.forall_mem_cons.mpr ⟨List.mem_of_getElem? (i := 872) (by decide +kernel), List.forall_mem_cons.mpr ⟨List.mem_of_getElem? (i := 873) (by decide +kernel), List.forall_mem_cons.mpr ⟨List.mem_of_getElem? (i := 223) (by decide +kernel), List.forall_mem_cons.mpr ⟨List.mem_of_getElem? (i := 498) (by decide +kernel), List.forall_mem_cons.mpr ⟨List.mem_of_getElem? (i := 500) (by decide +kernel), List.forall_mem_cons.mpr ⟨List.mem_of_getElem? (i := 6) (by decide +kernel), List.forall_mem_cons.mpr ⟨List.mem_of_getElem? (i := 501) (by decide +kernel), List.forall_mem_cons.mpr ⟨List.mem_of_getElem? (i := 502) (by decide +kernel), List.forall_mem_cons.mpr ⟨List.mem_of_getElem? (i := 37) (by decide +kernel), List.forall_mem_cons.mpr ⟨List.mem_of_getElem? (i := 874) (by decide +kernel), List.forall_mem_cons.mpr ⟨List.mem_of_getElem? (i := 875) (by decide +kernel), List.forall_mem_cons.mpr ⟨List.mem_of_getElem? (i := 876) (by decide +kernel), (fun _ h => nomatch h)⟩⟩⟩⟩⟩⟩⟩⟩⟩⟩⟩⟩⟩⟩⟩⟩⟩⟩⟩⟩⟩⟩⟩⟩
def zB_6 : List Cond := [Cond.classLink RL 27 "java/lang/UnsupportedOperationException", Cond.methodLink RL 87 yX7_strike, Cond.instanceMethod yX7_strike, Cond.selects RX7 yX7_strike yX7_strike, Cond.code yX7_strike cX7_strike 4 (some .boolean), Cond.methodLink RX7 136 yX7_typedSubject, Cond.instanceMethod yX7_typedSubject, Cond.selects RX7 yX7_typedSubject yX7_typedSubject, Cond.code yX7_typedSubject cX7_typedSubject 2 (some .int), Cond.classLink RX7 172 "java/lang/UnsupportedOperationException", Cond.initialized "java/lang/UnsupportedOperationException", Cond.methodLink RX7 371 yX2_spelt, Cond.instanceMethod yX2_spelt, Cond.selects RX2 yX2_spelt yX2_spelt, Cond.code yX2_spelt cX2_spelt 2 (some .int), Cond.methodLink RX2 19 yX2_wordOf, Cond.static yX2_wordOf, Cond.code yX2_wordOf cX2_wordOf 1 (some (.object "java/lang/String")), Cond.methodLink RX2 23 yX2_isTyped, Cond.instanceMethod yX2_isTyped, Cond.selects RX2 yX2_isTyped yX2_isTyped, Cond.code yX2_isTyped cX2_isTyped 3 (some .boolean), Cond.fieldLink RX2 15 "Wagonplay$Letters" "count" "I", Cond.methodLink RX2 27 yJ0_length_8abf5]
theorem zB_6_in : ∀ w ∈ zB_6, w ∈ lw_tbl := List.forall_mem_cons.mpr ⟨List.mem_of_getElem? (i := 493) (by decide +kernel), List.forall_mem_cons.mpr ⟨List.mem_of_getElem? (i := 877) (by decide +kernel), List.forall_mem_cons.mpr ⟨List.mem_of_getElem? (i := 878) (by decide +kernel), List.forall_mem_cons.mpr ⟨List.mem_of_getElem? (i := 879) (by decide +kernel), List.forall_mem_cons.mpr ⟨List.mem_of_getElem? (i := 880) (by decide +kernel), List.forall_mem_cons.mpr ⟨List.mem_of_getElem? (i := 565) (by decide +kernel), List.forall_mem_cons.mpr ⟨List.mem_of_getElem? (i := 567) (by decide +kernel), List.forall_mem_cons.mpr ⟨List.mem_of_getElem? (i := 8) (by decide +kernel), List.forall_mem_cons.mpr ⟨List.mem_of_getElem? (i := 568) (by decide +kernel), List.forall_mem_cons.mpr ⟨List.mem_of_getElem? (i := 520) (by decide +kernel), List.forall_mem_cons.mpr ⟨List.mem_of_getElem? (i := 43) (by decide +kernel), List.forall_mem_cons.mpr ⟨List.mem_of_getElem? (i := 569) (by decide +kernel), List.forall_mem_cons.mpr ⟨List.mem_of_getElem? (i := 570) (by decide +kernel), List.forall_mem_cons.mpr ⟨List.mem_of_getElem? (i := 571) (by decide +kernel), List.forall_mem_cons.mpr ⟨List.mem_of_getElem? (i := 572) (by decide +kernel), List.forall_mem_cons.mpr ⟨List.mem_of_getElem? (i := 573) (by decide +kernel), List.forall_mem_cons.mpr ⟨List.mem_of_getElem? (i := 574) (by decide +kernel), List.forall_mem_cons.mpr ⟨List.mem_of_getElem? (i := 575) (by decide +kernel), List.forall_mem_cons.mpr ⟨List.mem_of_getElem? (i := 581) (by decide +kernel), List.forall_mem_cons.mpr ⟨List.mem_of_getElem? (i := 583) (by decide +kernel), List.forall_mem_cons.mpr ⟨List.mem_of_getElem? (i := 9) (by decide +kernel), List.forall_mem_cons.mpr ⟨List.mem_of_getElem? (i := 584) (by decide +kernel), List.forall_mem_cons.mpr ⟨List.mem_of_getElem? (i := 114) (by decide +kernel), List.forall_mem_cons.mpr ⟨List.mem_of_getElem? (i := 585) (by decide +kernel), (fun _ h => nomatch h)⟩⟩⟩⟩⟩⟩⟩⟩⟩⟩⟩⟩⟩⟩⟩⟩⟩⟩⟩⟩⟩⟩⟩⟩
def zB_7 : List Cond := [Cond.instanceMethod yJ0_length_8abf5, Cond.selects RJ0 yJ0_length_8abf5 yJ0_length_8abf5, Cond.initialized RJ0, Cond.code yJ0_length_8abf5 cJ0_length_8abf5 1 (some .int), Cond.fieldLink RJ0 9 "java/lang/String" "value" "[B", Cond.methodLink RJ0 335 yJ0_coder_7d493, Cond.instanceMethod yJ0_coder_7d493, Cond.selects RJ0 yJ0_coder_7d493 yJ0_coder_7d493, Cond.code yJ0_coder_7d493 cJ0_coder_7d493 1 (some .byte), Cond.fieldLink RJ0 38 "java/lang/String" "COMPACT_STRINGS" "Z", Cond.fieldLink RJ0 15 "java/lang/String" "coder" "B", Cond.methodLink RX2 33 yJ0_charAt_5068e, Cond.instanceMethod yJ0_charAt_5068e, Cond.selects RJ0 yJ0_charAt_5068e yJ0_charAt_5068e, Cond.code yJ0_charAt_5068e cJ0_charAt_5068e 2 (some .char), Cond.methodLink RJ0 492 yJ0_isLatin1_aae02, Cond.instanceMethod yJ0_isLatin1_aae02, Cond.selects RJ0 yJ0_isLatin1_aae02 yJ0_isLatin1_aae02, Cond.code yJ0_isLatin1_aae02 cJ0_isLatin1_aae02 1 (some .boolean), Cond.methodLink RJ0 495 yJ1_charAt_3b067, Cond.static yJ1_charAt_3b067, Cond.initialized RJ1, Cond.code yJ1_charAt_3b067 cJ1_charAt_3b067 2 (some .char), Cond.methodLink RJ1 9 yJ0_checkIndex_df160]
theorem zB_7_in : ∀ w ∈ zB_7, w ∈ lw_tbl := List.forall_mem_cons.mpr ⟨List.mem_of_getElem? (i := 586) (by decide +kernel), List.forall_mem_cons.mpr ⟨List.mem_of_getElem? (i := 587) (by decide +kernel), List.forall_mem_cons.mpr ⟨List.mem_of_getElem? (i := 39) (by decide +kernel), List.forall_mem_cons.mpr ⟨List.mem_of_getElem? (i := 588) (by decide +kernel), List.forall_mem_cons.mpr ⟨List.mem_of_getElem? (i := 921) (by decide +kernel), List.forall_mem_cons.mpr ⟨List.mem_of_getElem? (i := 589) (by decide +kernel), List.forall_mem_cons.mpr ⟨List.mem_of_getElem? (i := 590) (by decide +kernel), List.forall_mem_cons.mpr ⟨List.mem_of_getElem? (i := 591) (by decide +kernel), List.forall_mem_cons.mpr ⟨List.mem_of_getElem? (i := 592) (by decide +kernel), List.forall_mem_cons.mpr ⟨List.mem_of_getElem? (i := 593) (by decide +kernel), List.forall_mem_cons.mpr ⟨List.mem_of_getElem? (i := 922) (by decide +kernel), List.forall_mem_cons.mpr ⟨List.mem_of_getElem? (i := 595) (by decide +kernel), List.forall_mem_cons.mpr ⟨List.mem_of_getElem? (i := 596) (by decide +kernel), List.forall_mem_cons.mpr ⟨List.mem_of_getElem? (i := 597) (by decide +kernel), List.forall_mem_cons.mpr ⟨List.mem_of_getElem? (i := 598) (by decide +kernel), List.forall_mem_cons.mpr ⟨List.mem_of_getElem? (i := 599) (by decide +kernel), List.forall_mem_cons.mpr ⟨List.mem_of_getElem? (i := 600) (by decide +kernel), List.forall_mem_cons.mpr ⟨List.mem_of_getElem? (i := 601) (by decide +kernel), List.forall_mem_cons.mpr ⟨List.mem_of_getElem? (i := 602) (by decide +kernel), List.forall_mem_cons.mpr ⟨List.mem_of_getElem? (i := 603) (by decide +kernel), List.forall_mem_cons.mpr ⟨List.mem_of_getElem? (i := 604) (by decide +kernel), List.forall_mem_cons.mpr ⟨List.mem_of_getElem? (i := 40) (by decide +kernel), List.forall_mem_cons.mpr ⟨List.mem_of_getElem? (i := 605) (by decide +kernel), List.forall_mem_cons.mpr ⟨List.mem_of_getElem? (i := 606) (by decide +kernel), (fun _ h => nomatch h)⟩⟩⟩⟩⟩⟩⟩⟩⟩⟩⟩⟩⟩⟩⟩⟩⟩⟩⟩⟩⟩⟩⟩⟩
def zB_8 : List Cond := [Cond.static yJ0_checkIndex_df160, Cond.code yJ0_checkIndex_df160 cJ0_checkIndex_df160 2 none, Cond.fieldLink RJ0 1053 "jdk/internal/util/Preconditions" "SIOOBE_FORMATTER" "Ljava/util/function/BiFunction;", Cond.methodLink RJ0 1059 yJ3_checkIndex_8e157, Cond.static yJ3_checkIndex_8e157, Cond.initialized RJ3, Cond.code yJ3_checkIndex_8e157 cJ3_checkIndex_8e157 3 (some .int), Cond.methodLink RJ0 498 yJ2_charAt_3b067, Cond.static yJ2_charAt_3b067, Cond.initialized RJ2, Cond.code yJ2_charAt_3b067 cJ2_charAt_3b067 2 (some .char), Cond.methodLink RJ2 67 yJ2_checkIndex_2214a, Cond.static yJ2_checkIndex_2214a, Cond.code yJ2_checkIndex_2214a cJ2_checkIndex_2214a 2 none, Cond.methodLink RJ2 48 yJ2_length_9d52b, Cond.static yJ2_length_9d52b, Cond.code yJ2_length_9d52b cJ2_length_9d52b 1 (some .int), Cond.methodLink RJ2 414 yJ0_checkIndex_df160, Cond.methodLink RJ2 71 yJ2_getChar_3b067, Cond.static yJ2_getChar_3b067, Cond.code yJ2_getChar_3b067 cJ2_getChar_3b067 2 (some .char), Cond.fieldLink RJ2 44 "java/lang/StringUTF16" "$assertionsDisabled" "Z", Cond.fieldLink RJ2 59 "java/lang/StringUTF16" "HI_BYTE_SHIFT" "I", Cond.fieldLink RJ2 63 "java/lang/StringUTF16" "LO_BYTE_SHIFT" "I"]
theorem zB_8_in : ∀ w ∈ zB_8, w ∈ lw_tbl := List.forall_mem_cons.mpr ⟨List.mem_of_getElem? (i := 607) (by decide +kernel), List.forall_mem_cons.mpr ⟨List.mem_of_getElem? (i := 608) (by decide +kernel), List.forall_mem_cons.mpr ⟨List.mem_of_getElem? (i := 609) (by decide +kernel), List.forall_mem_cons.mpr ⟨List.mem_of_getElem? (i := 611) (by decide +kernel), List.forall_mem_cons.mpr ⟨List.mem_of_getElem? (i := 612) (by decide +kernel), List.forall_mem_cons.mpr ⟨List.mem_of_getElem? (i := 41) (by decide +kernel), List.forall_mem_cons.mpr ⟨List.mem_of_getElem? (i := 613) (by decide +kernel), List.forall_mem_cons.mpr ⟨List.mem_of_getElem? (i := 614) (by decide +kernel), List.forall_mem_cons.mpr ⟨List.mem_of_getElem? (i := 615) (by decide +kernel), List.forall_mem_cons.mpr ⟨List.mem_of_getElem? (i := 42) (by decide +kernel), List.forall_mem_cons.mpr ⟨List.mem_of_getElem? (i := 616) (by decide +kernel), List.forall_mem_cons.mpr ⟨List.mem_of_getElem? (i := 617) (by decide +kernel), List.forall_mem_cons.mpr ⟨List.mem_of_getElem? (i := 618) (by decide +kernel), List.forall_mem_cons.mpr ⟨List.mem_of_getElem? (i := 619) (by decide +kernel), List.forall_mem_cons.mpr ⟨List.mem_of_getElem? (i := 620) (by decide +kernel), List.forall_mem_cons.mpr ⟨List.mem_of_getElem? (i := 621) (by decide +kernel), List.forall_mem_cons.mpr ⟨List.mem_of_getElem? (i := 622) (by decide +kernel), List.forall_mem_cons.mpr ⟨List.mem_of_getElem? (i := 623) (by decide +kernel), List.forall_mem_cons.mpr ⟨List.mem_of_getElem? (i := 624) (by decide +kernel), List.forall_mem_cons.mpr ⟨List.mem_of_getElem? (i := 625) (by decide +kernel), List.forall_mem_cons.mpr ⟨List.mem_of_getElem? (i := 626) (by decide +kernel), List.forall_mem_cons.mpr ⟨List.mem_of_getElem? (i := 627) (by decide +kernel), List.forall_mem_cons.mpr ⟨List.mem_of_getElem? (i := 629) (by decide +kernel), List.forall_mem_cons.mpr ⟨List.mem_of_getElem? (i := 631) (by decide +kernel), (fun _ h => nomatch h)⟩⟩⟩⟩⟩⟩⟩⟩⟩⟩⟩⟩⟩⟩⟩⟩⟩⟩⟩⟩⟩⟩⟩⟩
def zB_9 : List Cond := [Cond.methodLink RL 113 yL_type, Cond.static yL_type, Cond.codeWith yL_type cL_type 3 (some .int) [(0, 5, 6, 15), (0, 5, 10, 18)], Cond.methodLink RL 34 yX7_type, Cond.instanceMethod yX7_type, Cond.selects RX7 yX7_type yX7_type, Cond.code yX7_type cX7_type 2 (some .int), Cond.fieldLink RX7 127 "Wagonplay$Letters" "count" "I", Cond.methodLink RX7 132 yX2_append, Cond.instanceMethod yX2_append, Cond.selects RX2 yX2_append yX2_append, Cond.code yX2_append cX2_append 2 none, Cond.methodLink RL 144 yL_learn, Cond.static yL_learn, Cond.codeWith yL_learn cL_learn 4 (some .int) [(0, 6, 7, 25), (0, 6, 11, 15), (0, 6, 15, 27)], Cond.methodLink RL 42 yX7_learn, Cond.instanceMethod yX7_learn, Cond.selects RX7 yX7_learn yX7_learn, Cond.code yX7_learn cX7_learn 4 (some .int), Cond.fieldLink RX7 110 "Wagonplay$Play" "learnt" "I", Cond.methodLink RX7 152 Lib.Math.min.name, Cond.static Lib.Math.min.name, Cond.initialized "java/lang/Math", Cond.code Lib.Math.min.name Lib.Math.min.code 2 (some .int)]
theorem zB_9_in : ∀ w ∈ zB_9, w ∈ lw_tbl := List.forall_mem_cons.mpr ⟨List.mem_of_getElem? (i := 545) (by decide +kernel), List.forall_mem_cons.mpr ⟨List.mem_of_getElem? (i := 546) (by decide +kernel), List.forall_mem_cons.mpr ⟨List.mem_of_getElem? (i := 547) (by decide +kernel), List.forall_mem_cons.mpr ⟨List.mem_of_getElem? (i := 548) (by decide +kernel), List.forall_mem_cons.mpr ⟨List.mem_of_getElem? (i := 549) (by decide +kernel), List.forall_mem_cons.mpr ⟨List.mem_of_getElem? (i := 550) (by decide +kernel), List.forall_mem_cons.mpr ⟨List.mem_of_getElem? (i := 551) (by decide +kernel), List.forall_mem_cons.mpr ⟨List.mem_of_getElem? (i := 115) (by decide +kernel), List.forall_mem_cons.mpr ⟨List.mem_of_getElem? (i := 554) (by decide +kernel), List.forall_mem_cons.mpr ⟨List.mem_of_getElem? (i := 555) (by decide +kernel), List.forall_mem_cons.mpr ⟨List.mem_of_getElem? (i := 556) (by decide +kernel), List.forall_mem_cons.mpr ⟨List.mem_of_getElem? (i := 557) (by decide +kernel), List.forall_mem_cons.mpr ⟨List.mem_of_getElem? (i := 636) (by decide +kernel), List.forall_mem_cons.mpr ⟨List.mem_of_getElem? (i := 637) (by decide +kernel), List.forall_mem_cons.mpr ⟨List.mem_of_getElem? (i := 638) (by decide +kernel), List.forall_mem_cons.mpr ⟨List.mem_of_getElem? (i := 639) (by decide +kernel), List.forall_mem_cons.mpr ⟨List.mem_of_getElem? (i := 640) (by decide +kernel), List.forall_mem_cons.mpr ⟨List.mem_of_getElem? (i := 641) (by decide +kernel), List.forall_mem_cons.mpr ⟨List.mem_of_getElem? (i := 642) (by decide +kernel), List.forall_mem_cons.mpr ⟨List.mem_of_getElem? (i := 200) (by decide +kernel), List.forall_mem_cons.mpr ⟨List.mem_of_getElem? (i := 643) (by decide +kernel), List.forall_mem_cons.mpr ⟨List.mem_of_getElem? (i := 324) (by decide +kernel), List.forall_mem_cons.mpr ⟨List.mem_of_getElem? (i := 44) (by decide +kernel), List.forall_mem_cons.mpr ⟨List.mem_of_getElem? (i := 325) (by decide +kernel), (fun _ h => nomatch h)⟩⟩⟩⟩⟩⟩⟩⟩⟩⟩⟩⟩⟩⟩⟩⟩⟩⟩⟩⟩⟩⟩⟩⟩
def zB_10 : List Cond := [Cond.methodLink RX7 97 yX7_needNotOver, Cond.instanceMethod yX7_needNotOver, Cond.selects RX7 yX7_needNotOver yX7_needNotOver, Cond.code yX7_needNotOver cX7_needNotOver 2 none, Cond.methodLink RL 147 yL_cast, Cond.static yL_cast, Cond.codeWith yL_cast cL_cast 5 (some .int) [(0, 7, 8, 25), (0, 7, 13, 15)], Cond.methodLink RL 45 yX7_cast, Cond.instanceMethod yX7_cast, Cond.selects RX7 yX7_cast yX7_cast, Cond.code yX7_cast cX7_cast 6 (some .int), Cond.fieldLink RX7 107 "Wagonplay$Play" "parts" "I", Cond.fieldLink RX7 163 "Wagonplay$Play" "players" "[I", Cond.methodLink RL 149 yL_mend, Cond.static yL_mend, Cond.codeWith yL_mend cL_mend 4 (some .int) [(0, 6, 7, 25), (0, 6, 11, 15), (0, 6, 15, 27)], Cond.methodLink RL 51 yX7_mend, Cond.instanceMethod yX7_mend, Cond.selects RX7 yX7_mend yX7_mend, Cond.code yX7_mend cX7_mend 4 (some .int), Cond.fieldLink RX7 113 "Wagonplay$Guild" "wheels" "I", Cond.methodLink RX7 177 yX7_charge, Cond.instanceMethod yX7_charge, Cond.selects RX7 yX7_charge yX7_charge]
theorem zB_10_in : ∀ w ∈ zB_10, w ∈ lw_tbl := List.forall_mem_cons.mpr ⟨List.mem_of_getElem? (i := 516) (by decide +kernel), List.forall_mem_cons.mpr ⟨List.mem_of_getElem? (i := 518) (by decide +kernel), List.forall_mem_cons.mpr ⟨List.mem_of_getElem? (i := 7) (by decide +kernel), List.forall_mem_cons.mpr ⟨List.mem_of_getElem? (i := 519) (by decide +kernel), List.forall_mem_cons.mpr ⟨List.mem_of_getElem? (i := 644) (by decide +kernel), List.forall_mem_cons.mpr ⟨List.mem_of_getElem? (i := 645) (by decide +kernel), List.forall_mem_cons.mpr ⟨List.mem_of_getElem? (i := 646) (by decide +kernel), List.forall_mem_cons.mpr ⟨List.mem_of_getElem? (i := 647) (by decide +kernel), List.forall_mem_cons.mpr ⟨List.mem_of_getElem? (i := 648) (by decide +kernel), List.forall_mem_cons.mpr ⟨List.mem_of_getElem? (i := 649) (by decide +kernel), List.forall_mem_cons.mpr ⟨List.mem_of_getElem? (i := 650) (by decide +kernel), List.forall_mem_cons.mpr ⟨List.mem_of_getElem? (i := 197) (by decide +kernel), List.forall_mem_cons.mpr ⟨List.mem_of_getElem? (i := 203) (by decide +kernel), List.forall_mem_cons.mpr ⟨List.mem_of_getElem? (i := 659) (by decide +kernel), List.forall_mem_cons.mpr ⟨List.mem_of_getElem? (i := 660) (by decide +kernel), List.forall_mem_cons.mpr ⟨List.mem_of_getElem? (i := 661) (by decide +kernel), List.forall_mem_cons.mpr ⟨List.mem_of_getElem? (i := 662) (by decide +kernel), List.forall_mem_cons.mpr ⟨List.mem_of_getElem? (i := 663) (by decide +kernel), List.forall_mem_cons.mpr ⟨List.mem_of_getElem? (i := 664) (by decide +kernel), List.forall_mem_cons.mpr ⟨List.mem_of_getElem? (i := 665) (by decide +kernel), List.forall_mem_cons.mpr ⟨List.mem_of_getElem? (i := 232) (by decide +kernel), List.forall_mem_cons.mpr ⟨List.mem_of_getElem? (i := 667) (by decide +kernel), List.forall_mem_cons.mpr ⟨List.mem_of_getElem? (i := 669) (by decide +kernel), List.forall_mem_cons.mpr ⟨List.mem_of_getElem? (i := 10) (by decide +kernel), (fun _ h => nomatch h)⟩⟩⟩⟩⟩⟩⟩⟩⟩⟩⟩⟩⟩⟩⟩⟩⟩⟩⟩⟩⟩⟩⟩⟩
def zB_11 : List Cond := [Cond.code yX7_charge cX7_charge 3 none, Cond.fieldLink RX7 316 "Wagonplay" "townMoney" "I", Cond.methodLink RL 151 yL_merge, Cond.static yL_merge, Cond.codeWith yL_merge cL_merge 4 (some .int) [(0, 6, 7, 25), (0, 6, 11, 15), (0, 6, 15, 27)], Cond.methodLink RL 21 yX7_merge, Cond.instanceMethod yX7_merge, Cond.selects RX7 yX7_merge yX7_merge, Cond.code yX7_merge cX7_merge 5 (some .int), Cond.methodLink RL 153 yL_add, Cond.static yL_add, Cond.codeWith yL_add cL_add 4 (some .int) [(0, 6, 7, 25), (0, 6, 11, 15), (0, 6, 15, 27)], Cond.methodLink RL 61 yX7_add, Cond.instanceMethod yX7_add, Cond.selects RX7 yX7_add yX7_add, Cond.code yX7_add cX7_add 4 (some .int), Cond.fieldLink RX7 104 "Wagonplay$Play" "lines" "I", Cond.methodLink RX7 119 yX4_linesNotInBook, Cond.instanceMethod yX4_linesNotInBook, Cond.selects RX4 yX4_linesNotInBook yX4_linesNotInBook, Cond.code yX4_linesNotInBook cX4_linesNotInBook 1 (some .int), Cond.methodLink RL 155 yL_leaves, Cond.static yL_leaves, Cond.codeWith yL_leaves cL_leaves 3 (some .int) [(0, 5, 6, 25)]]
theorem zB_11_in : ∀ w ∈ zB_11, w ∈ lw_tbl := List.forall_mem_cons.mpr ⟨List.mem_of_getElem? (i := 670) (by decide +kernel), List.forall_mem_cons.mpr ⟨List.mem_of_getElem? (i := 263) (by decide +kernel), List.forall_mem_cons.mpr ⟨List.mem_of_getElem? (i := 466) (by decide +kernel), List.forall_mem_cons.mpr ⟨List.mem_of_getElem? (i := 467) (by decide +kernel), List.forall_mem_cons.mpr ⟨List.mem_of_getElem? (i := 468) (by decide +kernel), List.forall_mem_cons.mpr ⟨List.mem_of_getElem? (i := 494) (by decide +kernel), List.forall_mem_cons.mpr ⟨List.mem_of_getElem? (i := 495) (by decide +kernel), List.forall_mem_cons.mpr ⟨List.mem_of_getElem? (i := 496) (by decide +kernel), List.forall_mem_cons.mpr ⟨List.mem_of_getElem? (i := 497) (by decide +kernel), List.forall_mem_cons.mpr ⟨List.mem_of_getElem? (i := 689) (by decide +kernel), List.forall_mem_cons.mpr ⟨List.mem_of_getElem? (i := 690) (by decide +kernel), List.forall_mem_cons.mpr ⟨List.mem_of_getElem? (i := 691) (by decide +kernel), List.forall_mem_cons.mpr ⟨List.mem_of_getElem? (i := 692) (by decide +kernel), List.forall_mem_cons.mpr ⟨List.mem_of_getElem? (i := 693) (by decide +kernel), List.forall_mem_cons.mpr ⟨List.mem_of_getElem? (i := 694) (by decide +kernel), List.forall_mem_cons.mpr ⟨List.mem_of_getElem? (i := 695) (by decide +kernel), List.forall_mem_cons.mpr ⟨List.mem_of_getElem? (i := 193) (by decide +kernel), List.forall_mem_cons.mpr ⟨List.mem_of_getElem? (i := 303) (by decide +kernel), List.forall_mem_cons.mpr ⟨List.mem_of_getElem? (i := 304) (by decide +kernel), List.forall_mem_cons.mpr ⟨List.mem_of_getElem? (i := 305) (by decide +kernel), List.forall_mem_cons.mpr ⟨List.mem_of_getElem? (i := 306) (by decide +kernel), List.forall_mem_cons.mpr ⟨List.mem_of_getElem? (i := 831) (by decide +kernel), List.forall_mem_cons.mpr ⟨List.mem_of_getElem? (i := 832) (by decide +kernel), List.forall_mem_cons.mpr ⟨List.mem_of_getElem? (i := 833) (by decide +kernel), (fun _ h => nomatch h)⟩⟩⟩⟩⟩⟩⟩⟩⟩⟩⟩⟩⟩⟩⟩⟩⟩⟩⟩⟩⟩⟩⟩⟩
def zB_12 : List Cond := [Cond.methodLink RL 74 yX7_leaves, Cond.instanceMethod yX7_leaves, Cond.selects RX7 yX7_leaves yX7_leaves, Cond.code yX7_leaves cX7_leaves 2 (some .int), Cond.methodLink RX7 304 yX4_leafCount, Cond.instanceMethod yX4_leafCount, Cond.selects RX4 yX4_leafCount yX4_leafCount, Cond.code yX4_leafCount cX4_leafCount 1 (some .int), Cond.methodLink RL 157 yL_lose, Cond.static yL_lose, Cond.codeWith yL_lose cL_lose 4 (some .int) [(0, 14, 15, 25), (0, 14, 19, 15)], Cond.methodLink RL 91 yX7_lose, Cond.instanceMethod yX7_lose, Cond.selects RX7 yX7_lose yX7_lose, Cond.code yX7_lose cX7_lose 5 (some .boolean), Cond.fieldLink RX7 307 "Wagonplay$Play" "lost" "[Z", Cond.methodLink RL 159 yL_put, Cond.static yL_put, Cond.codeWith yL_put cL_put 4 (some .int) [(0, 6, 7, 25), (0, 6, 11, 15)], Cond.methodLink RL 54 yX7_put, Cond.instanceMethod yX7_put, Cond.selects RX7 yX7_put yX7_put, Cond.code yX7_put cX7_put 5 (some .int), Cond.methodLink RX7 213 yX7_placeOf]
theorem zB_12_in : ∀ w ∈ zB_12, w ∈ lw_tbl := List.forall_mem_cons.mpr ⟨List.mem_of_getElem? (i := 834) (by decide +kernel), List.forall_mem_cons.mpr ⟨List.mem_of_getElem? (i := 835) (by decide +kernel), List.forall_mem_cons.mpr ⟨List.mem_of_getElem? (i := 836) (by decide +kernel), List.forall_mem_cons.mpr ⟨List.mem_of_getElem? (i := 837) (by decide +kernel), List.forall_mem_cons.mpr ⟨List.mem_of_getElem? (i := 838) (by decide +kernel), List.forall_mem_cons.mpr ⟨List.mem_of_getElem? (i := 316) (by decide +kernel), List.forall_mem_cons.mpr ⟨List.mem_of_getElem? (i := 317) (by decide +kernel), List.forall_mem_cons.mpr ⟨List.mem_of_getElem? (i := 318) (by decide +kernel), List.forall_mem_cons.mpr ⟨List.mem_of_getElem? (i := 881) (by decide +kernel), List.forall_mem_cons.mpr ⟨List.mem_of_getElem? (i := 882) (by decide +kernel), List.forall_mem_cons.mpr ⟨List.mem_of_getElem? (i := 883) (by decide +kernel), List.forall_mem_cons.mpr ⟨List.mem_of_getElem? (i := 884) (by decide +kernel), List.forall_mem_cons.mpr ⟨List.mem_of_getElem? (i := 885) (by decide +kernel), List.forall_mem_cons.mpr ⟨List.mem_of_getElem? (i := 886) (by decide +kernel), List.forall_mem_cons.mpr ⟨List.mem_of_getElem? (i := 887) (by decide +kernel), List.forall_mem_cons.mpr ⟨List.mem_of_getElem? (i := 205) (by decide +kernel), List.forall_mem_cons.mpr ⟨List.mem_of_getElem? (i := 671) (by decide +kernel), List.forall_mem_cons.mpr ⟨List.mem_of_getElem? (i := 672) (by decide +kernel), List.forall_mem_cons.mpr ⟨List.mem_of_getElem? (i := 673) (by decide +kernel), List.forall_mem_cons.mpr ⟨List.mem_of_getElem? (i := 674) (by decide +kernel), List.forall_mem_cons.mpr ⟨List.mem_of_getElem? (i := 675) (by decide +kernel), List.forall_mem_cons.mpr ⟨List.mem_of_getElem? (i := 676) (by decide +kernel), List.forall_mem_cons.mpr ⟨List.mem_of_getElem? (i := 677) (by decide +kernel), List.forall_mem_cons.mpr ⟨List.mem_of_getElem? (i := 678) (by decide +kernel), (fun _ h => nomatch h)⟩⟩⟩⟩⟩⟩⟩⟩⟩⟩⟩⟩⟩⟩⟩⟩⟩⟩⟩⟩⟩⟩⟩⟩
def zB_13 : List Cond := [Cond.instanceMethod yX7_placeOf, Cond.selects RX7 yX7_placeOf yX7_placeOf, Cond.code yX7_placeOf cX7_placeOf 3 (some .int), Cond.methodLink RL 161 yL_word, Cond.static yL_word, Cond.code yL_word cL_word 1 (some (.object "java/lang/String")), Cond.methodLink RL 165 yL_types, Cond.static yL_types, Cond.code yL_types cL_types 5 (some .boolean), Cond.methodLink RL 102 yX7_wipe, Cond.instanceMethod yX7_wipe, Cond.selects RX7 yX7_wipe yX7_wipe, Cond.code yX7_wipe cX7_wipe 2 (some .int), Cond.methodLink RL 105 yJ0_length_8abf5, Cond.methodLink RL 110 yJ0_charAt_5068e, Cond.methodLink RL 169 yL_subject, Cond.static yL_subject, Cond.codeWith yL_subject cL_subject 3 (some .int) [(0, 5, 6, 25), (0, 5, 10, 27)], Cond.methodLink RL 38 yX7_subject, Cond.instanceMethod yX7_subject, Cond.selects RX7 yX7_subject yX7_subject, Cond.code yX7_subject cX7_subject 5 (some .char), Cond.fieldLink RX7 139 "Wagonplay$Play" "topic" "I", Cond.methodLink RX7 142 yX2_wordOf]
theorem zB_13_in : ∀ w ∈ zB_13, w ∈ lw_tbl := List.forall_mem_cons.mpr ⟨List.mem_of_getElem? (i := 680) (by decide +kernel), List.forall_mem_cons.mpr ⟨List.mem_of_getElem? (i := 11) (by decide +kernel), List.forall_mem_cons.mpr ⟨List.mem_of_getElem? (i := 681) (by decide +kernel), List.forall_mem_cons.mpr ⟨List.mem_of_getElem? (i := 906) (by decide +kernel), List.forall_mem_cons.mpr ⟨List.mem_of_getElem? (i := 907) (by decide +kernel), List.forall_mem_cons.mpr ⟨List.mem_of_getElem? (i := 908) (by decide +kernel), List.forall_mem_cons.mpr ⟨List.mem_of_getElem? (i := 897) (by decide +kernel), List.forall_mem_cons.mpr ⟨List.mem_of_getElem? (i := 898) (by decide +kernel), List.forall_mem_cons.mpr ⟨List.mem_of_getElem? (i := 899) (by decide +kernel), List.forall_mem_cons.mpr ⟨List.mem_of_getElem? (i := 900) (by decide +kernel), List.forall_mem_cons.mpr ⟨List.mem_of_getElem? (i := 901) (by decide +kernel), List.forall_mem_cons.mpr ⟨List.mem_of_getElem? (i := 902) (by decide +kernel), List.forall_mem_cons.mpr ⟨List.mem_of_getElem? (i := 903) (by decide +kernel), List.forall_mem_cons.mpr ⟨List.mem_of_getElem? (i := 904) (by decide +kernel), List.forall_mem_cons.mpr ⟨List.mem_of_getElem? (i := 905) (by decide +kernel), List.forall_mem_cons.mpr ⟨List.mem_of_getElem? (i := 558) (by decide +kernel), List.forall_mem_cons.mpr ⟨List.mem_of_getElem? (i := 559) (by decide +kernel), List.forall_mem_cons.mpr ⟨List.mem_of_getElem? (i := 560) (by decide +kernel), List.forall_mem_cons.mpr ⟨List.mem_of_getElem? (i := 561) (by decide +kernel), List.forall_mem_cons.mpr ⟨List.mem_of_getElem? (i := 562) (by decide +kernel), List.forall_mem_cons.mpr ⟨List.mem_of_getElem? (i := 563) (by decide +kernel), List.forall_mem_cons.mpr ⟨List.mem_of_getElem? (i := 564) (by decide +kernel), List.forall_mem_cons.mpr ⟨List.mem_of_getElem? (i := 198) (by decide +kernel), List.forall_mem_cons.mpr ⟨List.mem_of_getElem? (i := 634) (by decide +kernel), (fun _ h => nomatch h)⟩⟩⟩⟩⟩⟩⟩⟩⟩⟩⟩⟩⟩⟩⟩⟩⟩⟩⟩⟩⟩⟩⟩⟩
def zB_14 : List Cond := [Cond.methodLink RX7 146 yJ0_charAt_5068e, Cond.methodLink RL 171 yX7_callIn, Cond.instanceMethod yX7_callIn, Cond.selects RX7 yX7_callIn yX7_callIn, Cond.code yX7_callIn cX7_callIn 3 (some .int), Cond.methodLink RX7 313 yX4_bringBookUpToDate, Cond.instanceMethod yX4_bringBookUpToDate, Cond.selects RX4 yX4_bringBookUpToDate yX4_bringBookUpToDate, Cond.code yX4_bringBookUpToDate cX4_bringBookUpToDate 1 none, Cond.methodLink RX4 49 yX4_findLeavesUpTo, Cond.instanceMethod yX4_findLeavesUpTo, Cond.selects RX4 yX4_findLeavesUpTo yX4_findLeavesUpTo, Cond.code yX4_findLeavesUpTo cX4_findLeavesUpTo 4 none, Cond.methodLink RX4 41 yX4_leafCount, Cond.methodLink RX4 45 yX4_lastLineOf, Cond.instanceMethod yX4_lastLineOf, Cond.selects RX4 yX4_lastLineOf yX4_lastLineOf, Cond.code yX4_lastLineOf cX4_lastLineOf 2 (some .int), Cond.methodLink RX4 38 Lib.Math.min.name, Cond.methodLink RL 174 yL_year, Cond.static yL_year, Cond.codeWith yL_year cL_year 2 (some .int) [(0, 4, 5, 18)], Cond.methodLink RL 80 yX7_year, Cond.instanceMethod yX7_year]
theorem zB_14_in : ∀ w ∈ zB_14, w ∈ lw_tbl := List.forall_mem_cons.mpr ⟨List.mem_of_getElem? (i := 635) (by decide +kernel), List.forall_mem_cons.mpr ⟨List.mem_of_getElem? (i := 299) (by decide +kernel), List.forall_mem_cons.mpr ⟨List.mem_of_getElem? (i := 300) (by decide +kernel), List.forall_mem_cons.mpr ⟨List.mem_of_getElem? (i := 301) (by decide +kernel), List.forall_mem_cons.mpr ⟨List.mem_of_getElem? (i := 302) (by decide +kernel), List.forall_mem_cons.mpr ⟨List.mem_of_getElem? (i := 307) (by decide +kernel), List.forall_mem_cons.mpr ⟨List.mem_of_getElem? (i := 308) (by decide +kernel), List.forall_mem_cons.mpr ⟨List.mem_of_getElem? (i := 309) (by decide +kernel), List.forall_mem_cons.mpr ⟨List.mem_of_getElem? (i := 310) (by decide +kernel), List.forall_mem_cons.mpr ⟨List.mem_of_getElem? (i := 311) (by decide +kernel), List.forall_mem_cons.mpr ⟨List.mem_of_getElem? (i := 312) (by decide +kernel), List.forall_mem_cons.mpr ⟨List.mem_of_getElem? (i := 313) (by decide +kernel), List.forall_mem_cons.mpr ⟨List.mem_of_getElem? (i := 314) (by decide +kernel), List.forall_mem_cons.mpr ⟨List.mem_of_getElem? (i := 315) (by decide +kernel), List.forall_mem_cons.mpr ⟨List.mem_of_getElem? (i := 319) (by decide +kernel), List.forall_mem_cons.mpr ⟨List.mem_of_getElem? (i := 320) (by decide +kernel), List.forall_mem_cons.mpr ⟨List.mem_of_getElem? (i := 321) (by decide +kernel), List.forall_mem_cons.mpr ⟨List.mem_of_getElem? (i := 322) (by decide +kernel), List.forall_mem_cons.mpr ⟨List.mem_of_getElem? (i := 323) (by decide +kernel), List.forall_mem_cons.mpr ⟨List.mem_of_getElem? (i := 850) (by decide +kernel), List.forall_mem_cons.mpr ⟨List.mem_of_getElem? (i := 851) (by decide +kernel), List.forall_mem_cons.mpr ⟨List.mem_of_getElem? (i := 852) (by decide +kernel), List.forall_mem_cons.mpr ⟨List.mem_of_getElem? (i := 853) (by decide +kernel), List.forall_mem_cons.mpr ⟨List.mem_of_getElem? (i := 854) (by decide +kernel), (fun _ h => nomatch h)⟩⟩⟩⟩⟩⟩⟩⟩⟩⟩⟩⟩⟩⟩⟩⟩⟩⟩⟩⟩⟩⟩⟩⟩
def zB_15 : List Cond := [Cond.selects RX7 yX7_year yX7_year, Cond.code yX7_year cX7_year 2 (some .int), Cond.fieldLink RX7 319 "Wagonplay" "yearNow" "I", Cond.fieldLink RX7 225 "Wagonplay" "dayPlayed" "Z", Cond.fieldLink RX7 181 "Wagonplay$Ground" "count" "I", Cond.fieldLink RX7 184 "Wagonplay$Ground" "stations" "[LWagonplay$Station;", Cond.methodLink RX7 324 yX4_forget, Cond.instanceMethod yX4_forget, Cond.selects RX4 yX4_forget yX4_forget, Cond.code yX4_forget cX4_forget 1 none, Cond.fieldLink RX4 29 "Wagonplay$Play" "learnt" "I", Cond.methodLink RX4 32 Lib.Math.max.name, Cond.static Lib.Math.max.name, Cond.code Lib.Math.max.name Lib.Math.max.code 2 (some .int), Cond.methodLink RL 179 yL_wagon, Cond.static yL_wagon, Cond.codeWith yL_wagon cL_wagon 5 (some .int) [(0, 7, 8, 25), (0, 7, 13, 15)], Cond.methodLink RL 48 yX7_wagon, Cond.instanceMethod yX7_wagon, Cond.selects RX7 yX7_wagon yX7_wagon, Cond.code yX7_wagon cX7_wagon 6 (some .int), Cond.fieldLink RX7 166 "Wagonplay$Guild" "height" "I", Cond.fieldLink RX7 169 "Wagonplay$Guild" "hands" "I", Cond.methodLink RL 181 yL_of]
theorem zB_15_in : ∀ w ∈ zB_15, w ∈ lw_tbl := List.forall_mem_cons.mpr ⟨List.mem_of_getElem? (i := 855) (by decide +kernel), List.forall_mem_cons.mpr ⟨List.mem_of_getElem? (i := 856) (by decide +kernel), List.forall_mem_cons.mpr ⟨List.mem_of_getElem? (i := 262) (by decide +kernel), List.forall_mem_cons.mpr ⟨List.mem_of_getElem? (i := 265) (by decide +kernel), List.forall_mem_cons.mpr ⟨List.mem_of_getElem? (i := 99) (by decide +kernel), List.forall_mem_cons.mpr ⟨List.mem_of_getElem? (i := 96) (by decide +kernel), List.forall_mem_cons.mpr ⟨List.mem_of_getElem? (i := 858) (by decide +kernel), List.forall_mem_cons.mpr ⟨List.mem_of_getElem? (i := 859) (by decide +kernel), List.forall_mem_cons.mpr ⟨List.mem_of_getElem? (i := 860) (by decide +kernel), List.forall_mem_cons.mpr ⟨List.mem_of_getElem? (i := 861) (by decide +kernel), List.forall_mem_cons.mpr ⟨List.mem_of_getElem? (i := 199) (by decide +kernel), List.forall_mem_cons.mpr ⟨List.mem_of_getElem? (i := 862) (by decide +kernel), List.forall_mem_cons.mpr ⟨List.mem_of_getElem? (i := 749) (by decide +kernel), List.forall_mem_cons.mpr ⟨List.mem_of_getElem? (i := 750) (by decide +kernel), List.forall_mem_cons.mpr ⟨List.mem_of_getElem? (i := 652) (by decide +kernel), List.forall_mem_cons.mpr ⟨List.mem_of_getElem? (i := 653) (by decide +kernel), List.forall_mem_cons.mpr ⟨List.mem_of_getElem? (i := 654) (by decide +kernel), List.forall_mem_cons.mpr ⟨List.mem_of_getElem? (i := 655) (by decide +kernel), List.forall_mem_cons.mpr ⟨List.mem_of_getElem? (i := 656) (by decide +kernel), List.forall_mem_cons.mpr ⟨List.mem_of_getElem? (i := 657) (by decide +kernel), List.forall_mem_cons.mpr ⟨List.mem_of_getElem? (i := 658) (by decide +kernel), List.forall_mem_cons.mpr ⟨List.mem_of_getElem? (i := 226) (by decide +kernel), List.forall_mem_cons.mpr ⟨List.mem_of_getElem? (i := 229) (by decide +kernel), List.forall_mem_cons.mpr ⟨List.mem_of_getElem? (i := 537) (by decide +kernel), (fun _ h => nomatch h)⟩⟩⟩⟩⟩⟩⟩⟩⟩⟩⟩⟩⟩⟩⟩⟩⟩⟩⟩⟩⟩⟩⟩⟩
def zB_16 : List Cond := [Cond.static yL_of, Cond.codeWith yL_of cL_of 4 (some .int) [(0, 6, 7, 25), (0, 6, 11, 15)], Cond.methodLink RL 30 yX7_of, Cond.instanceMethod yX7_of, Cond.selects RX7 yX7_of yX7_of, Cond.code yX7_of cX7_of 4 (some .int), Cond.fieldLink RX7 116 "Wagonplay$Guild" "fines" "I", Cond.methodLink RL 184 yL_known, Cond.static yL_known, Cond.codeWith yL_known cL_known 3 (some .int) [(0, 5, 6, 25)], Cond.methodLink RL 77 yX7_known, Cond.instanceMethod yX7_known, Cond.selects RX7 yX7_known yX7_known, Cond.code yX7_known cX7_known 2 (some .int), Cond.methodLink RX7 310 yX4_knownLines, Cond.instanceMethod yX4_knownLines, Cond.selects RX4 yX4_knownLines yX4_knownLines, Cond.code yX4_knownLines cX4_knownLines 4 (some .int), Cond.methodLink RL 186 yL_place, Cond.static yL_place, Cond.codeWith yL_place cL_place 3 (some .int) [(0, 5, 6, 25)], Cond.methodLink RL 57 yX7_place, Cond.instanceMethod yX7_place, Cond.selects RX7 yX7_place yX7_place]
theorem zB_16_in : ∀ w ∈ zB_16, w ∈ lw_tbl := List.forall_mem_cons.mpr ⟨List.mem_of_getElem? (i := 538) (by decide +kernel), List.forall_mem_cons.mpr ⟨List.mem_of_getElem? (i := 539) (by decide +kernel), List.forall_mem_cons.mpr ⟨List.mem_of_getElem? (i := 540) (by decide +kernel), List.forall_mem_cons.mpr ⟨List.mem_of_getElem? (i := 541) (by decide +kernel), List.forall_mem_cons.mpr ⟨List.mem_of_getElem? (i := 542) (by decide +kernel), List.forall_mem_cons.mpr ⟨List.mem_of_getElem? (i := 543) (by decide +kernel), List.forall_mem_cons.mpr ⟨List.mem_of_getElem? (i := 222) (by decide +kernel), List.forall_mem_cons.mpr ⟨List.mem_of_getElem? (i := 839) (by decide +kernel), List.forall_mem_cons.mpr ⟨List.mem_of_getElem? (i := 840) (by decide +kernel), List.forall_mem_cons.mpr ⟨List.mem_of_getElem? (i := 841) (by decide +kernel), List.forall_mem_cons.mpr ⟨List.mem_of_getElem? (i := 842) (by decide +kernel), List.forall_mem_cons.mpr ⟨List.mem_of_getElem? (i := 843) (by decide +kernel), List.forall_mem_cons.mpr ⟨List.mem_of_getElem? (i := 844) (by decide +kernel), List.forall_mem_cons.mpr ⟨List.mem_of_getElem? (i := 845) (by decide +kernel), List.forall_mem_cons.mpr ⟨List.mem_of_getElem? (i := 846) (by decide +kernel), List.forall_mem_cons.mpr ⟨List.mem_of_getElem? (i := 847) (by decide +kernel), List.forall_mem_cons.mpr ⟨List.mem_of_getElem? (i := 848) (by decide +kernel), List.forall_mem_cons.mpr ⟨List.mem_of_getElem? (i := 849) (by decide +kernel), List.forall_mem_cons.mpr ⟨List.mem_of_getElem? (i := 682) (by decide +kernel), List.forall_mem_cons.mpr ⟨List.mem_of_getElem? (i := 683) (by decide +kernel), List.forall_mem_cons.mpr ⟨List.mem_of_getElem? (i := 684) (by decide +kernel), List.forall_mem_cons.mpr ⟨List.mem_of_getElem? (i := 685) (by decide +kernel), List.forall_mem_cons.mpr ⟨List.mem_of_getElem? (i := 686) (by decide +kernel), List.forall_mem_cons.mpr ⟨List.mem_of_getElem? (i := 687) (by decide +kernel), (fun _ h => nomatch h)⟩⟩⟩⟩⟩⟩⟩⟩⟩⟩⟩⟩⟩⟩⟩⟩⟩⟩⟩⟩⟩⟩⟩⟩
def zB_17 : List Cond := [Cond.code yX7_place cX7_place 2 (some .int), Cond.methodLink RL 188 yX7_town, Cond.instanceMethod yX7_town, Cond.selects RX7 yX7_town yX7_town, Cond.code yX7_town cX7_town 1 (some .int), Cond.methodLink RL 191 yL_foresee, Cond.static yL_foresee, Cond.codeWith yL_foresee cL_foresee 2 (some .int) [(0, 4, 5, 18)], Cond.methodLink RL 71 yX7_foresee, Cond.instanceMethod yX7_foresee, Cond.selects RX7 yX7_foresee yX7_foresee, Cond.code yX7_foresee cX7_foresee 1 (some .int), Cond.methodLink RX7 222 yX7_needStations, Cond.instanceMethod yX7_needStations, Cond.selects RX7 yX7_needStations yX7_needStations, Cond.code yX7_needStations cX7_needStations 1 none, Cond.fieldLink RX3 31 "Wagonplay$Guild" "play" "LWagonplay$Play;", Cond.methodLink RX0 22 yJ9_floorDiv_7cf53, Cond.static yJ9_floorDiv_7cf53, Cond.code yJ9_floorDiv_7cf53 cJ9_floorDiv_7cf53 3 (some .int), Cond.methodLink RX0 28 yJ9_floorMod_7cf53, Cond.static yJ9_floorMod_7cf53, Cond.code yJ9_floorMod_7cf53 cJ9_floorMod_7cf53 3 (some .int), Cond.fieldLink RX3 112 "Wagonplay$Show" "said" "[I"]
theorem zB_17_in : ∀ w ∈ zB_17, w ∈ lw_tbl := List.forall_mem_cons.mpr ⟨List.mem_of_getElem? (i := 688) (by decide +kernel), List.forall_mem_cons.mpr ⟨List.mem_of_getElem? (i := 326) (by decide +kernel), List.forall_mem_cons.mpr ⟨List.mem_of_getElem? (i := 327) (by decide +kernel), List.forall_mem_cons.mpr ⟨List.mem_of_getElem? (i := 328) (by decide +kernel), List.forall_mem_cons.mpr ⟨List.mem_of_getElem? (i := 329) (by decide +kernel), List.forall_mem_cons.mpr ⟨List.mem_of_getElem? (i := 824) (by decide +kernel), List.forall_mem_cons.mpr ⟨List.mem_of_getElem? (i := 825) (by decide +kernel), List.forall_mem_cons.mpr ⟨List.mem_of_getElem? (i := 826) (by decide +kernel), List.forall_mem_cons.mpr ⟨List.mem_of_getElem? (i := 827) (by decide +kernel), List.forall_mem_cons.mpr ⟨List.mem_of_getElem? (i := 828) (by decide +kernel), List.forall_mem_cons.mpr ⟨List.mem_of_getElem? (i := 829) (by decide +kernel), List.forall_mem_cons.mpr ⟨List.mem_of_getElem? (i := 830) (by decide +kernel), List.forall_mem_cons.mpr ⟨List.mem_of_getElem? (i := 704) (by decide +kernel), List.forall_mem_cons.mpr ⟨List.mem_of_getElem? (i := 706) (by decide +kernel), List.forall_mem_cons.mpr ⟨List.mem_of_getElem? (i := 12) (by decide +kernel), List.forall_mem_cons.mpr ⟨List.mem_of_getElem? (i := 707) (by decide +kernel), List.forall_mem_cons.mpr ⟨List.mem_of_getElem? (i := 235) (by decide +kernel), List.forall_mem_cons.mpr ⟨List.mem_of_getElem? (i := 738) (by decide +kernel), List.forall_mem_cons.mpr ⟨List.mem_of_getElem? (i := 739) (by decide +kernel), List.forall_mem_cons.mpr ⟨List.mem_of_getElem? (i := 740) (by decide +kernel), List.forall_mem_cons.mpr ⟨List.mem_of_getElem? (i := 741) (by decide +kernel), List.forall_mem_cons.mpr ⟨List.mem_of_getElem? (i := 742) (by decide +kernel), List.forall_mem_cons.mpr ⟨List.mem_of_getElem? (i := 743) (by decide +kernel), List.forall_mem_cons.mpr ⟨List.mem_of_getElem? (i := 147) (by decide +kernel), (fun _ h => nomatch h)⟩⟩⟩⟩⟩⟩⟩⟩⟩⟩⟩⟩⟩⟩⟩⟩⟩⟩⟩⟩⟩⟩⟩⟩
def zB_18 : List Cond := [Cond.fieldLink RX3 115 "Wagonplay$Play" "lines" "I", Cond.methodLink RL 193 yL_day, Cond.static yL_day, Cond.codeWith yL_day cL_day 2 (some .int) [(0, 4, 5, 18)], Cond.methodLink RL 64 yX7_day, Cond.instanceMethod yX7_day, Cond.selects RX7 yX7_day yX7_day, Cond.code yX7_day cX7_day 2 (some .int), Cond.fieldLink RX7 199 "Wagonplay$Station" "scribe" "Z", Cond.fieldLink RX1 26 "Wagonplay$Play" "parts" "I", Cond.methodLink RX1 29 Lib.Math.max.name, Cond.fieldLink RX7 205 "Wagonplay$Station" "house" "I", Cond.fieldLink RX7 202 "Wagonplay$Station" "rent" "I", Cond.methodLink RL 195 yL_end, Cond.static yL_end, Cond.codeWith yL_end cL_end 2 (some .int) [(0, 4, 5, 18)], Cond.methodLink RL 68 yX7_end, Cond.instanceMethod yX7_end, Cond.selects RX7 yX7_end yX7_end, Cond.code yX7_end cX7_end 1 (some .int), Cond.methodLink RX7 281 yX7_needDayPlayed, Cond.instanceMethod yX7_needDayPlayed, Cond.selects RX7 yX7_needDayPlayed yX7_needDayPlayed, Cond.code yX7_needDayPlayed cX7_needDayPlayed 1 none]
theorem zB_18_in : ∀ w ∈ zB_18, w ∈ lw_tbl := List.forall_mem_cons.mpr ⟨List.mem_of_getElem? (i := 194) (by decide +kernel), List.forall_mem_cons.mpr ⟨List.mem_of_getElem? (i := 697) (by decide +kernel), List.forall_mem_cons.mpr ⟨List.mem_of_getElem? (i := 698) (by decide +kernel), List.forall_mem_cons.mpr ⟨List.mem_of_getElem? (i := 699) (by decide +kernel), List.forall_mem_cons.mpr ⟨List.mem_of_getElem? (i := 700) (by decide +kernel), List.forall_mem_cons.mpr ⟨List.mem_of_getElem? (i := 701) (by decide +kernel), List.forall_mem_cons.mpr ⟨List.mem_of_getElem? (i := 702) (by decide +kernel), List.forall_mem_cons.mpr ⟨List.mem_of_getElem? (i := 703) (by decide +kernel), List.forall_mem_cons.mpr ⟨List.mem_of_getElem? (i := 72) (by decide +kernel), List.forall_mem_cons.mpr ⟨List.mem_of_getElem? (i := 195) (by decide +kernel), List.forall_mem_cons.mpr ⟨List.mem_of_getElem? (i := 793) (by decide +kernel), List.forall_mem_cons.mpr ⟨List.mem_of_getElem? (i := 74) (by decide +kernel), List.forall_mem_cons.mpr ⟨List.mem_of_getElem? (i := 76) (by decide +kernel), List.forall_mem_cons.mpr ⟨List.mem_of_getElem? (i := 808) (by decide +kernel), List.forall_mem_cons.mpr ⟨List.mem_of_getElem? (i := 809) (by decide +kernel), List.forall_mem_cons.mpr ⟨List.mem_of_getElem? (i := 810) (by decide +kernel), List.forall_mem_cons.mpr ⟨List.mem_of_getElem? (i := 811) (by decide +kernel), List.forall_mem_cons.mpr ⟨List.mem_of_getElem? (i := 812) (by decide +kernel), List.forall_mem_cons.mpr ⟨List.mem_of_getElem? (i := 813) (by decide +kernel), List.forall_mem_cons.mpr ⟨List.mem_of_getElem? (i := 814) (by decide +kernel), List.forall_mem_cons.mpr ⟨List.mem_of_getElem? (i := 815) (by decide +kernel), List.forall_mem_cons.mpr ⟨List.mem_of_getElem? (i := 817) (by decide +kernel), List.forall_mem_cons.mpr ⟨List.mem_of_getElem? (i := 22) (by decide +kernel), List.forall_mem_cons.mpr ⟨List.mem_of_getElem? (i := 818) (by decide +kernel), (fun _ h => nomatch h)⟩⟩⟩⟩⟩⟩⟩⟩⟩⟩⟩⟩⟩⟩⟩⟩⟩⟩⟩⟩⟩⟩⟩⟩
def zB_19 : List Cond := [Cond.methodLink RL 197 yX7_isSound, Cond.instanceMethod yX7_isSound, Cond.selects RX7 yX7_isSound yX7_isSound, Cond.code yX7_isSound cX7_isSound 1 (some .boolean), Cond.methodLink RX7 344 yX7_isMoneySound, Cond.instanceMethod yX7_isMoneySound, Cond.selects RX7 yX7_isMoneySound yX7_isMoneySound, Cond.code yX7_isMoneySound cX7_isMoneySound 3 (some .boolean), Cond.methodLink RX7 348 yX7_isOrderSound, Cond.instanceMethod yX7_isOrderSound, Cond.selects RX7 yX7_isOrderSound yX7_isOrderSound, Cond.code yX7_isOrderSound cX7_isOrderSound 3 (some .boolean)]
theorem zB_19_in : ∀ w ∈ zB_19, w ∈ lw_tbl := List.forall_mem_cons.mpr ⟨List.mem_of_getElem? (i := 330) (by decide +kernel), List.forall_mem_cons.mpr ⟨List.mem_of_getElem? (i := 331) (by decide +kernel), List.forall_mem_cons.mpr ⟨List.mem_of_getElem? (i := 332) (by decide +kernel), List.forall_mem_cons.mpr ⟨List.mem_of_getElem? (i := 333) (by decide +kernel), List.forall_mem_cons.mpr ⟨List.mem_of_getElem? (i := 334) (by decide +kernel), List.forall_mem_cons.mpr ⟨List.mem_of_getElem? (i := 336) (by decide +kernel), List.forall_mem_cons.mpr ⟨List.mem_of_getElem? (i := 0) (by decide +kernel), List.forall_mem_cons.mpr ⟨List.mem_of_getElem? (i := 337) (by decide +kernel), List.forall_mem_cons.mpr ⟨List.mem_of_getElem? (i := 338) (by decide +kernel), List.forall_mem_cons.mpr ⟨List.mem_of_getElem? (i := 340) (by decide +kernel), List.forall_mem_cons.mpr ⟨List.mem_of_getElem? (i := 1) (by decide +kernel), List.forall_mem_cons.mpr ⟨List.mem_of_getElem? (i := 341) (by decide +kernel), (fun _ h => nomatch h)⟩⟩⟩⟩⟩⟩⟩⟩⟩⟩⟩⟩
theorem zB_X0_in : ∀ w ∈ wsX00, w ∈ lw_tbl := by decide +kernel
theorem zB_X1_in : ∀ w ∈ wsX10, w ∈ lw_tbl := by decide +kernel
theorem zB_X2_in : ∀ w ∈ wsX20, w ∈ lw_tbl := by decide +kernel
theorem zB_X3_in : ∀ w ∈ wsX30, w ∈ lw_tbl := by decide +kernel
theorem zB_X4_in : ∀ w ∈ wsX40, w ∈ lw_tbl := by decide +kernel
theorem zB_X5_in : ∀ w ∈ wsX50, w ∈ lw_tbl := by decide +kernel
theorem zB_X6_in : ∀ w ∈ wsX60, w ∈ lw_tbl := by decide +kernel
theorem zB_X7_in : ∀ w ∈ wsX70, w ∈ lw_tbl := by decide +kernel
def zB_t69 : List Cond := (vx_atS RX7 69 "java/lang/IllegalStateException" ["java/lang/RuntimeException", "java/lang/Exception"]).filter goodWord
theorem zB_t69_in : ∀ w ∈ zB_t69, w ∈ lw_tbl := by decide +kernel
def zB_t96 : List Cond := (vx_atS RX7 96 "java/lang/IllegalArgumentException" ["java/lang/RuntimeException", "java/lang/Exception"]).filter goodWord
theorem zB_t96_in : ∀ w ∈ zB_t96, w ∈ lw_tbl := by decide +kernel
def zB_t162 : List Cond := (vx_atS RX7 162 "java/lang/IndexOutOfBoundsException" ["java/lang/RuntimeException", "java/lang/Exception"]).filter goodWord
theorem zB_t162_in : ∀ w ∈ zB_t162, w ∈ lw_tbl := by decide +kernel
def zB_t176 : List Cond := (vx_atS RX7 176 "java/lang/UnsupportedOperationException" ["java/lang/RuntimeException", "java/lang/Exception"]).filter goodWord
theorem zB_t176_in : ∀ w ∈ zB_t176, w ∈ lw_tbl := by decide +kernel
/-- all the words of all the methods -/
def zB : List Cond := (zB_0 ++ (zB_1 ++ (zB_2 ++ (zB_3 ++ (zB_4 ++ (zB_5 ++ (zB_6 ++ (zB_7 ++ (zB_8 ++ (zB_9 ++ (zB_10 ++ (zB_11 ++ (zB_12 ++ (zB_13 ++ (zB_14 ++ (zB_15 ++ (zB_16 ++ (zB_17 ++ (zB_18 ++ (zB_19 ++ (wsX00 ++ (wsX10 ++ (wsX20 ++ (wsX30 ++ (wsX40 ++ (wsX50 ++ (wsX60 ++ (wsX70 ++ (zB_t69 ++ (zB_t96 ++ (zB_t162 ++ zB_t176)))))))))))))))))))))))))))))))
theorem zB_in : ∀ w ∈ zB, w ∈ lw_tbl := (List.forall_mem_append.mpr ⟨zB_0_in, (List.forall_mem_append.mpr ⟨zB_1_in, (List.forall_mem_append.mpr ⟨zB_2_in, (List.forall_mem_append.mpr ⟨zB_3_in, (List.forall_mem_append.mpr ⟨zB_4_in, (List.forall_mem_append.mpr ⟨zB_5_in, (List.forall_mem_append.mpr ⟨zB_6_in, (List.forall_mem_append.mpr ⟨zB_7_in, (List.forall_mem_append.mpr ⟨zB_8_in, (List.forall_mem_append.mpr ⟨zB_9_in, (List.forall_mem_append.mpr ⟨zB_10_in, (List.forall_mem_append.mpr ⟨zB_11_in, (List.forall_mem_append.mpr ⟨zB_12_in, (List.forall_mem_append.mpr ⟨zB_13_in, (List.forall_mem_append.mpr ⟨zB_14_in, (List.forall_mem_append.mpr ⟨zB_15_in, (List.forall_mem_append.mpr ⟨zB_16_in, (List.forall_mem_append.mpr ⟨zB_17_in, (List.forall_mem_append.mpr ⟨zB_18_in, (List.forall_mem_append.mpr ⟨zB_19_in, (List.forall_mem_append.mpr ⟨zB_X0_in, (List.forall_mem_append.mpr ⟨zB_X1_in, (List.forall_mem_append.mpr ⟨zB_X2_in, (List.forall_mem_append.mpr ⟨zB_X3_in, (List.forall_mem_append.mpr ⟨zB_X4_in, (List.forall_mem_append.mpr ⟨zB_X5_in, (List.forall_mem_append.mpr ⟨zB_X6_in, (List.forall_mem_append.mpr ⟨zB_X7_in, (List.forall_mem_append.mpr ⟨zB_t69_in, (List.forall_mem_append.mpr ⟨zB_t96_in, (List.forall_mem_append.mpr ⟨zB_t162_in, zB_t176_in⟩)⟩)⟩)⟩)⟩)⟩)⟩)⟩)⟩)⟩)⟩)⟩)⟩)⟩)⟩)⟩)⟩)⟩)⟩)⟩)⟩)⟩)⟩)⟩)⟩)⟩)⟩)⟩)⟩)⟩)⟩)
theorem zB_good : zB.all goodWord = true := by decide +kernel
theorem zi_b0 : ∀ w ∈ zB_0, w ∈ zB := fun _ h => (List.mem_append_left _ h)
theorem zi_b1 : ∀ w ∈ zB_1, w ∈ zB := fun _ h => (List.mem_append_right _ (List.mem_append_left _ h))
theorem zi_b2 : ∀ w ∈ zB_2, w ∈ zB := fun _ h => (List.mem_append_right _ (List.mem_append_right _ (List.mem_append_left _ h)))
theorem zi_b3 : ∀ w ∈ zB_3, w ∈ zB := fun _ h => (List.mem_append_right _ (List.mem_append_right _ (List.mem_append_right _ (List.mem_append_left _ h))))
theorem zi_b4 : ∀ w ∈ zB_4, w ∈ zB := fun _ h => (List.mem_append_right _ (List.mem_append_right _ (List.mem_append_right _ (List.mem_append_right _ (List.mem_append_left _ h)))))
theorem zi_b5 : ∀ w ∈ zB_5, w ∈ zB := fun _ h => (List.mem_append_right _ (List.mem_append_right _ (List.mem_append_right _ (List.mem_append_right _ (List.mem_append_right _ (List.mem_append_left _ h))))))
theorem zi_b6 : ∀ w ∈ zB_6, w ∈ zB := fun _ h => (List.mem_append_right _ (List.mem_append_right _ (List.mem_append_right _ (List.mem_append_right _ (List.mem_append_right _ (List.mem_append_right _ (List.mem_append_left _ h)))))))
theorem zi_b7 : ∀ w ∈ zB_7, w ∈ zB := fun _ h => (List.mem_append_right _ (List.mem_append_right _ (List.mem_append_right _ (List.mem_append_right _ (List.mem_append_right _ (List.mem_append_right _ (List.mem_append_right _ (List.mem_append_left _ h))))))))
theorem zi_b8 : ∀ w ∈ zB_8, w ∈ zB := fun _ h => (List.mem_append_right _ (List.mem_append_right _ (List.mem_append_right _ (List.mem_append_right _ (List.mem_append_right _ (List.mem_append_right _ (List.mem_append_right _ (List.mem_append_right _ (List.mem_append_left _ h)))))))))
theorem zi_b9 : ∀ w ∈ zB_9, w ∈ zB := fun _ h => (List.mem_append_right _ (List.mem_append_right _ (List.mem_append_right _ (List.mem_append_right _ (List.mem_append_right _ (List.mem_append_right _ (List.mem_append_right _ (List.mem_append_right _ (List.mem_append_right _ (List.mem_append_left _ h))))))))))
theorem zi_b10 : ∀ w ∈ zB_10, w ∈ zB := fun _ h => (List.mem_append_right _ (List.mem_append_right _ (List.mem_append_right _ (List.mem_append_right _ (List.mem_append_right _ (List.mem_append_right _ (List.mem_append_right _ (List.mem_append_right _ (List.mem_append_right _ (List.mem_append_right _ (List.mem_append_left _ h)))))))))))
theorem zi_b11 : ∀ w ∈ zB_11, w ∈ zB := fun _ h => (List.mem_append_right _ (List.mem_append_right _ (List.mem_append_right _ (List.mem_append_right _ (List.mem_append_right _ (List.mem_append_right _ (List.mem_append_right _ (List.mem_append_right _ (List.mem_append_right _ (List.mem_append_right _ (List.mem_append_right _ (List.mem_append_left _ h))))))))))))
theorem zi_b12 : ∀ w ∈ zB_12, w ∈ zB := fun _ h => (List.mem_append_right _ (List.mem_append_right _ (List.mem_append_right _ (List.mem_append_right _ (List.mem_append_right _ (List.mem_append_right _ (List.mem_append_right _ (List.mem_append_right _ (List.mem_append_right _ (List.mem_append_right _ (List.mem_append_right _ (List.mem_append_right _ (List.mem_append_left _ h)))))))))))))
theorem zi_b13 : ∀ w ∈ zB_13, w ∈ zB := fun _ h => (List.mem_append_right _ (List.mem_append_right _ (List.mem_append_right _ (List.mem_append_right _ (List.mem_append_right _ (List.mem_append_right _ (List.mem_append_right _ (List.mem_append_right _ (List.mem_append_right _ (List.mem_append_right _ (List.mem_append_right _ (List.mem_append_right _ (List.mem_append_right _ (List.mem_append_left _ h))))))))))))))
theorem zi_b14 : ∀ w ∈ zB_14, w ∈ zB := fun _ h => (List.mem_append_right _ (List.mem_append_right _ (List.mem_append_right _ (List.mem_append_right _ (List.mem_append_right _ (List.mem_append_right _ (List.mem_append_right _ (List.mem_append_right _ (List.mem_append_right _ (List.mem_append_right _ (List.mem_append_right _ (List.mem_append_right _ (List.mem_append_right _ (List.mem_append_right _ (List.mem_append_left _ h)))))))))))))))
theorem zi_b15 : ∀ w ∈ zB_15, w ∈ zB := fun _ h => (List.mem_append_right _ (List.mem_append_right _ (List.mem_append_right _ (List.mem_append_right _ (List.mem_append_right _ (List.mem_append_right _ (List.mem_append_right _ (List.mem_append_right _ (List.mem_append_right _ (List.mem_append_right _ (List.mem_append_right _ (List.mem_append_right _ (List.mem_append_right _ (List.mem_append_right _ (List.mem_append_right _ (List.mem_append_left _ h))))))))))))))))
theorem zi_b16 : ∀ w ∈ zB_16, w ∈ zB := fun _ h => (List.mem_append_right _ (List.mem_append_right _ (List.mem_append_right _ (List.mem_append_right _ (List.mem_append_right _ (List.mem_append_right _ (List.mem_append_right _ (List.mem_append_right _ (List.mem_append_right _ (List.mem_append_right _ (List.mem_append_right _ (List.mem_append_right _ (List.mem_append_right _ (List.mem_append_right _ (List.mem_append_right _ (List.mem_append_right _ (List.mem_append_left _ h)))))))))))))))))
theorem zi_b17 : ∀ w ∈ zB_17, w ∈ zB := fun _ h => (List.mem_append_right _ (List.mem_append_right _ (List.mem_append_right _ (List.mem_append_right _ (List.mem_append_right _ (List.mem_append_right _ (List.mem_append_right _ (List.mem_append_right _ (List.mem_append_right _ (List.mem_append_right _ (List.mem_append_right _ (List.mem_append_right _ (List.mem_append_right _ (List.mem_append_right _ (List.mem_append_right _ (List.mem_append_right _ (List.mem_append_right _ (List.mem_append_left _ h))))))))))))))))))
theorem zi_b18 : ∀ w ∈ zB_18, w ∈ zB := fun _ h => (List.mem_append_right _ (List.mem_append_right _ (List.mem_append_right _ (List.mem_append_right _ (List.mem_append_right _ (List.mem_append_right _ (List.mem_append_right _ (List.mem_append_right _ (List.mem_append_right _ (List.mem_append_right _ (List.mem_append_right _ (List.mem_append_right _ (List.mem_append_right _ (List.mem_append_right _ (List.mem_append_right _ (List.mem_append_right _ (List.mem_append_right _ (List.mem_append_right _ (List.mem_append_left _ h)))))))))))))))))))
theorem zi_b19 : ∀ w ∈ zB_19, w ∈ zB := fun _ h => (List.mem_append_right _ (List.mem_append_right _ (List.mem_append_right _ (List.mem_append_right _ (List.mem_append_right _ (List.mem_append_right _ (List.mem_append_right _ (List.mem_append_right _ (List.mem_append_right _ (List.mem_append_right _ (List.mem_append_right _ (List.mem_append_right _ (List.mem_append_right _ (List.mem_append_right _ (List.mem_append_right _ (List.mem_append_right _ (List.mem_append_right _ (List.mem_append_right _ (List.mem_append_right _ (List.mem_append_left _ h))))))))))))))))))))
theorem zi_X0 : ∀ w ∈ wsX00, w ∈ zB := fun _ h => (List.mem_append_right _ (List.mem_append_right _ (List.mem_append_right _ (List.mem_append_right _ (List.mem_append_right _ (List.mem_append_right _ (List.mem_append_right _ (List.mem_append_right _ (List.mem_append_right _ (List.mem_append_right _ (List.mem_append_right _ (List.mem_append_right _ (List.mem_append_right _ (List.mem_append_right _ (List.mem_append_right _ (List.mem_append_right _ (List.mem_append_right _ (List.mem_append_right _ (List.mem_append_right _ (List.mem_append_right _ (List.mem_append_left _ h)))))))))))))))))))))
theorem zi_X1 : ∀ w ∈ wsX10, w ∈ zB := fun _ h => (List.mem_append_right _ (List.mem_append_right _ (List.mem_append_right _ (List.mem_append_right _ (List.mem_append_right _ (List.mem_append_right _ (List.mem_append_right _ (List.mem_append_right _ (List.mem_append_right _ (List.mem_append_right _ (List.mem_append_right _ (List.mem_append_right _ (List.mem_append_right _ (List.mem_append_right _ (List.mem_append_right _ (List.mem_append_right _ (List.mem_append_right _ (List.mem_append_right _ (List.mem_append_right _ (List.mem_append_right _ (List.mem_append_right _ (List.mem_append_left _ h))))))))))))))))))))))
theorem zi_X2 : ∀ w ∈ wsX20, w ∈ zB := fun _ h => (List.mem_append_right _ (List.mem_append_right _ (List.mem_append_right _ (List.mem_append_right _ (List.mem_append_right _ (List.mem_append_right _ (List.mem_append_right _ (List.mem_append_right _ (List.mem_append_right _ (List.mem_append_right _ (List.mem_append_right _ (List.mem_append_right _ (List.mem_append_right _ (List.mem_append_right _ (List.mem_append_right _ (List.mem_append_right _ (List.mem_append_right _ (List.mem_append_right _ (List.mem_append_right _ (List.mem_append_right _ (List.mem_append_right _ (List.mem_append_right _ (List.mem_append_left _ h)))))))))))))))))))))))
theorem zi_X3 : ∀ w ∈ wsX30, w ∈ zB := fun _ h => (List.mem_append_right _ (List.mem_append_right _ (List.mem_append_right _ (List.mem_append_right _ (List.mem_append_right _ (List.mem_append_right _ (List.mem_append_right _ (List.mem_append_right _ (List.mem_append_right _ (List.mem_append_right _ (List.mem_append_right _ (List.mem_append_right _ (List.mem_append_right _ (List.mem_append_right _ (List.mem_append_right _ (List.mem_append_right _ (List.mem_append_right _ (List.mem_append_right _ (List.mem_append_right _ (List.mem_append_right _ (List.mem_append_right _ (List.mem_append_right _ (List.mem_append_right _ (List.mem_append_left _ h))))))))))))))))))))))))
theorem zi_X4 : ∀ w ∈ wsX40, w ∈ zB := fun _ h => (List.mem_append_right _ (List.mem_append_right _ (List.mem_append_right _ (List.mem_append_right _ (List.mem_append_right _ (List.mem_append_right _ (List.mem_append_right _ (List.mem_append_right _ (List.mem_append_right _ (List.mem_append_right _ (List.mem_append_right _ (List.mem_append_right _ (List.mem_append_right _ (List.mem_append_right _ (List.mem_append_right _ (List.mem_append_right _ (List.mem_append_right _ (List.mem_append_right _ (List.mem_append_right _ (List.mem_append_right _ (List.mem_append_right _ (List.mem_append_right _ (List.mem_append_right _ (List.mem_append_right _ (List.mem_append_left _ h)))))))))))))))))))))))))
theorem zi_X5 : ∀ w ∈ wsX50, w ∈ zB := fun _ h => (List.mem_append_right _ (List.mem_append_right _ (List.mem_append_right _ (List.mem_append_right _ (List.mem_append_right _ (List.mem_append_right _ (List.mem_append_right _ (List.mem_append_right _ (List.mem_append_right _ (List.mem_append_right _ (List.mem_append_right _ (List.mem_append_right _ (List.mem_append_right _ (List.mem_append_right _ (List.mem_append_right _ (List.mem_append_right _ (List.mem_append_right _ (List.mem_append_right _ (List.mem_append_right _ (List.mem_append_right _ (List.mem_append_right _ (List.mem_append_right _ (List.mem_append_right _ (List.mem_append_right _ (List.mem_append_right _ (List.mem_append_left _ h))))))))))))))))))))))))))
theorem zi_X6 : ∀ w ∈ wsX60, w ∈ zB := fun _ h => (List.mem_append_right _ (List.mem_append_right _ (List.mem_append_right _ (List.mem_append_right _ (List.mem_append_right _ (List.mem_append_right _ (List.mem_append_right _ (List.mem_append_right _ (List.mem_append_right _ (List.mem_append_right _ (List.mem_append_right _ (List.mem_append_right _ (List.mem_append_right _ (List.mem_append_right _ (List.mem_append_right _ (List.mem_append_right _ (List.mem_append_right _ (List.mem_append_right _ (List.mem_append_right _ (List.mem_append_right _ (List.mem_append_right _ (List.mem_append_right _ (List.mem_append_right _ (List.mem_append_right _ (List.mem_append_right _ (List.mem_append_right _ (List.mem_append_left _ h)))))))))))))))))))))))))))
theorem zi_X7 : ∀ w ∈ wsX70, w ∈ zB := fun _ h => (List.mem_append_right _ (List.mem_append_right _ (List.mem_append_right _ (List.mem_append_right _ (List.mem_append_right _ (List.mem_append_right _ (List.mem_append_right _ (List.mem_append_right _ (List.mem_append_right _ (List.mem_append_right _ (List.mem_append_right _ (List.mem_append_right _ (List.mem_append_right _ (List.mem_append_right _ (List.mem_append_right _ (List.mem_append_right _ (List.mem_append_right _ (List.mem_append_right _ (List.mem_append_right _ (List.mem_append_right _ (List.mem_append_right _ (List.mem_append_right _ (List.mem_append_right _ (List.mem_append_right _ (List.mem_append_right _ (List.mem_append_right _ (List.mem_append_right _ (List.mem_append_left _ h))))))))))))))))))))))))))))
theorem zi_t69 : ∀ w ∈ zB_t69, w ∈ zB := fun _ h => (List.mem_append_right _ (List.mem_append_right _ (List.mem_append_right _ (List.mem_append_right _ (List.mem_append_right _ (List.mem_append_right _ (List.mem_append_right _ (List.mem_append_right _ (List.mem_append_right _ (List.mem_append_right _ (List.mem_append_right _ (List.mem_append_right _ (List.mem_append_right _ (List.mem_append_right _ (List.mem_append_right _ (List.mem_append_right _ (List.mem_append_right _ (List.mem_append_right _ (List.mem_append_right _ (List.mem_append_right _ (List.mem_append_right _ (List.mem_append_right _ (List.mem_append_right _ (List.mem_append_right _ (List.mem_append_right _ (List.mem_append_right _ (List.mem_append_right _ (List.mem_append_right _ (List.mem_append_left _ h)))))))))))))))))))))))))))))
theorem zi_t96 : ∀ w ∈ zB_t96, w ∈ zB := fun _ h => (List.mem_append_right _ (List.mem_append_right _ (List.mem_append_right _ (List.mem_append_right _ (List.mem_append_right _ (List.mem_append_right _ (List.mem_append_right _ (List.mem_append_right _ (List.mem_append_right _ (List.mem_append_right _ (List.mem_append_right _ (List.mem_append_right _ (List.mem_append_right _ (List.mem_append_right _ (List.mem_append_right _ (List.mem_append_right _ (List.mem_append_right _ (List.mem_append_right _ (List.mem_append_right _ (List.mem_append_right _ (List.mem_append_right _ (List.mem_append_right _ (List.mem_append_right _ (List.mem_append_right _ (List.mem_append_right _ (List.mem_append_right _ (List.mem_append_right _ (List.mem_append_right _ (List.mem_append_right _ (List.mem_append_left _ h))))))))))))))))))))))))))))))
theorem zi_t162 : ∀ w ∈ zB_t162, w ∈ zB := fun _ h => (List.mem_append_right _ (List.mem_append_right _ (List.mem_append_right _ (List.mem_append_right _ (List.mem_append_right _ (List.mem_append_right _ (List.mem_append_right _ (List.mem_append_right _ (List.mem_append_right _ (List.mem_append_right _ (List.mem_append_right _ (List.mem_append_right _ (List.mem_append_right _ (List.mem_append_right _ (List.mem_append_right _ (List.mem_append_right _ (List.mem_append_right _ (List.mem_append_right _ (List.mem_append_right _ (List.mem_append_right _ (List.mem_append_right _ (List.mem_append_right _ (List.mem_append_right _ (List.mem_append_right _ (List.mem_append_right _ (List.mem_append_right _ (List.mem_append_right _ (List.mem_append_right _ (List.mem_append_right _ (List.mem_append_right _ (List.mem_append_left _ h)))))))))))))))))))))))))))))))
theorem zi_t176 : ∀ w ∈ zB_t176, w ∈ zB := fun _ h => (List.mem_append_right _ (List.mem_append_right _ (List.mem_append_right _ (List.mem_append_right _ (List.mem_append_right _ (List.mem_append_right _ (List.mem_append_right _ (List.mem_append_right _ (List.mem_append_right _ (List.mem_append_right _ (List.mem_append_right _ (List.mem_append_right _ (List.mem_append_right _ (List.mem_append_right _ (List.mem_append_right _ (List.mem_append_right _ (List.mem_append_right _ (List.mem_append_right _ (List.mem_append_right _ (List.mem_append_right _ (List.mem_append_right _ (List.mem_append_right _ (List.mem_append_right _ (List.mem_append_right _ (List.mem_append_right _ (List.mem_append_right _ (List.mem_append_right _ (List.mem_append_right _ (List.mem_append_right _ (List.mem_append_right _ (List.mem_append_right _ h)))))))))))))))))))))))))))))))
theorem zm_0 : (Cond.classLink RL 10 RX7 : Cond) ∈ zB := zi_b0 _ (List.mem_of_getElem? (i := 0) rfl)
theorem zm_1 : (Cond.instantiable RX7 16 : Cond) ∈ zB := zi_b0 _ (List.mem_of_getElem? (i := 1) rfl)
theorem zm_2 : (Cond.initialized RX7 : Cond) ∈ zB := zi_b0 _ (List.mem_of_getElem? (i := 2) rfl)
theorem zm_3 : (Cond.arrayClass .int : Cond) ∈ zB := zi_b0 _ (List.mem_of_getElem? (i := 3) rfl)
theorem zm_4 : (Cond.arrayClass .char : Cond) ∈ zB := zi_b0 _ (List.mem_of_getElem? (i := 4) rfl)
theorem zm_5 : (Cond.arrayClass .boolean : Cond) ∈ zB := zi_b0 _ (List.mem_of_getElem? (i := 5) rfl)
theorem zm_6 : (Cond.classLink RL 131 "[[Z" : Cond) ∈ zB := zi_b0 _ (List.mem_of_getElem? (i := 6) rfl)
theorem zm_7 : (Cond.classLink RL 133 "[[I" : Cond) ∈ zB := zi_b0 _ (List.mem_of_getElem? (i := 7) rfl)
theorem zm_8 : (Cond.constant RL 17 (-900001) : Cond) ∈ zB := zi_b0 _ (List.mem_of_getElem? (i := 8) rfl)
theorem zm_9 : (Cond.constant RL 29 (-900003) : Cond) ∈ zB := zi_b0 _ (List.mem_of_getElem? (i := 9) rfl)
theorem zm_10 : (Cond.constant RL 20 (-900002) : Cond) ∈ zB := zi_b0 _ (List.mem_of_getElem? (i := 10) rfl)
theorem zm_11 : (Cond.methodLink RL 126 yX7_init : Cond) ∈ zB := zi_b0 _ (List.mem_of_getElem? (i := 11) rfl)
theorem zm_12 : (Cond.instanceMethod yX7_init : Cond) ∈ zB := zi_b0 _ (List.mem_of_getElem? (i := 12) rfl)
theorem zm_13 : (Cond.code yX7_init cX7_init 2 none : Cond) ∈ zB := zi_b0 _ (List.mem_of_getElem? (i := 13) rfl)
theorem zm_14 : (Cond.methodLink RX7 1 objectInit : Cond) ∈ zB := zi_b0 _ (List.mem_of_getElem? (i := 14) rfl)
theorem zm_15 : (Cond.instanceMethod objectInit : Cond) ∈ zB := zi_b0 _ (List.mem_of_getElem? (i := 15) rfl)
theorem zm_16 : (Cond.code objectInit ⟨#[0xb1]⟩ 1 none : Cond) ∈ zB := zi_b0 _ (List.mem_of_getElem? (i := 16) rfl)
theorem zm_17 : (Cond.classLink RX7 9 RX1 : Cond) ∈ zB := zi_b0 _ (List.mem_of_getElem? (i := 17) rfl)
theorem zm_18 : (Cond.fieldLink RX7 11 "Wagonplay" "guilds" "[LWagonplay$Guild;" : Cond) ∈ zB := zi_b0 _ (List.mem_of_getElem? (i := 18) rfl)
theorem zm_19 : (Cond.fieldLink RX7 15 "Wagonplay" "order" "[I" : Cond) ∈ zB := zi_b0 _ (List.mem_of_getElem? (i := 19) rfl)
theorem zm_20 : (Cond.classLink RX7 19 RX0 : Cond) ∈ zB := zi_b0 _ (List.mem_of_getElem? (i := 20) rfl)
theorem zm_21 : (Cond.instantiable RX0 3 : Cond) ∈ zB := zi_b0 _ (List.mem_of_getElem? (i := 21) rfl)
theorem zm_22 : (Cond.initialized RX0 : Cond) ∈ zB := zi_b0 _ (List.mem_of_getElem? (i := 22) rfl)
theorem zm_23 : (Cond.fieldLink RX7 22 "Wagonplay" "ground" "LWagonplay$Ground;" : Cond) ∈ zB := zi_b0 _ (List.mem_of_getElem? (i := 23) rfl)
theorem zm_24 : (Cond.classLink RX7 26 RX2 : Cond) ∈ zB := zi_b1 _ (List.mem_of_getElem? (i := 0) rfl)
theorem zm_25 : (Cond.instantiable RX2 2 : Cond) ∈ zB := zi_b1 _ (List.mem_of_getElem? (i := 1) rfl)
theorem zm_26 : (Cond.initialized RX2 : Cond) ∈ zB := zi_b1 _ (List.mem_of_getElem? (i := 2) rfl)
theorem zm_27 : (Cond.fieldLink RX7 29 "Wagonplay" "letters" "LWagonplay$Letters;" : Cond) ∈ zB := zi_b1 _ (List.mem_of_getElem? (i := 3) rfl)
theorem zm_28 : (Cond.fieldLink RX7 33 "Wagonplay" "struck" "[Z" : Cond) ∈ zB := zi_b1 _ (List.mem_of_getElem? (i := 4) rfl)
theorem zm_29 : (Cond.fieldLink RX7 37 "Wagonplay" "housePaid" "[I" : Cond) ∈ zB := zi_b1 _ (List.mem_of_getElem? (i := 5) rfl)
theorem zm_30 : (Cond.classLink RX7 40 RX3 : Cond) ∈ zB := zi_b1 _ (List.mem_of_getElem? (i := 6) rfl)
theorem zm_31 : (Cond.instantiable RX3 3 : Cond) ∈ zB := zi_b1 _ (List.mem_of_getElem? (i := 7) rfl)
theorem zm_32 : (Cond.initialized RX3 : Cond) ∈ zB := zi_b1 _ (List.mem_of_getElem? (i := 8) rfl)
theorem zm_33 : (Cond.fieldLink RX7 43 "Wagonplay" "today" "LWagonplay$Plan;" : Cond) ∈ zB := zi_b1 _ (List.mem_of_getElem? (i := 9) rfl)
theorem zm_34 : (Cond.fieldLink RX7 47 "Wagonplay" "trial" "LWagonplay$Plan;" : Cond) ∈ zB := zi_b1 _ (List.mem_of_getElem? (i := 10) rfl)
theorem zm_35 : (Cond.fieldLink RX7 50 "Wagonplay" "triedOrder" "[I" : Cond) ∈ zB := zi_b1 _ (List.mem_of_getElem? (i := 11) rfl)
theorem zm_36 : (Cond.fieldLink RX7 53 "Wagonplay" "bestOrder" "[I" : Cond) ∈ zB := zi_b1 _ (List.mem_of_getElem? (i := 12) rfl)
theorem zm_37 : (Cond.instantiable RX1 7 : Cond) ∈ zB := zi_b1 _ (List.mem_of_getElem? (i := 13) rfl)
theorem zm_38 : (Cond.initialized RX1 : Cond) ∈ zB := zi_b1 _ (List.mem_of_getElem? (i := 14) rfl)
theorem zm_39 : (Cond.methodLink RX7 21 yX0_init : Cond) ∈ zB := zi_b1 _ (List.mem_of_getElem? (i := 15) rfl)
theorem zm_40 : (Cond.instanceMethod yX0_init : Cond) ∈ zB := zi_b1 _ (List.mem_of_getElem? (i := 16) rfl)
theorem zm_41 : (Cond.code yX0_init cX0_init 2 none : Cond) ∈ zB := zi_b1 _ (List.mem_of_getElem? (i := 17) rfl)
theorem zm_42 : (Cond.methodLink RX0 3 objectInit : Cond) ∈ zB := zi_b1 _ (List.mem_of_getElem? (i := 18) rfl)
theorem zm_43 : (Cond.classLink RX0 9 RX6 : Cond) ∈ zB := zi_b1 _ (List.mem_of_getElem? (i := 19) rfl)
theorem zm_44 : (Cond.fieldLink RX0 11 "Wagonplay$Ground" "stations" "[LWagonplay$Station;" : Cond) ∈ zB := zi_b1 _ (List.mem_of_getElem? (i := 20) rfl)
theorem zm_45 : (Cond.fieldLink RX0 17 "Wagonplay$Ground" "wet" "[Z" : Cond) ∈ zB := zi_b1 _ (List.mem_of_getElem? (i := 21) rfl)
theorem zm_46 : (Cond.instantiable RX6 7 : Cond) ∈ zB := zi_b1 _ (List.mem_of_getElem? (i := 22) rfl)
theorem zm_47 : (Cond.initialized RX6 : Cond) ∈ zB := zi_b1 _ (List.mem_of_getElem? (i := 23) rfl)
theorem zm_48 : (Cond.instanceMethod yX6_init : Cond) ∈ zB := zi_b2 _ (List.mem_of_getElem? (i := 0) rfl)
theorem zm_49 : (Cond.code yX6_init cX6_init 1 none : Cond) ∈ zB := zi_b2 _ (List.mem_of_getElem? (i := 1) rfl)
theorem zm_50 : (Cond.methodLink RX6 3 objectInit : Cond) ∈ zB := zi_b2 _ (List.mem_of_getElem? (i := 2) rfl)
theorem zm_51 : (Cond.fieldLink RX6 9 "Wagonplay$Station" "house" "I" : Cond) ∈ zB := zi_b2 _ (List.mem_of_getElem? (i := 3) rfl)
theorem zm_52 : (Cond.instanceMethod yX2_init : Cond) ∈ zB := zi_b2 _ (List.mem_of_getElem? (i := 4) rfl)
theorem zm_53 : (Cond.code yX2_init cX2_init 1 none : Cond) ∈ zB := zi_b2 _ (List.mem_of_getElem? (i := 5) rfl)
theorem zm_54 : (Cond.methodLink RX2 3 objectInit : Cond) ∈ zB := zi_b2 _ (List.mem_of_getElem? (i := 6) rfl)
theorem zm_55 : (Cond.fieldLink RX2 9 "Wagonplay$Letters" "typed" "[C" : Cond) ∈ zB := zi_b2 _ (List.mem_of_getElem? (i := 7) rfl)
theorem zm_56 : (Cond.methodLink RX7 42 yX3_init : Cond) ∈ zB := zi_b2 _ (List.mem_of_getElem? (i := 8) rfl)
theorem zm_57 : (Cond.instanceMethod yX3_init : Cond) ∈ zB := zi_b2 _ (List.mem_of_getElem? (i := 9) rfl)
theorem zm_58 : (Cond.code yX3_init cX3_init 2 none : Cond) ∈ zB := zi_b2 _ (List.mem_of_getElem? (i := 10) rfl)
theorem zm_59 : (Cond.methodLink RX3 3 objectInit : Cond) ∈ zB := zi_b2 _ (List.mem_of_getElem? (i := 11) rfl)
theorem zm_60 : (Cond.classLink RX3 9 RX5 : Cond) ∈ zB := zi_b2 _ (List.mem_of_getElem? (i := 12) rfl)
theorem zm_61 : (Cond.fieldLink RX3 11 "Wagonplay$Plan" "shows" "[LWagonplay$Show;" : Cond) ∈ zB := zi_b2 _ (List.mem_of_getElem? (i := 13) rfl)
theorem zm_62 : (Cond.instantiable RX5 8 : Cond) ∈ zB := zi_b2 _ (List.mem_of_getElem? (i := 14) rfl)
theorem zm_63 : (Cond.initialized RX5 : Cond) ∈ zB := zi_b2 _ (List.mem_of_getElem? (i := 15) rfl)
theorem zm_64 : (Cond.instanceMethod yX5_init : Cond) ∈ zB := zi_b2 _ (List.mem_of_getElem? (i := 16) rfl)
theorem zm_65 : (Cond.code yX5_init cX5_init 1 none : Cond) ∈ zB := zi_b2 _ (List.mem_of_getElem? (i := 17) rfl)
theorem zm_66 : (Cond.methodLink RX5 3 objectInit : Cond) ∈ zB := zi_b2 _ (List.mem_of_getElem? (i := 18) rfl)
theorem zm_67 : (Cond.fieldLink RX5 9 "Wagonplay$Show" "comes" "[I" : Cond) ∈ zB := zi_b2 _ (List.mem_of_getElem? (i := 19) rfl)
theorem zm_68 : (Cond.fieldLink RX5 15 "Wagonplay$Show" "begins" "[I" : Cond) ∈ zB := zi_b2 _ (List.mem_of_getElem? (i := 20) rfl)
theorem zm_69 : (Cond.fieldLink RX5 18 "Wagonplay$Show" "ends" "[I" : Cond) ∈ zB := zi_b2 _ (List.mem_of_getElem? (i := 21) rfl)
theorem zm_70 : (Cond.fieldLink RX5 21 "Wagonplay$Show" "gaps" "[I" : Cond) ∈ zB := zi_b2 _ (List.mem_of_getElem? (i := 22) rfl)
theorem zm_71 : (Cond.fieldLink RX5 24 "Wagonplay$Show" "said" "[I" : Cond) ∈ zB := zi_b2 _ (List.mem_of_getElem? (i := 23) rfl)
theorem zm_72 : (Cond.fieldLink RX5 27 "Wagonplay$Show" "ways" "[C" : Cond) ∈ zB := zi_b3 _ (List.mem_of_getElem? (i := 0) rfl)
theorem zm_73 : (Cond.instanceMethod yX1_init : Cond) ∈ zB := zi_b3 _ (List.mem_of_getElem? (i := 1) rfl)
theorem zm_74 : (Cond.code yX1_init cX1_init 1 none : Cond) ∈ zB := zi_b3 _ (List.mem_of_getElem? (i := 2) rfl)
theorem zm_75 : (Cond.methodLink RX1 1 objectInit : Cond) ∈ zB := zi_b3 _ (List.mem_of_getElem? (i := 3) rfl)
theorem zm_76 : (Cond.fieldLink RX1 7 "Wagonplay$Guild" "height" "I" : Cond) ∈ zB := zi_b3 _ (List.mem_of_getElem? (i := 4) rfl)
theorem zm_77 : (Cond.fieldLink RX1 13 "Wagonplay$Guild" "hands" "I" : Cond) ∈ zB := zi_b3 _ (List.mem_of_getElem? (i := 5) rfl)
theorem zm_78 : (Cond.fieldLink RX1 16 "Wagonplay$Guild" "wheels" "I" : Cond) ∈ zB := zi_b3 _ (List.mem_of_getElem? (i := 6) rfl)
theorem zm_79 : (Cond.classLink RX1 19 RX4 : Cond) ∈ zB := zi_b3 _ (List.mem_of_getElem? (i := 7) rfl)
theorem zm_80 : (Cond.instantiable RX4 7 : Cond) ∈ zB := zi_b3 _ (List.mem_of_getElem? (i := 8) rfl)
theorem zm_81 : (Cond.initialized RX4 : Cond) ∈ zB := zi_b3 _ (List.mem_of_getElem? (i := 9) rfl)
theorem zm_82 : (Cond.fieldLink RX1 22 "Wagonplay$Guild" "play" "LWagonplay$Play;" : Cond) ∈ zB := zi_b3 _ (List.mem_of_getElem? (i := 10) rfl)
theorem zm_83 : (Cond.methodLink RX1 21 yX4_init : Cond) ∈ zB := zi_b3 _ (List.mem_of_getElem? (i := 11) rfl)
theorem zm_84 : (Cond.instanceMethod yX4_init : Cond) ∈ zB := zi_b3 _ (List.mem_of_getElem? (i := 12) rfl)
theorem zm_85 : (Cond.code yX4_init cX4_init 2 none : Cond) ∈ zB := zi_b3 _ (List.mem_of_getElem? (i := 13) rfl)
theorem zm_86 : (Cond.methodLink RX4 3 objectInit : Cond) ∈ zB := zi_b3 _ (List.mem_of_getElem? (i := 14) rfl)
theorem zm_87 : (Cond.fieldLink RX4 9 "Wagonplay$Play" "players" "[I" : Cond) ∈ zB := zi_b3 _ (List.mem_of_getElem? (i := 15) rfl)
theorem zm_88 : (Cond.fieldLink RX4 15 "Wagonplay$Play" "lost" "[Z" : Cond) ∈ zB := zi_b3 _ (List.mem_of_getElem? (i := 16) rfl)
theorem zm_89 : (Cond.methodLink RL 127 yL_in : Cond) ∈ zB := zi_b3 _ (List.mem_of_getElem? (i := 17) rfl)
theorem zm_90 : (Cond.static yL_in : Cond) ∈ zB := zi_b3 _ (List.mem_of_getElem? (i := 18) rfl)
theorem zm_91 : (Cond.initialized RL : Cond) ∈ zB := zi_b3 _ (List.mem_of_getElem? (i := 19) rfl)
theorem zm_92 : (Cond.code yL_in cL_in 3 (some .int) : Cond) ∈ zB := zi_b3 _ (List.mem_of_getElem? (i := 20) rfl)
theorem zm_93 : (Cond.constant RL 101 (2147483647) : Cond) ∈ zB := zi_b3 _ (List.mem_of_getElem? (i := 21) rfl)
theorem zm_94 : (Cond.methodLink RL 95 yL_cell : Cond) ∈ zB := zi_b3 _ (List.mem_of_getElem? (i := 22) rfl)
theorem zm_95 : (Cond.static yL_cell : Cond) ∈ zB := zi_b3 _ (List.mem_of_getElem? (i := 23) rfl)
theorem zm_96 : (Cond.code yL_cell cL_cell 3 (some .int) : Cond) ∈ zB := zi_b4 _ (List.mem_of_getElem? (i := 0) rfl)
theorem zm_97 : (Cond.constant RL 7 (69069) : Cond) ∈ zB := zi_b4 _ (List.mem_of_getElem? (i := 1) rfl)
theorem zm_98 : (Cond.constant RL 8 (1103515245) : Cond) ∈ zB := zi_b4 _ (List.mem_of_getElem? (i := 2) rfl)
theorem zm_99 : (Cond.methodLink RL 135 yL_addGuild : Cond) ∈ zB := zi_b4 _ (List.mem_of_getElem? (i := 3) rfl)
theorem zm_100 : (Cond.static yL_addGuild : Cond) ∈ zB := zi_b4 _ (List.mem_of_getElem? (i := 4) rfl)
theorem zm_101 : (Cond.codeWith yL_addGuild cL_addGuild 5 (some .int) [(0, 7, 8, 15), (0, 7, 13, 18)] : Cond) ∈ zB := zi_b4 _ (List.mem_of_getElem? (i := 5) rfl)
theorem zm_102 : (Cond.classLink RL 15 "java/lang/IllegalArgumentException" : Cond) ∈ zB := zi_b4 _ (List.mem_of_getElem? (i := 6) rfl)
theorem zm_103 : (Cond.classLink RL 18 "java/lang/IllegalStateException" : Cond) ∈ zB := zi_b4 _ (List.mem_of_getElem? (i := 7) rfl)
theorem zm_104 : (Cond.methodLink RL 9 yX7_addGuild : Cond) ∈ zB := zi_b4 _ (List.mem_of_getElem? (i := 8) rfl)
theorem zm_105 : (Cond.instanceMethod yX7_addGuild : Cond) ∈ zB := zi_b4 _ (List.mem_of_getElem? (i := 9) rfl)
theorem zm_106 : (Cond.selects RX7 yX7_addGuild yX7_addGuild : Cond) ∈ zB := zi_b4 _ (List.mem_of_getElem? (i := 10) rfl)
theorem zm_107 : (Cond.code yX7_addGuild cX7_addGuild 6 (some .int) : Cond) ∈ zB := zi_b4 _ (List.mem_of_getElem? (i := 11) rfl)
theorem zm_108 : (Cond.classLink RX7 65 "java/lang/IllegalStateException" : Cond) ∈ zB := zi_b4 _ (List.mem_of_getElem? (i := 12) rfl)
theorem zm_109 : (Cond.initialized "java/lang/IllegalStateException" : Cond) ∈ zB := zi_b4 _ (List.mem_of_getElem? (i := 13) rfl)
theorem zm_110 : (Cond.fieldLink RX7 61 "Wagonplay" "guildCount" "I" : Cond) ∈ zB := zi_b4 _ (List.mem_of_getElem? (i := 14) rfl)
theorem zm_111 : (Cond.fieldLink RX7 72 "Wagonplay$Guild" "wealth" "I" : Cond) ∈ zB := zi_b4 _ (List.mem_of_getElem? (i := 15) rfl)
theorem zm_112 : (Cond.fieldLink RX7 75 "Wagonplay$Guild" "play" "LWagonplay$Play;" : Cond) ∈ zB := zi_b4 _ (List.mem_of_getElem? (i := 16) rfl)
theorem zm_113 : (Cond.fieldLink RX7 85 "Wagonplay" "wealthBrought" "I" : Cond) ∈ zB := zi_b4 _ (List.mem_of_getElem? (i := 17) rfl)
theorem zm_114 : (Cond.methodLink RX7 57 yX7_needRange : Cond) ∈ zB := zi_b4 _ (List.mem_of_getElem? (i := 18) rfl)
theorem zm_115 : (Cond.static yX7_needRange : Cond) ∈ zB := zi_b4 _ (List.mem_of_getElem? (i := 19) rfl)
theorem zm_116 : (Cond.code yX7_needRange cX7_needRange 3 none : Cond) ∈ zB := zi_b4 _ (List.mem_of_getElem? (i := 20) rfl)
theorem zm_117 : (Cond.classLink RX7 92 "java/lang/IllegalArgumentException" : Cond) ∈ zB := zi_b4 _ (List.mem_of_getElem? (i := 21) rfl)
theorem zm_118 : (Cond.initialized "java/lang/IllegalArgumentException" : Cond) ∈ zB := zi_b4 _ (List.mem_of_getElem? (i := 22) rfl)
theorem zm_119 : (Cond.methodLink RX7 79 yX4_write : Cond) ∈ zB := zi_b4 _ (List.mem_of_getElem? (i := 23) rfl)
theorem zm_120 : (Cond.instanceMethod yX4_write : Cond) ∈ zB := zi_b5 _ (List.mem_of_getElem? (i := 0) rfl)
theorem zm_121 : (Cond.selects RX4 yX4_write yX4_write : Cond) ∈ zB := zi_b5 _ (List.mem_of_getElem? (i := 1) rfl)
theorem zm_122 : (Cond.code yX4_write cX4_write 3 none : Cond) ∈ zB := zi_b5 _ (List.mem_of_getElem? (i := 2) rfl)
theorem zm_123 : (Cond.fieldLink RX4 19 "Wagonplay$Play" "lines" "I" : Cond) ∈ zB := zi_b5 _ (List.mem_of_getElem? (i := 3) rfl)
theorem zm_124 : (Cond.fieldLink RX4 23 "Wagonplay$Play" "linesInBook" "I" : Cond) ∈ zB := zi_b5 _ (List.mem_of_getElem? (i := 4) rfl)
theorem zm_125 : (Cond.fieldLink RX4 26 "Wagonplay$Play" "parts" "I" : Cond) ∈ zB := zi_b5 _ (List.mem_of_getElem? (i := 5) rfl)
theorem zm_126 : (Cond.methodLink RL 138 yL_isOver : Cond) ∈ zB := zi_b5 _ (List.mem_of_getElem? (i := 6) rfl)
theorem zm_127 : (Cond.static yL_isOver : Cond) ∈ zB := zi_b5 _ (List.mem_of_getElem? (i := 7) rfl)
theorem zm_128 : (Cond.codeWith yL_isOver cL_isOver 3 (some .int) [(0, 13, 14, 25)] : Cond) ∈ zB := zi_b5 _ (List.mem_of_getElem? (i := 8) rfl)
theorem zm_129 : (Cond.classLink RL 25 "java/lang/IndexOutOfBoundsException" : Cond) ∈ zB := zi_b5 _ (List.mem_of_getElem? (i := 9) rfl)
theorem zm_130 : (Cond.methodLink RL 83 yX7_isOver : Cond) ∈ zB := zi_b5 _ (List.mem_of_getElem? (i := 10) rfl)
theorem zm_131 : (Cond.instanceMethod yX7_isOver : Cond) ∈ zB := zi_b5 _ (List.mem_of_getElem? (i := 11) rfl)
theorem zm_132 : (Cond.selects RX7 yX7_isOver yX7_isOver : Cond) ∈ zB := zi_b5 _ (List.mem_of_getElem? (i := 12) rfl)
theorem zm_133 : (Cond.code yX7_isOver cX7_isOver 2 (some .boolean) : Cond) ∈ zB := zi_b5 _ (List.mem_of_getElem? (i := 13) rfl)
theorem zm_134 : (Cond.fieldLink RX7 100 "Wagonplay$Guild" "over" "Z" : Cond) ∈ zB := zi_b5 _ (List.mem_of_getElem? (i := 14) rfl)
theorem zm_135 : (Cond.methodLink RX7 88 yX7_needGuild : Cond) ∈ zB := zi_b5 _ (List.mem_of_getElem? (i := 15) rfl)
theorem zm_136 : (Cond.instanceMethod yX7_needGuild : Cond) ∈ zB := zi_b5 _ (List.mem_of_getElem? (i := 16) rfl)
theorem zm_137 : (Cond.selects RX7 yX7_needGuild yX7_needGuild : Cond) ∈ zB := zi_b5 _ (List.mem_of_getElem? (i := 17) rfl)
theorem zm_138 : (Cond.code yX7_needGuild cX7_needGuild 2 none : Cond) ∈ zB := zi_b5 _ (List.mem_of_getElem? (i := 18) rfl)
theorem zm_139 : (Cond.classLink RX7 158 "java/lang/IndexOutOfBoundsException" : Cond) ∈ zB := zi_b5 _ (List.mem_of_getElem? (i := 19) rfl)
theorem zm_140 : (Cond.initialized "java/lang/IndexOutOfBoundsException" : Cond) ∈ zB := zi_b5 _ (List.mem_of_getElem? (i := 20) rfl)
theorem zm_141 : (Cond.methodLink RL 141 yL_strike : Cond) ∈ zB := zi_b5 _ (List.mem_of_getElem? (i := 21) rfl)
theorem zm_142 : (Cond.static yL_strike : Cond) ∈ zB := zi_b5 _ (List.mem_of_getElem? (i := 22) rfl)
theorem zm_143 : (Cond.codeWith yL_strike cL_strike 3 (some .int) [(0, 13, 14, 27)] : Cond) ∈ zB := zi_b5 _ (List.mem_of_getElem? (i := 23) rfl)
theorem zm_144 : (Cond.classLink RL 27 "java/lang/UnsupportedOperationException" : Cond) ∈ zB := zi_b6 _ (List.mem_of_getElem? (i := 0) rfl)
theorem zm_145 : (Cond.methodLink RL 87 yX7_strike : Cond) ∈ zB := zi_b6 _ (List.mem_of_getElem? (i := 1) rfl)
theorem zm_146 : (Cond.instanceMethod yX7_strike : Cond) ∈ zB := zi_b6 _ (List.mem_of_getElem? (i := 2) rfl)
theorem zm_147 : (Cond.selects RX7 yX7_strike yX7_strike : Cond) ∈ zB := zi_b6 _ (List.mem_of_getElem? (i := 3) rfl)
theorem zm_148 : (Cond.code yX7_strike cX7_strike 4 (some .boolean) : Cond) ∈ zB := zi_b6 _ (List.mem_of_getElem? (i := 4) rfl)
theorem zm_149 : (Cond.methodLink RX7 136 yX7_typedSubject : Cond) ∈ zB := zi_b6 _ (List.mem_of_getElem? (i := 5) rfl)
theorem zm_150 : (Cond.instanceMethod yX7_typedSubject : Cond) ∈ zB := zi_b6 _ (List.mem_of_getElem? (i := 6) rfl)
theorem zm_151 : (Cond.selects RX7 yX7_typedSubject yX7_typedSubject : Cond) ∈ zB := zi_b6 _ (List.mem_of_getElem? (i := 7) rfl)
theorem zm_152 : (Cond.code yX7_typedSubject cX7_typedSubject 2 (some .int) : Cond) ∈ zB := zi_b6 _ (List.mem_of_getElem? (i := 8) rfl)
theorem zm_153 : (Cond.classLink RX7 172 "java/lang/UnsupportedOperationException" : Cond) ∈ zB := zi_b6 _ (List.mem_of_getElem? (i := 9) rfl)
theorem zm_154 : (Cond.initialized "java/lang/UnsupportedOperationException" : Cond) ∈ zB := zi_b6 _ (List.mem_of_getElem? (i := 10) rfl)
theorem zm_155 : (Cond.methodLink RX7 371 yX2_spelt : Cond) ∈ zB := zi_b6 _ (List.mem_of_getElem? (i := 11) rfl)
theorem zm_156 : (Cond.instanceMethod yX2_spelt : Cond) ∈ zB := zi_b6 _ (List.mem_of_getElem? (i := 12) rfl)
theorem zm_157 : (Cond.selects RX2 yX2_spelt yX2_spelt : Cond) ∈ zB := zi_b6 _ (List.mem_of_getElem? (i := 13) rfl)
theorem zm_158 : (Cond.code yX2_spelt cX2_spelt 2 (some .int) : Cond) ∈ zB := zi_b6 _ (List.mem_of_getElem? (i := 14) rfl)
theorem zm_159 : (Cond.methodLink RX2 19 yX2_wordOf : Cond) ∈ zB := zi_b6 _ (List.mem_of_getElem? (i := 15) rfl)
theorem zm_160 : (Cond.static yX2_wordOf : Cond) ∈ zB := zi_b6 _ (List.mem_of_getElem? (i := 16) rfl)
theorem zm_161 : (Cond.code yX2_wordOf cX2_wordOf 1 (some (.object "java/lang/String")) : Cond) ∈ zB := zi_b6 _ (List.mem_of_getElem? (i := 17) rfl)
theorem zm_162 : (Cond.methodLink RX2 23 yX2_isTyped : Cond) ∈ zB := zi_b6 _ (List.mem_of_getElem? (i := 18) rfl)
theorem zm_163 : (Cond.instanceMethod yX2_isTyped : Cond) ∈ zB := zi_b6 _ (List.mem_of_getElem? (i := 19) rfl)
theorem zm_164 : (Cond.selects RX2 yX2_isTyped yX2_isTyped : Cond) ∈ zB := zi_b6 _ (List.mem_of_getElem? (i := 20) rfl)
theorem zm_165 : (Cond.code yX2_isTyped cX2_isTyped 3 (some .boolean) : Cond) ∈ zB := zi_b6 _ (List.mem_of_getElem? (i := 21) rfl)
theorem zm_166 : (Cond.fieldLink RX2 15 "Wagonplay$Letters" "count" "I" : Cond) ∈ zB := zi_b6 _ (List.mem_of_getElem? (i := 22) rfl)
theorem zm_167 : (Cond.methodLink RX2 27 yJ0_length_8abf5 : Cond) ∈ zB := zi_b6 _ (List.mem_of_getElem? (i := 23) rfl)
theorem zm_168 : (Cond.instanceMethod yJ0_length_8abf5 : Cond) ∈ zB := zi_b7 _ (List.mem_of_getElem? (i := 0) rfl)
theorem zm_169 : (Cond.selects RJ0 yJ0_length_8abf5 yJ0_length_8abf5 : Cond) ∈ zB := zi_b7 _ (List.mem_of_getElem? (i := 1) rfl)
theorem zm_170 : (Cond.initialized RJ0 : Cond) ∈ zB := zi_b7 _ (List.mem_of_getElem? (i := 2) rfl)
theorem zm_171 : (Cond.code yJ0_length_8abf5 cJ0_length_8abf5 1 (some .int) : Cond) ∈ zB := zi_b7 _ (List.mem_of_getElem? (i := 3) rfl)
theorem zm_172 : (Cond.fieldLink RJ0 9 "java/lang/String" "value" "[B" : Cond) ∈ zB := zi_b7 _ (List.mem_of_getElem? (i := 4) rfl)
theorem zm_173 : (Cond.methodLink RJ0 335 yJ0_coder_7d493 : Cond) ∈ zB := zi_b7 _ (List.mem_of_getElem? (i := 5) rfl)
theorem zm_174 : (Cond.instanceMethod yJ0_coder_7d493 : Cond) ∈ zB := zi_b7 _ (List.mem_of_getElem? (i := 6) rfl)
theorem zm_175 : (Cond.selects RJ0 yJ0_coder_7d493 yJ0_coder_7d493 : Cond) ∈ zB := zi_b7 _ (List.mem_of_getElem? (i := 7) rfl)
theorem zm_176 : (Cond.code yJ0_coder_7d493 cJ0_coder_7d493 1 (some .byte) : Cond) ∈ zB := zi_b7 _ (List.mem_of_getElem? (i := 8) rfl)
theorem zm_177 : (Cond.fieldLink RJ0 38 "java/lang/String" "COMPACT_STRINGS" "Z" : Cond) ∈ zB := zi_b7 _ (List.mem_of_getElem? (i := 9) rfl)
theorem zm_178 : (Cond.fieldLink RJ0 15 "java/lang/String" "coder" "B" : Cond) ∈ zB := zi_b7 _ (List.mem_of_getElem? (i := 10) rfl)
theorem zm_179 : (Cond.methodLink RX2 33 yJ0_charAt_5068e : Cond) ∈ zB := zi_b7 _ (List.mem_of_getElem? (i := 11) rfl)
theorem zm_180 : (Cond.instanceMethod yJ0_charAt_5068e : Cond) ∈ zB := zi_b7 _ (List.mem_of_getElem? (i := 12) rfl)
theorem zm_181 : (Cond.selects RJ0 yJ0_charAt_5068e yJ0_charAt_5068e : Cond) ∈ zB := zi_b7 _ (List.mem_of_getElem? (i := 13) rfl)
theorem zm_182 : (Cond.code yJ0_charAt_5068e cJ0_charAt_5068e 2 (some .char) : Cond) ∈ zB := zi_b7 _ (List.mem_of_getElem? (i := 14) rfl)
theorem zm_183 : (Cond.methodLink RJ0 492 yJ0_isLatin1_aae02 : Cond) ∈ zB := zi_b7 _ (List.mem_of_getElem? (i := 15) rfl)
theorem zm_184 : (Cond.instanceMethod yJ0_isLatin1_aae02 : Cond) ∈ zB := zi_b7 _ (List.mem_of_getElem? (i := 16) rfl)
theorem zm_185 : (Cond.selects RJ0 yJ0_isLatin1_aae02 yJ0_isLatin1_aae02 : Cond) ∈ zB := zi_b7 _ (List.mem_of_getElem? (i := 17) rfl)
theorem zm_186 : (Cond.code yJ0_isLatin1_aae02 cJ0_isLatin1_aae02 1 (some .boolean) : Cond) ∈ zB := zi_b7 _ (List.mem_of_getElem? (i := 18) rfl)
theorem zm_187 : (Cond.methodLink RJ0 495 yJ1_charAt_3b067 : Cond) ∈ zB := zi_b7 _ (List.mem_of_getElem? (i := 19) rfl)
theorem zm_188 : (Cond.static yJ1_charAt_3b067 : Cond) ∈ zB := zi_b7 _ (List.mem_of_getElem? (i := 20) rfl)
theorem zm_189 : (Cond.initialized RJ1 : Cond) ∈ zB := zi_b7 _ (List.mem_of_getElem? (i := 21) rfl)
theorem zm_190 : (Cond.code yJ1_charAt_3b067 cJ1_charAt_3b067 2 (some .char) : Cond) ∈ zB := zi_b7 _ (List.mem_of_getElem? (i := 22) rfl)
theorem zm_191 : (Cond.methodLink RJ1 9 yJ0_checkIndex_df160 : Cond) ∈ zB := zi_b7 _ (List.mem_of_getElem? (i := 23) rfl)
theorem zm_192 : (Cond.static yJ0_checkIndex_df160 : Cond) ∈ zB := zi_b8 _ (List.mem_of_getElem? (i := 0) rfl)
theorem zm_193 : (Cond.code yJ0_checkIndex_df160 cJ0_checkIndex_df160 2 none : Cond) ∈ zB := zi_b8 _ (List.mem_of_getElem? (i := 1) rfl)
theorem zm_194 : (Cond.fieldLink RJ0 1053 "jdk/internal/util/Preconditions" "SIOOBE_FORMATTER" "Ljava/util/function/BiFunction;" : Cond) ∈ zB := zi_b8 _ (List.mem_of_getElem? (i := 2) rfl)
theorem zm_195 : (Cond.methodLink RJ0 1059 yJ3_checkIndex_8e157 : Cond) ∈ zB := zi_b8 _ (List.mem_of_getElem? (i := 3) rfl)
theorem zm_196 : (Cond.static yJ3_checkIndex_8e157 : Cond) ∈ zB := zi_b8 _ (List.mem_of_getElem? (i := 4) rfl)
theorem zm_197 : (Cond.initialized RJ3 : Cond) ∈ zB := zi_b8 _ (List.mem_of_getElem? (i := 5) rfl)
theorem zm_198 : (Cond.code yJ3_checkIndex_8e157 cJ3_checkIndex_8e157 3 (some .int) : Cond) ∈ zB := zi_b8 _ (List.mem_of_getElem? (i := 6) rfl)
theorem zm_199 : (Cond.methodLink RJ0 498 yJ2_charAt_3b067 : Cond) ∈ zB := zi_b8 _ (List.mem_of_getElem? (i := 7) rfl)
theorem zm_200 : (Cond.static yJ2_charAt_3b067 : Cond) ∈ zB := zi_b8 _ (List.mem_of_getElem? (i := 8) rfl)
theorem zm_201 : (Cond.initialized RJ2 : Cond) ∈ zB := zi_b8 _ (List.mem_of_getElem? (i := 9) rfl)
theorem zm_202 : (Cond.code yJ2_charAt_3b067 cJ2_charAt_3b067 2 (some .char) : Cond) ∈ zB := zi_b8 _ (List.mem_of_getElem? (i := 10) rfl)
theorem zm_203 : (Cond.methodLink RJ2 67 yJ2_checkIndex_2214a : Cond) ∈ zB := zi_b8 _ (List.mem_of_getElem? (i := 11) rfl)
theorem zm_204 : (Cond.static yJ2_checkIndex_2214a : Cond) ∈ zB := zi_b8 _ (List.mem_of_getElem? (i := 12) rfl)
theorem zm_205 : (Cond.code yJ2_checkIndex_2214a cJ2_checkIndex_2214a 2 none : Cond) ∈ zB := zi_b8 _ (List.mem_of_getElem? (i := 13) rfl)
theorem zm_206 : (Cond.methodLink RJ2 48 yJ2_length_9d52b : Cond) ∈ zB := zi_b8 _ (List.mem_of_getElem? (i := 14) rfl)
theorem zm_207 : (Cond.static yJ2_length_9d52b : Cond) ∈ zB := zi_b8 _ (List.mem_of_getElem? (i := 15) rfl)
theorem zm_208 : (Cond.code yJ2_length_9d52b cJ2_length_9d52b 1 (some .int) : Cond) ∈ zB := zi_b8 _ (List.mem_of_getElem? (i := 16) rfl)
theorem zm_209 : (Cond.methodLink RJ2 414 yJ0_checkIndex_df160 : Cond) ∈ zB := zi_b8 _ (List.mem_of_getElem? (i := 17) rfl)
theorem zm_210 : (Cond.methodLink RJ2 71 yJ2_getChar_3b067 : Cond) ∈ zB := zi_b8 _ (List.mem_of_getElem? (i := 18) rfl)
theorem zm_211 : (Cond.static yJ2_getChar_3b067 : Cond) ∈ zB := zi_b8 _ (List.mem_of_getElem? (i := 19) rfl)
theorem zm_212 : (Cond.code yJ2_getChar_3b067 cJ2_getChar_3b067 2 (some .char) : Cond) ∈ zB := zi_b8 _ (List.mem_of_getElem? (i := 20) rfl)
theorem zm_213 : (Cond.fieldLink RJ2 44 "java/lang/StringUTF16" "$assertionsDisabled" "Z" : Cond) ∈ zB := zi_b8 _ (List.mem_of_getElem? (i := 21) rfl)
theorem zm_214 : (Cond.fieldLink RJ2 59 "java/lang/StringUTF16" "HI_BYTE_SHIFT" "I" : Cond) ∈ zB := zi_b8 _ (List.mem_of_getElem? (i := 22) rfl)
theorem zm_215 : (Cond.fieldLink RJ2 63 "java/lang/StringUTF16" "LO_BYTE_SHIFT" "I" : Cond) ∈ zB := zi_b8 _ (List.mem_of_getElem? (i := 23) rfl)
theorem zm_216 : (Cond.methodLink RL 113 yL_type : Cond) ∈ zB := zi_b9 _ (List.mem_of_getElem? (i := 0) rfl)
theorem zm_217 : (Cond.static yL_type : Cond) ∈ zB := zi_b9 _ (List.mem_of_getElem? (i := 1) rfl)
theorem zm_218 : (Cond.codeWith yL_type cL_type 3 (some .int) [(0, 5, 6, 15), (0, 5, 10, 18)] : Cond) ∈ zB := zi_b9 _ (List.mem_of_getElem? (i := 2) rfl)
theorem zm_219 : (Cond.methodLink RL 34 yX7_type : Cond) ∈ zB := zi_b9 _ (List.mem_of_getElem? (i := 3) rfl)
theorem zm_220 : (Cond.instanceMethod yX7_type : Cond) ∈ zB := zi_b9 _ (List.mem_of_getElem? (i := 4) rfl)
theorem zm_221 : (Cond.selects RX7 yX7_type yX7_type : Cond) ∈ zB := zi_b9 _ (List.mem_of_getElem? (i := 5) rfl)
theorem zm_222 : (Cond.code yX7_type cX7_type 2 (some .int) : Cond) ∈ zB := zi_b9 _ (List.mem_of_getElem? (i := 6) rfl)
theorem zm_223 : (Cond.fieldLink RX7 127 "Wagonplay$Letters" "count" "I" : Cond) ∈ zB := zi_b9 _ (List.mem_of_getElem? (i := 7) rfl)
theorem zm_224 : (Cond.methodLink RX7 132 yX2_append : Cond) ∈ zB := zi_b9 _ (List.mem_of_getElem? (i := 8) rfl)
theorem zm_225 : (Cond.instanceMethod yX2_append : Cond) ∈ zB := zi_b9 _ (List.mem_of_getElem? (i := 9) rfl)
theorem zm_226 : (Cond.selects RX2 yX2_append yX2_append : Cond) ∈ zB := zi_b9 _ (List.mem_of_getElem? (i := 10) rfl)
theorem zm_227 : (Cond.code yX2_append cX2_append 2 none : Cond) ∈ zB := zi_b9 _ (List.mem_of_getElem? (i := 11) rfl)
theorem zm_228 : (Cond.methodLink RL 144 yL_learn : Cond) ∈ zB := zi_b9 _ (List.mem_of_getElem? (i := 12) rfl)
theorem zm_229 : (Cond.static yL_learn : Cond) ∈ zB := zi_b9 _ (List.mem_of_getElem? (i := 13) rfl)
theorem zm_230 : (Cond.codeWith yL_learn cL_learn 4 (some .int) [(0, 6, 7, 25), (0, 6, 11, 15), (0, 6, 15, 27)] : Cond) ∈ zB := zi_b9 _ (List.mem_of_getElem? (i := 14) rfl)
theorem zm_231 : (Cond.methodLink RL 42 yX7_learn : Cond) ∈ zB := zi_b9 _ (List.mem_of_getElem? (i := 15) rfl)
theorem zm_232 : (Cond.instanceMethod yX7_learn : Cond) ∈ zB := zi_b9 _ (List.mem_of_getElem? (i := 16) rfl)
theorem zm_233 : (Cond.selects RX7 yX7_learn yX7_learn : Cond) ∈ zB := zi_b9 _ (List.mem_of_getElem? (i := 17) rfl)
theorem zm_234 : (Cond.code yX7_learn cX7_learn 4 (some .int) : Cond) ∈ zB := zi_b9 _ (List.mem_of_getElem? (i := 18) rfl)
theorem zm_235 : (Cond.fieldLink RX7 110 "Wagonplay$Play" "learnt" "I" : Cond) ∈ zB := zi_b9 _ (List.mem_of_getElem? (i := 19) rfl)
theorem zm_236 : (Cond.methodLink RX7 152 Lib.Math.min.name : Cond) ∈ zB := zi_b9 _ (List.mem_of_getElem? (i := 20) rfl)
theorem zm_237 : (Cond.static Lib.Math.min.name : Cond) ∈ zB := zi_b9 _ (List.mem_of_getElem? (i := 21) rfl)
theorem zm_238 : (Cond.initialized "java/lang/Math" : Cond) ∈ zB := zi_b9 _ (List.mem_of_getElem? (i := 22) rfl)
theorem zm_239 : (Cond.code Lib.Math.min.name Lib.Math.min.code 2 (some .int) : Cond) ∈ zB := zi_b9 _ (List.mem_of_getElem? (i := 23) rfl)
theorem zm_240 : (Cond.methodLink RX7 97 yX7_needNotOver : Cond) ∈ zB := zi_b10 _ (List.mem_of_getElem? (i := 0) rfl)
theorem zm_241 : (Cond.instanceMethod yX7_needNotOver : Cond) ∈ zB := zi_b10 _ (List.mem_of_getElem? (i := 1) rfl)
theorem zm_242 : (Cond.selects RX7 yX7_needNotOver yX7_needNotOver : Cond) ∈ zB := zi_b10 _ (List.mem_of_getElem? (i := 2) rfl)
theorem zm_243 : (Cond.code yX7_needNotOver cX7_needNotOver 2 none : Cond) ∈ zB := zi_b10 _ (List.mem_of_getElem? (i := 3) rfl)
theorem zm_244 : (Cond.methodLink RL 147 yL_cast : Cond) ∈ zB := zi_b10 _ (List.mem_of_getElem? (i := 4) rfl)
theorem zm_245 : (Cond.static yL_cast : Cond) ∈ zB := zi_b10 _ (List.mem_of_getElem? (i := 5) rfl)
theorem zm_246 : (Cond.codeWith yL_cast cL_cast 5 (some .int) [(0, 7, 8, 25), (0, 7, 13, 15)] : Cond) ∈ zB := zi_b10 _ (List.mem_of_getElem? (i := 6) rfl)
theorem zm_247 : (Cond.methodLink RL 45 yX7_cast : Cond) ∈ zB := zi_b10 _ (List.mem_of_getElem? (i := 7) rfl)
theorem zm_248 : (Cond.instanceMethod yX7_cast : Cond) ∈ zB := zi_b10 _ (List.mem_of_getElem? (i := 8) rfl)
theorem zm_249 : (Cond.selects RX7 yX7_cast yX7_cast : Cond) ∈ zB := zi_b10 _ (List.mem_of_getElem? (i := 9) rfl)
theorem zm_250 : (Cond.code yX7_cast cX7_cast 6 (some .int) : Cond) ∈ zB := zi_b10 _ (List.mem_of_getElem? (i := 10) rfl)
theorem zm_251 : (Cond.fieldLink RX7 107 "Wagonplay$Play" "parts" "I" : Cond) ∈ zB := zi_b10 _ (List.mem_of_getElem? (i := 11) rfl)
theorem zm_252 : (Cond.fieldLink RX7 163 "Wagonplay$Play" "players" "[I" : Cond) ∈ zB := zi_b10 _ (List.mem_of_getElem? (i := 12) rfl)
theorem zm_253 : (Cond.methodLink RL 149 yL_mend : Cond) ∈ zB := zi_b10 _ (List.mem_of_getElem? (i := 13) rfl)
theorem zm_254 : (Cond.static yL_mend : Cond) ∈ zB := zi_b10 _ (List.mem_of_getElem? (i := 14) rfl)
theorem zm_255 : (Cond.codeWith yL_mend cL_mend 4 (some .int) [(0, 6, 7, 25), (0, 6, 11, 15), (0, 6, 15, 27)] : Cond) ∈ zB := zi_b10 _ (List.mem_of_getElem? (i := 15) rfl)
theorem zm_256 : (Cond.methodLink RL 51 yX7_mend : Cond) ∈ zB := zi_b10 _ (List.mem_of_getElem? (i := 16) rfl)
theorem zm_257 : (Cond.instanceMethod yX7_mend : Cond) ∈ zB := zi_b10 _ (List.mem_of_getElem? (i := 17) rfl)
theorem zm_258 : (Cond.selects RX7 yX7_mend yX7_mend : Cond) ∈ zB := zi_b10 _ (List.mem_of_getElem? (i := 18) rfl)
theorem zm_259 : (Cond.code yX7_mend cX7_mend 4 (some .int) : Cond) ∈ zB := zi_b10 _ (List.mem_of_getElem? (i := 19) rfl)
theorem zm_260 : (Cond.fieldLink RX7 113 "Wagonplay$Guild" "wheels" "I" : Cond) ∈ zB := zi_b10 _ (List.mem_of_getElem? (i := 20) rfl)
theorem zm_261 : (Cond.methodLink RX7 177 yX7_charge : Cond) ∈ zB := zi_b10 _ (List.mem_of_getElem? (i := 21) rfl)
theorem zm_262 : (Cond.instanceMethod yX7_charge : Cond) ∈ zB := zi_b10 _ (List.mem_of_getElem? (i := 22) rfl)
theorem zm_263 : (Cond.selects RX7 yX7_charge yX7_charge : Cond) ∈ zB := zi_b10 _ (List.mem_of_getElem? (i := 23) rfl)
theorem zm_264 : (Cond.code yX7_charge cX7_charge 3 none : Cond) ∈ zB := zi_b11 _ (List.mem_of_getElem? (i := 0) rfl)
theorem zm_265 : (Cond.fieldLink RX7 316 "Wagonplay" "townMoney" "I" : Cond) ∈ zB := zi_b11 _ (List.mem_of_getElem? (i := 1) rfl)
theorem zm_266 : (Cond.methodLink RL 151 yL_merge : Cond) ∈ zB := zi_b11 _ (List.mem_of_getElem? (i := 2) rfl)
theorem zm_267 : (Cond.static yL_merge : Cond) ∈ zB := zi_b11 _ (List.mem_of_getElem? (i := 3) rfl)
theorem zm_268 : (Cond.codeWith yL_merge cL_merge 4 (some .int) [(0, 6, 7, 25), (0, 6, 11, 15), (0, 6, 15, 27)] : Cond) ∈ zB := zi_b11 _ (List.mem_of_getElem? (i := 4) rfl)
theorem zm_269 : (Cond.methodLink RL 21 yX7_merge : Cond) ∈ zB := zi_b11 _ (List.mem_of_getElem? (i := 5) rfl)
theorem zm_270 : (Cond.instanceMethod yX7_merge : Cond) ∈ zB := zi_b11 _ (List.mem_of_getElem? (i := 6) rfl)
theorem zm_271 : (Cond.selects RX7 yX7_merge yX7_merge : Cond) ∈ zB := zi_b11 _ (List.mem_of_getElem? (i := 7) rfl)
theorem zm_272 : (Cond.code yX7_merge cX7_merge 5 (some .int) : Cond) ∈ zB := zi_b11 _ (List.mem_of_getElem? (i := 8) rfl)
theorem zm_273 : (Cond.methodLink RL 153 yL_add : Cond) ∈ zB := zi_b11 _ (List.mem_of_getElem? (i := 9) rfl)
theorem zm_274 : (Cond.static yL_add : Cond) ∈ zB := zi_b11 _ (List.mem_of_getElem? (i := 10) rfl)
theorem zm_275 : (Cond.codeWith yL_add cL_add 4 (some .int) [(0, 6, 7, 25), (0, 6, 11, 15), (0, 6, 15, 27)] : Cond) ∈ zB := zi_b11 _ (List.mem_of_getElem? (i := 11) rfl)
theorem zm_276 : (Cond.methodLink RL 61 yX7_add : Cond) ∈ zB := zi_b11 _ (List.mem_of_getElem? (i := 12) rfl)
theorem zm_277 : (Cond.instanceMethod yX7_add : Cond) ∈ zB := zi_b11 _ (List.mem_of_getElem? (i := 13) rfl)
theorem zm_278 : (Cond.selects RX7 yX7_add yX7_add : Cond) ∈ zB := zi_b11 _ (List.mem_of_getElem? (i := 14) rfl)
theorem zm_279 : (Cond.code yX7_add cX7_add 4 (some .int) : Cond) ∈ zB := zi_b11 _ (List.mem_of_getElem? (i := 15) rfl)
theorem zm_280 : (Cond.fieldLink RX7 104 "Wagonplay$Play" "lines" "I" : Cond) ∈ zB := zi_b11 _ (List.mem_of_getElem? (i := 16) rfl)
theorem zm_281 : (Cond.methodLink RX7 119 yX4_linesNotInBook : Cond) ∈ zB := zi_b11 _ (List.mem_of_getElem? (i := 17) rfl)
theorem zm_282 : (Cond.instanceMethod yX4_linesNotInBook : Cond) ∈ zB := zi_b11 _ (List.mem_of_getElem? (i := 18) rfl)
theorem zm_283 : (Cond.selects RX4 yX4_linesNotInBook yX4_linesNotInBook : Cond) ∈ zB := zi_b11 _ (List.mem_of_getElem? (i := 19) rfl)
theorem zm_284 : (Cond.code yX4_linesNotInBook cX4_linesNotInBook 1 (some .int) : Cond) ∈ zB := zi_b11 _ (List.mem_of_getElem? (i := 20) rfl)
theorem zm_285 : (Cond.methodLink RL 155 yL_leaves : Cond) ∈ zB := zi_b11 _ (List.mem_of_getElem? (i := 21) rfl)
theorem zm_286 : (Cond.static yL_leaves : Cond) ∈ zB := zi_b11 _ (List.mem_of_getElem? (i := 22) rfl)
theorem zm_287 : (Cond.codeWith yL_leaves cL_leaves 3 (some .int) [(0, 5, 6, 25)] : Cond) ∈ zB := zi_b11 _ (List.mem_of_getElem? (i := 23) rfl)
theorem zm_288 : (Cond.methodLink RL 74 yX7_leaves : Cond) ∈ zB := zi_b12 _ (List.mem_of_getElem? (i := 0) rfl)
theorem zm_289 : (Cond.instanceMethod yX7_leaves : Cond) ∈ zB := zi_b12 _ (List.mem_of_getElem? (i := 1) rfl)
theorem zm_290 : (Cond.selects RX7 yX7_leaves yX7_leaves : Cond) ∈ zB := zi_b12 _ (List.mem_of_getElem? (i := 2) rfl)
theorem zm_291 : (Cond.code yX7_leaves cX7_leaves 2 (some .int) : Cond) ∈ zB := zi_b12 _ (List.mem_of_getElem? (i := 3) rfl)
theorem zm_292 : (Cond.methodLink RX7 304 yX4_leafCount : Cond) ∈ zB := zi_b12 _ (List.mem_of_getElem? (i := 4) rfl)
theorem zm_293 : (Cond.instanceMethod yX4_leafCount : Cond) ∈ zB := zi_b12 _ (List.mem_of_getElem? (i := 5) rfl)
theorem zm_294 : (Cond.selects RX4 yX4_leafCount yX4_leafCount : Cond) ∈ zB := zi_b12 _ (List.mem_of_getElem? (i := 6) rfl)
theorem zm_295 : (Cond.code yX4_leafCount cX4_leafCount 1 (some .int) : Cond) ∈ zB := zi_b12 _ (List.mem_of_getElem? (i := 7) rfl)
theorem zm_296 : (Cond.methodLink RL 157 yL_lose : Cond) ∈ zB := zi_b12 _ (List.mem_of_getElem? (i := 8) rfl)
theorem zm_297 : (Cond.static yL_lose : Cond) ∈ zB := zi_b12 _ (List.mem_of_getElem? (i := 9) rfl)
theorem zm_298 : (Cond.codeWith yL_lose cL_lose 4 (some .int) [(0, 14, 15, 25), (0, 14, 19, 15)] : Cond) ∈ zB := zi_b12 _ (List.mem_of_getElem? (i := 10) rfl)
theorem zm_299 : (Cond.methodLink RL 91 yX7_lose : Cond) ∈ zB := zi_b12 _ (List.mem_of_getElem? (i := 11) rfl)
theorem zm_300 : (Cond.instanceMethod yX7_lose : Cond) ∈ zB := zi_b12 _ (List.mem_of_getElem? (i := 12) rfl)
theorem zm_301 : (Cond.selects RX7 yX7_lose yX7_lose : Cond) ∈ zB := zi_b12 _ (List.mem_of_getElem? (i := 13) rfl)
theorem zm_302 : (Cond.code yX7_lose cX7_lose 5 (some .boolean) : Cond) ∈ zB := zi_b12 _ (List.mem_of_getElem? (i := 14) rfl)
theorem zm_303 : (Cond.fieldLink RX7 307 "Wagonplay$Play" "lost" "[Z" : Cond) ∈ zB := zi_b12 _ (List.mem_of_getElem? (i := 15) rfl)
theorem zm_304 : (Cond.methodLink RL 159 yL_put : Cond) ∈ zB := zi_b12 _ (List.mem_of_getElem? (i := 16) rfl)
theorem zm_305 : (Cond.static yL_put : Cond) ∈ zB := zi_b12 _ (List.mem_of_getElem? (i := 17) rfl)
theorem zm_306 : (Cond.codeWith yL_put cL_put 4 (some .int) [(0, 6, 7, 25), (0, 6, 11, 15)] : Cond) ∈ zB := zi_b12 _ (List.mem_of_getElem? (i := 18) rfl)
theorem zm_307 : (Cond.methodLink RL 54 yX7_put : Cond) ∈ zB := zi_b12 _ (List.mem_of_getElem? (i := 19) rfl)
theorem zm_308 : (Cond.instanceMethod yX7_put : Cond) ∈ zB := zi_b12 _ (List.mem_of_getElem? (i := 20) rfl)
theorem zm_309 : (Cond.selects RX7 yX7_put yX7_put : Cond) ∈ zB := zi_b12 _ (List.mem_of_getElem? (i := 21) rfl)
theorem zm_310 : (Cond.code yX7_put cX7_put 5 (some .int) : Cond) ∈ zB := zi_b12 _ (List.mem_of_getElem? (i := 22) rfl)
theorem zm_311 : (Cond.methodLink RX7 213 yX7_placeOf : Cond) ∈ zB := zi_b12 _ (List.mem_of_getElem? (i := 23) rfl)
theorem zm_312 : (Cond.instanceMethod yX7_placeOf : Cond) ∈ zB := zi_b13 _ (List.mem_of_getElem? (i := 0) rfl)
theorem zm_313 : (Cond.selects RX7 yX7_placeOf yX7_placeOf : Cond) ∈ zB := zi_b13 _ (List.mem_of_getElem? (i := 1) rfl)
theorem zm_314 : (Cond.code yX7_placeOf cX7_placeOf 3 (some .int) : Cond) ∈ zB := zi_b13 _ (List.mem_of_getElem? (i := 2) rfl)
theorem zm_315 : (Cond.methodLink RL 161 yL_word : Cond) ∈ zB := zi_b13 _ (List.mem_of_getElem? (i := 3) rfl)
theorem zm_316 : (Cond.static yL_word : Cond) ∈ zB := zi_b13 _ (List.mem_of_getElem? (i := 4) rfl)
theorem zm_317 : (Cond.code yL_word cL_word 1 (some (.object "java/lang/String")) : Cond) ∈ zB := zi_b13 _ (List.mem_of_getElem? (i := 5) rfl)
theorem zm_318 : (Cond.methodLink RL 165 yL_types : Cond) ∈ zB := zi_b13 _ (List.mem_of_getElem? (i := 6) rfl)
theorem zm_319 : (Cond.static yL_types : Cond) ∈ zB := zi_b13 _ (List.mem_of_getElem? (i := 7) rfl)
theorem zm_320 : (Cond.code yL_types cL_types 5 (some .boolean) : Cond) ∈ zB := zi_b13 _ (List.mem_of_getElem? (i := 8) rfl)
theorem zm_321 : (Cond.methodLink RL 102 yX7_wipe : Cond) ∈ zB := zi_b13 _ (List.mem_of_getElem? (i := 9) rfl)
theorem zm_322 : (Cond.instanceMethod yX7_wipe : Cond) ∈ zB := zi_b13 _ (List.mem_of_getElem? (i := 10) rfl)
theorem zm_323 : (Cond.selects RX7 yX7_wipe yX7_wipe : Cond) ∈ zB := zi_b13 _ (List.mem_of_getElem? (i := 11) rfl)
theorem zm_324 : (Cond.code yX7_wipe cX7_wipe 2 (some .int) : Cond) ∈ zB := zi_b13 _ (List.mem_of_getElem? (i := 12) rfl)
theorem zm_325 : (Cond.methodLink RL 105 yJ0_length_8abf5 : Cond) ∈ zB := zi_b13 _ (List.mem_of_getElem? (i := 13) rfl)
theorem zm_326 : (Cond.methodLink RL 110 yJ0_charAt_5068e : Cond) ∈ zB := zi_b13 _ (List.mem_of_getElem? (i := 14) rfl)
theorem zm_327 : (Cond.methodLink RL 169 yL_subject : Cond) ∈ zB := zi_b13 _ (List.mem_of_getElem? (i := 15) rfl)
theorem zm_328 : (Cond.static yL_subject : Cond) ∈ zB := zi_b13 _ (List.mem_of_getElem? (i := 16) rfl)
theorem zm_329 : (Cond.codeWith yL_subject cL_subject 3 (some .int) [(0, 5, 6, 25), (0, 5, 10, 27)] : Cond) ∈ zB := zi_b13 _ (List.mem_of_getElem? (i := 17) rfl)
theorem zm_330 : (Cond.methodLink RL 38 yX7_subject : Cond) ∈ zB := zi_b13 _ (List.mem_of_getElem? (i := 18) rfl)
theorem zm_331 : (Cond.instanceMethod yX7_subject : Cond) ∈ zB := zi_b13 _ (List.mem_of_getElem? (i := 19) rfl)
theorem zm_332 : (Cond.selects RX7 yX7_subject yX7_subject : Cond) ∈ zB := zi_b13 _ (List.mem_of_getElem? (i := 20) rfl)
theorem zm_333 : (Cond.code yX7_subject cX7_subject 5 (some .char) : Cond) ∈ zB := zi_b13 _ (List.mem_of_getElem? (i := 21) rfl)
theorem zm_334 : (Cond.fieldLink RX7 139 "Wagonplay$Play" "topic" "I" : Cond) ∈ zB := zi_b13 _ (List.mem_of_getElem? (i := 22) rfl)
theorem zm_335 : (Cond.methodLink RX7 142 yX2_wordOf : Cond) ∈ zB := zi_b13 _ (List.mem_of_getElem? (i := 23) rfl)
theorem zm_336 : (Cond.methodLink RX7 146 yJ0_charAt_5068e : Cond) ∈ zB := zi_b14 _ (List.mem_of_getElem? (i := 0) rfl)
theorem zm_337 : (Cond.methodLink RL 171 yX7_callIn : Cond) ∈ zB := zi_b14 _ (List.mem_of_getElem? (i := 1) rfl)
theorem zm_338 : (Cond.instanceMethod yX7_callIn : Cond) ∈ zB := zi_b14 _ (List.mem_of_getElem? (i := 2) rfl)
theorem zm_339 : (Cond.selects RX7 yX7_callIn yX7_callIn : Cond) ∈ zB := zi_b14 _ (List.mem_of_getElem? (i := 3) rfl)
theorem zm_340 : (Cond.code yX7_callIn cX7_callIn 3 (some .int) : Cond) ∈ zB := zi_b14 _ (List.mem_of_getElem? (i := 4) rfl)
theorem zm_341 : (Cond.methodLink RX7 313 yX4_bringBookUpToDate : Cond) ∈ zB := zi_b14 _ (List.mem_of_getElem? (i := 5) rfl)
theorem zm_342 : (Cond.instanceMethod yX4_bringBookUpToDate : Cond) ∈ zB := zi_b14 _ (List.mem_of_getElem? (i := 6) rfl)
theorem zm_343 : (Cond.selects RX4 yX4_bringBookUpToDate yX4_bringBookUpToDate : Cond) ∈ zB := zi_b14 _ (List.mem_of_getElem? (i := 7) rfl)
theorem zm_344 : (Cond.code yX4_bringBookUpToDate cX4_bringBookUpToDate 1 none : Cond) ∈ zB := zi_b14 _ (List.mem_of_getElem? (i := 8) rfl)
theorem zm_345 : (Cond.methodLink RX4 49 yX4_findLeavesUpTo : Cond) ∈ zB := zi_b14 _ (List.mem_of_getElem? (i := 9) rfl)
theorem zm_346 : (Cond.instanceMethod yX4_findLeavesUpTo : Cond) ∈ zB := zi_b14 _ (List.mem_of_getElem? (i := 10) rfl)
theorem zm_347 : (Cond.selects RX4 yX4_findLeavesUpTo yX4_findLeavesUpTo : Cond) ∈ zB := zi_b14 _ (List.mem_of_getElem? (i := 11) rfl)
theorem zm_348 : (Cond.code yX4_findLeavesUpTo cX4_findLeavesUpTo 4 none : Cond) ∈ zB := zi_b14 _ (List.mem_of_getElem? (i := 12) rfl)
theorem zm_349 : (Cond.methodLink RX4 41 yX4_leafCount : Cond) ∈ zB := zi_b14 _ (List.mem_of_getElem? (i := 13) rfl)
theorem zm_350 : (Cond.methodLink RX4 45 yX4_lastLineOf : Cond) ∈ zB := zi_b14 _ (List.mem_of_getElem? (i := 14) rfl)
theorem zm_351 : (Cond.instanceMethod yX4_lastLineOf : Cond) ∈ zB := zi_b14 _ (List.mem_of_getElem? (i := 15) rfl)
theorem zm_352 : (Cond.selects RX4 yX4_lastLineOf yX4_lastLineOf : Cond) ∈ zB := zi_b14 _ (List.mem_of_getElem? (i := 16) rfl)
theorem zm_353 : (Cond.code yX4_lastLineOf cX4_lastLineOf 2 (some .int) : Cond) ∈ zB := zi_b14 _ (List.mem_of_getElem? (i := 17) rfl)
theorem zm_354 : (Cond.methodLink RX4 38 Lib.Math.min.name : Cond) ∈ zB := zi_b14 _ (List.mem_of_getElem? (i := 18) rfl)
theorem zm_355 : (Cond.methodLink RL 174 yL_year : Cond) ∈ zB := zi_b14 _ (List.mem_of_getElem? (i := 19) rfl)
theorem zm_356 : (Cond.static yL_year : Cond) ∈ zB := zi_b14 _ (List.mem_of_getElem? (i := 20) rfl)
theorem zm_357 : (Cond.codeWith yL_year cL_year 2 (some .int) [(0, 4, 5, 18)] : Cond) ∈ zB := zi_b14 _ (List.mem_of_getElem? (i := 21) rfl)
theorem zm_358 : (Cond.methodLink RL 80 yX7_year : Cond) ∈ zB := zi_b14 _ (List.mem_of_getElem? (i := 22) rfl)
theorem zm_359 : (Cond.instanceMethod yX7_year : Cond) ∈ zB := zi_b14 _ (List.mem_of_getElem? (i := 23) rfl)
theorem zm_360 : (Cond.selects RX7 yX7_year yX7_year : Cond) ∈ zB := zi_b15 _ (List.mem_of_getElem? (i := 0) rfl)
theorem zm_361 : (Cond.code yX7_year cX7_year 2 (some .int) : Cond) ∈ zB := zi_b15 _ (List.mem_of_getElem? (i := 1) rfl)
theorem zm_362 : (Cond.fieldLink RX7 319 "Wagonplay" "yearNow" "I" : Cond) ∈ zB := zi_b15 _ (List.mem_of_getElem? (i := 2) rfl)
theorem zm_363 : (Cond.fieldLink RX7 225 "Wagonplay" "dayPlayed" "Z" : Cond) ∈ zB := zi_b15 _ (List.mem_of_getElem? (i := 3) rfl)
theorem zm_364 : (Cond.fieldLink RX7 181 "Wagonplay$Ground" "count" "I" : Cond) ∈ zB := zi_b15 _ (List.mem_of_getElem? (i := 4) rfl)
theorem zm_365 : (Cond.fieldLink RX7 184 "Wagonplay$Ground" "stations" "[LWagonplay$Station;" : Cond) ∈ zB := zi_b15 _ (List.mem_of_getElem? (i := 5) rfl)
theorem zm_366 : (Cond.methodLink RX7 324 yX4_forget : Cond) ∈ zB := zi_b15 _ (List.mem_of_getElem? (i := 6) rfl)
theorem zm_367 : (Cond.instanceMethod yX4_forget : Cond) ∈ zB := zi_b15 _ (List.mem_of_getElem? (i := 7) rfl)
theorem zm_368 : (Cond.selects RX4 yX4_forget yX4_forget : Cond) ∈ zB := zi_b15 _ (List.mem_of_getElem? (i := 8) rfl)
theorem zm_369 : (Cond.code yX4_forget cX4_forget 1 none : Cond) ∈ zB := zi_b15 _ (List.mem_of_getElem? (i := 9) rfl)
theorem zm_370 : (Cond.fieldLink RX4 29 "Wagonplay$Play" "learnt" "I" : Cond) ∈ zB := zi_b15 _ (List.mem_of_getElem? (i := 10) rfl)
theorem zm_371 : (Cond.methodLink RX4 32 Lib.Math.max.name : Cond) ∈ zB := zi_b15 _ (List.mem_of_getElem? (i := 11) rfl)
theorem zm_372 : (Cond.static Lib.Math.max.name : Cond) ∈ zB := zi_b15 _ (List.mem_of_getElem? (i := 12) rfl)
theorem zm_373 : (Cond.code Lib.Math.max.name Lib.Math.max.code 2 (some .int) : Cond) ∈ zB := zi_b15 _ (List.mem_of_getElem? (i := 13) rfl)
theorem zm_374 : (Cond.methodLink RL 179 yL_wagon : Cond) ∈ zB := zi_b15 _ (List.mem_of_getElem? (i := 14) rfl)
theorem zm_375 : (Cond.static yL_wagon : Cond) ∈ zB := zi_b15 _ (List.mem_of_getElem? (i := 15) rfl)
theorem zm_376 : (Cond.codeWith yL_wagon cL_wagon 5 (some .int) [(0, 7, 8, 25), (0, 7, 13, 15)] : Cond) ∈ zB := zi_b15 _ (List.mem_of_getElem? (i := 16) rfl)
theorem zm_377 : (Cond.methodLink RL 48 yX7_wagon : Cond) ∈ zB := zi_b15 _ (List.mem_of_getElem? (i := 17) rfl)
theorem zm_378 : (Cond.instanceMethod yX7_wagon : Cond) ∈ zB := zi_b15 _ (List.mem_of_getElem? (i := 18) rfl)
theorem zm_379 : (Cond.selects RX7 yX7_wagon yX7_wagon : Cond) ∈ zB := zi_b15 _ (List.mem_of_getElem? (i := 19) rfl)
theorem zm_380 : (Cond.code yX7_wagon cX7_wagon 6 (some .int) : Cond) ∈ zB := zi_b15 _ (List.mem_of_getElem? (i := 20) rfl)
theorem zm_381 : (Cond.fieldLink RX7 166 "Wagonplay$Guild" "height" "I" : Cond) ∈ zB := zi_b15 _ (List.mem_of_getElem? (i := 21) rfl)
theorem zm_382 : (Cond.fieldLink RX7 169 "Wagonplay$Guild" "hands" "I" : Cond) ∈ zB := zi_b15 _ (List.mem_of_getElem? (i := 22) rfl)
theorem zm_383 : (Cond.methodLink RL 181 yL_of : Cond) ∈ zB := zi_b15 _ (List.mem_of_getElem? (i := 23) rfl)
theorem zm_384 : (Cond.static yL_of : Cond) ∈ zB := zi_b16 _ (List.mem_of_getElem? (i := 0) rfl)
theorem zm_385 : (Cond.codeWith yL_of cL_of 4 (some .int) [(0, 6, 7, 25), (0, 6, 11, 15)] : Cond) ∈ zB := zi_b16 _ (List.mem_of_getElem? (i := 1) rfl)
theorem zm_386 : (Cond.methodLink RL 30 yX7_of : Cond) ∈ zB := zi_b16 _ (List.mem_of_getElem? (i := 2) rfl)
theorem zm_387 : (Cond.instanceMethod yX7_of : Cond) ∈ zB := zi_b16 _ (List.mem_of_getElem? (i := 3) rfl)
theorem zm_388 : (Cond.selects RX7 yX7_of yX7_of : Cond) ∈ zB := zi_b16 _ (List.mem_of_getElem? (i := 4) rfl)
theorem zm_389 : (Cond.code yX7_of cX7_of 4 (some .int) : Cond) ∈ zB := zi_b16 _ (List.mem_of_getElem? (i := 5) rfl)
theorem zm_390 : (Cond.fieldLink RX7 116 "Wagonplay$Guild" "fines" "I" : Cond) ∈ zB := zi_b16 _ (List.mem_of_getElem? (i := 6) rfl)
theorem zm_391 : (Cond.methodLink RL 184 yL_known : Cond) ∈ zB := zi_b16 _ (List.mem_of_getElem? (i := 7) rfl)
theorem zm_392 : (Cond.static yL_known : Cond) ∈ zB := zi_b16 _ (List.mem_of_getElem? (i := 8) rfl)
theorem zm_393 : (Cond.codeWith yL_known cL_known 3 (some .int) [(0, 5, 6, 25)] : Cond) ∈ zB := zi_b16 _ (List.mem_of_getElem? (i := 9) rfl)
theorem zm_394 : (Cond.methodLink RL 77 yX7_known : Cond) ∈ zB := zi_b16 _ (List.mem_of_getElem? (i := 10) rfl)
theorem zm_395 : (Cond.instanceMethod yX7_known : Cond) ∈ zB := zi_b16 _ (List.mem_of_getElem? (i := 11) rfl)
theorem zm_396 : (Cond.selects RX7 yX7_known yX7_known : Cond) ∈ zB := zi_b16 _ (List.mem_of_getElem? (i := 12) rfl)
theorem zm_397 : (Cond.code yX7_known cX7_known 2 (some .int) : Cond) ∈ zB := zi_b16 _ (List.mem_of_getElem? (i := 13) rfl)
theorem zm_398 : (Cond.methodLink RX7 310 yX4_knownLines : Cond) ∈ zB := zi_b16 _ (List.mem_of_getElem? (i := 14) rfl)
theorem zm_399 : (Cond.instanceMethod yX4_knownLines : Cond) ∈ zB := zi_b16 _ (List.mem_of_getElem? (i := 15) rfl)
theorem zm_400 : (Cond.selects RX4 yX4_knownLines yX4_knownLines : Cond) ∈ zB := zi_b16 _ (List.mem_of_getElem? (i := 16) rfl)
theorem zm_401 : (Cond.code yX4_knownLines cX4_knownLines 4 (some .int) : Cond) ∈ zB := zi_b16 _ (List.mem_of_getElem? (i := 17) rfl)
theorem zm_402 : (Cond.methodLink RL 186 yL_place : Cond) ∈ zB := zi_b16 _ (List.mem_of_getElem? (i := 18) rfl)
theorem zm_403 : (Cond.static yL_place : Cond) ∈ zB := zi_b16 _ (List.mem_of_getElem? (i := 19) rfl)
theorem zm_404 : (Cond.codeWith yL_place cL_place 3 (some .int) [(0, 5, 6, 25)] : Cond) ∈ zB := zi_b16 _ (List.mem_of_getElem? (i := 20) rfl)
theorem zm_405 : (Cond.methodLink RL 57 yX7_place : Cond) ∈ zB := zi_b16 _ (List.mem_of_getElem? (i := 21) rfl)
theorem zm_406 : (Cond.instanceMethod yX7_place : Cond) ∈ zB := zi_b16 _ (List.mem_of_getElem? (i := 22) rfl)
theorem zm_407 : (Cond.selects RX7 yX7_place yX7_place : Cond) ∈ zB := zi_b16 _ (List.mem_of_getElem? (i := 23) rfl)
theorem zm_408 : (Cond.code yX7_place cX7_place 2 (some .int) : Cond) ∈ zB := zi_b17 _ (List.mem_of_getElem? (i := 0) rfl)
theorem zm_409 : (Cond.methodLink RL 188 yX7_town : Cond) ∈ zB := zi_b17 _ (List.mem_of_getElem? (i := 1) rfl)
theorem zm_410 : (Cond.instanceMethod yX7_town : Cond) ∈ zB := zi_b17 _ (List.mem_of_getElem? (i := 2) rfl)
theorem zm_411 : (Cond.selects RX7 yX7_town yX7_town : Cond) ∈ zB := zi_b17 _ (List.mem_of_getElem? (i := 3) rfl)
theorem zm_412 : (Cond.code yX7_town cX7_town 1 (some .int) : Cond) ∈ zB := zi_b17 _ (List.mem_of_getElem? (i := 4) rfl)
theorem zm_413 : (Cond.methodLink RL 191 yL_foresee : Cond) ∈ zB := zi_b17 _ (List.mem_of_getElem? (i := 5) rfl)
theorem zm_414 : (Cond.static yL_foresee : Cond) ∈ zB := zi_b17 _ (List.mem_of_getElem? (i := 6) rfl)
theorem zm_415 : (Cond.codeWith yL_foresee cL_foresee 2 (some .int) [(0, 4, 5, 18)] : Cond) ∈ zB := zi_b17 _ (List.mem_of_getElem? (i := 7) rfl)
theorem zm_416 : (Cond.methodLink RL 71 yX7_foresee : Cond) ∈ zB := zi_b17 _ (List.mem_of_getElem? (i := 8) rfl)
theorem zm_417 : (Cond.instanceMethod yX7_foresee : Cond) ∈ zB := zi_b17 _ (List.mem_of_getElem? (i := 9) rfl)
theorem zm_418 : (Cond.selects RX7 yX7_foresee yX7_foresee : Cond) ∈ zB := zi_b17 _ (List.mem_of_getElem? (i := 10) rfl)
theorem zm_419 : (Cond.code yX7_foresee cX7_foresee 1 (some .int) : Cond) ∈ zB := zi_b17 _ (List.mem_of_getElem? (i := 11) rfl)
theorem zm_420 : (Cond.methodLink RX7 222 yX7_needStations : Cond) ∈ zB := zi_b17 _ (List.mem_of_getElem? (i := 12) rfl)
theorem zm_421 : (Cond.instanceMethod yX7_needStations : Cond) ∈ zB := zi_b17 _ (List.mem_of_getElem? (i := 13) rfl)
theorem zm_422 : (Cond.selects RX7 yX7_needStations yX7_needStations : Cond) ∈ zB := zi_b17 _ (List.mem_of_getElem? (i := 14) rfl)
theorem zm_423 : (Cond.code yX7_needStations cX7_needStations 1 none : Cond) ∈ zB := zi_b17 _ (List.mem_of_getElem? (i := 15) rfl)
theorem zm_424 : (Cond.fieldLink RX3 31 "Wagonplay$Guild" "play" "LWagonplay$Play;" : Cond) ∈ zB := zi_b17 _ (List.mem_of_getElem? (i := 16) rfl)
theorem zm_425 : (Cond.methodLink RX0 22 yJ9_floorDiv_7cf53 : Cond) ∈ zB := zi_b17 _ (List.mem_of_getElem? (i := 17) rfl)
theorem zm_426 : (Cond.static yJ9_floorDiv_7cf53 : Cond) ∈ zB := zi_b17 _ (List.mem_of_getElem? (i := 18) rfl)
theorem zm_427 : (Cond.code yJ9_floorDiv_7cf53 cJ9_floorDiv_7cf53 3 (some .int) : Cond) ∈ zB := zi_b17 _ (List.mem_of_getElem? (i := 19) rfl)
theorem zm_428 : (Cond.methodLink RX0 28 yJ9_floorMod_7cf53 : Cond) ∈ zB := zi_b17 _ (List.mem_of_getElem? (i := 20) rfl)
theorem zm_429 : (Cond.static yJ9_floorMod_7cf53 : Cond) ∈ zB := zi_b17 _ (List.mem_of_getElem? (i := 21) rfl)
theorem zm_430 : (Cond.code yJ9_floorMod_7cf53 cJ9_floorMod_7cf53 3 (some .int) : Cond) ∈ zB := zi_b17 _ (List.mem_of_getElem? (i := 22) rfl)
theorem zm_431 : (Cond.fieldLink RX3 112 "Wagonplay$Show" "said" "[I" : Cond) ∈ zB := zi_b17 _ (List.mem_of_getElem? (i := 23) rfl)
theorem zm_432 : (Cond.fieldLink RX3 115 "Wagonplay$Play" "lines" "I" : Cond) ∈ zB := zi_b18 _ (List.mem_of_getElem? (i := 0) rfl)
theorem zm_433 : (Cond.methodLink RL 193 yL_day : Cond) ∈ zB := zi_b18 _ (List.mem_of_getElem? (i := 1) rfl)
theorem zm_434 : (Cond.static yL_day : Cond) ∈ zB := zi_b18 _ (List.mem_of_getElem? (i := 2) rfl)
theorem zm_435 : (Cond.codeWith yL_day cL_day 2 (some .int) [(0, 4, 5, 18)] : Cond) ∈ zB := zi_b18 _ (List.mem_of_getElem? (i := 3) rfl)
theorem zm_436 : (Cond.methodLink RL 64 yX7_day : Cond) ∈ zB := zi_b18 _ (List.mem_of_getElem? (i := 4) rfl)
theorem zm_437 : (Cond.instanceMethod yX7_day : Cond) ∈ zB := zi_b18 _ (List.mem_of_getElem? (i := 5) rfl)
theorem zm_438 : (Cond.selects RX7 yX7_day yX7_day : Cond) ∈ zB := zi_b18 _ (List.mem_of_getElem? (i := 6) rfl)
theorem zm_439 : (Cond.code yX7_day cX7_day 2 (some .int) : Cond) ∈ zB := zi_b18 _ (List.mem_of_getElem? (i := 7) rfl)
theorem zm_440 : (Cond.fieldLink RX7 199 "Wagonplay$Station" "scribe" "Z" : Cond) ∈ zB := zi_b18 _ (List.mem_of_getElem? (i := 8) rfl)
theorem zm_441 : (Cond.fieldLink RX1 26 "Wagonplay$Play" "parts" "I" : Cond) ∈ zB := zi_b18 _ (List.mem_of_getElem? (i := 9) rfl)
theorem zm_442 : (Cond.methodLink RX1 29 Lib.Math.max.name : Cond) ∈ zB := zi_b18 _ (List.mem_of_getElem? (i := 10) rfl)
theorem zm_443 : (Cond.fieldLink RX7 205 "Wagonplay$Station" "house" "I" : Cond) ∈ zB := zi_b18 _ (List.mem_of_getElem? (i := 11) rfl)
theorem zm_444 : (Cond.fieldLink RX7 202 "Wagonplay$Station" "rent" "I" : Cond) ∈ zB := zi_b18 _ (List.mem_of_getElem? (i := 12) rfl)
theorem zm_445 : (Cond.methodLink RL 195 yL_end : Cond) ∈ zB := zi_b18 _ (List.mem_of_getElem? (i := 13) rfl)
theorem zm_446 : (Cond.static yL_end : Cond) ∈ zB := zi_b18 _ (List.mem_of_getElem? (i := 14) rfl)
theorem zm_447 : (Cond.codeWith yL_end cL_end 2 (some .int) [(0, 4, 5, 18)] : Cond) ∈ zB := zi_b18 _ (List.mem_of_getElem? (i := 15) rfl)
theorem zm_448 : (Cond.methodLink RL 68 yX7_end : Cond) ∈ zB := zi_b18 _ (List.mem_of_getElem? (i := 16) rfl)
theorem zm_449 : (Cond.instanceMethod yX7_end : Cond) ∈ zB := zi_b18 _ (List.mem_of_getElem? (i := 17) rfl)
theorem zm_450 : (Cond.selects RX7 yX7_end yX7_end : Cond) ∈ zB := zi_b18 _ (List.mem_of_getElem? (i := 18) rfl)
theorem zm_451 : (Cond.code yX7_end cX7_end 1 (some .int) : Cond) ∈ zB := zi_b18 _ (List.mem_of_getElem? (i := 19) rfl)
theorem zm_452 : (Cond.methodLink RX7 281 yX7_needDayPlayed : Cond) ∈ zB := zi_b18 _ (List.mem_of_getElem? (i := 20) rfl)
theorem zm_453 : (Cond.instanceMethod yX7_needDayPlayed : Cond) ∈ zB := zi_b18 _ (List.mem_of_getElem? (i := 21) rfl)
theorem zm_454 : (Cond.selects RX7 yX7_needDayPlayed yX7_needDayPlayed : Cond) ∈ zB := zi_b18 _ (List.mem_of_getElem? (i := 22) rfl)
theorem zm_455 : (Cond.code yX7_needDayPlayed cX7_needDayPlayed 1 none : Cond) ∈ zB := zi_b18 _ (List.mem_of_getElem? (i := 23) rfl)
theorem zm_456 : (Cond.methodLink RL 197 yX7_isSound : Cond) ∈ zB := zi_b19 _ (List.mem_of_getElem? (i := 0) rfl)
theorem zm_457 : (Cond.instanceMethod yX7_isSound : Cond) ∈ zB := zi_b19 _ (List.mem_of_getElem? (i := 1) rfl)
theorem zm_458 : (Cond.selects RX7 yX7_isSound yX7_isSound : Cond) ∈ zB := zi_b19 _ (List.mem_of_getElem? (i := 2) rfl)
theorem zm_459 : (Cond.code yX7_isSound cX7_isSound 1 (some .boolean) : Cond) ∈ zB := zi_b19 _ (List.mem_of_getElem? (i := 3) rfl)
theorem zm_460 : (Cond.methodLink RX7 344 yX7_isMoneySound : Cond) ∈ zB := zi_b19 _ (List.mem_of_getElem? (i := 4) rfl)
theorem zm_461 : (Cond.instanceMethod yX7_isMoneySound : Cond) ∈ zB := zi_b19 _ (List.mem_of_getElem? (i := 5) rfl)
theorem zm_462 : (Cond.selects RX7 yX7_isMoneySound yX7_isMoneySound : Cond) ∈ zB := zi_b19 _ (List.mem_of_getElem? (i := 6) rfl)
theorem zm_463 : (Cond.code yX7_isMoneySound cX7_isMoneySound 3 (some .boolean) : Cond) ∈ zB := zi_b19 _ (List.mem_of_getElem? (i := 7) rfl)
theorem zm_464 : (Cond.methodLink RX7 348 yX7_isOrderSound : Cond) ∈ zB := zi_b19 _ (List.mem_of_getElem? (i := 8) rfl)
theorem zm_465 : (Cond.instanceMethod yX7_isOrderSound : Cond) ∈ zB := zi_b19 _ (List.mem_of_getElem? (i := 9) rfl)
theorem zm_466 : (Cond.selects RX7 yX7_isOrderSound yX7_isOrderSound : Cond) ∈ zB := zi_b19 _ (List.mem_of_getElem? (i := 10) rfl)
theorem zm_467 : (Cond.code yX7_isOrderSound cX7_isOrderSound 3 (some .boolean) : Cond) ∈ zB := zi_b19 _ (List.mem_of_getElem? (i := 11) rfl)
end
section
theorem dX0_init_0 : decode cX0_init 0 = .ok (.aload_n 0, 1) := by decide +kernel
theorem dX0_init_1 : decode cX0_init 1 = .ok (.invokespecial 3, 3) := by decide +kernel
theorem dX0_init_4 : decode cX0_init 4 = .ok (.aload_n 0, 1) := by decide +kernel
theorem dX0_init_5 : decode cX0_init 5 = .ok (.bipush 6, 2) := by decide +kernel
theorem dX0_init_7 : decode cX0_init 7 = .ok (.anewarray 9, 3) := by decide +kernel
theorem dX0_init_10 : decode cX0_init 10 = .ok (.putfield 11, 3) := by decide +kernel
theorem dX0_init_13 : decode cX0_init 13 = .ok (.aload_n 0, 1) := by decide +kernel
theorem dX0_init_14 : decode cX0_init 14 = .ok (.bipush 24, 2) := by decide +kernel
theorem dX0_init_16 : decode cX0_init 16 = .ok (.newarray .boolean, 2) := by decide +kernel
theorem dX0_init_18 : decode cX0_init 18 = .ok (.putfield 17, 3) := by decide +kernel
theorem dX0_init_21 : decode cX0_init 21 = .ok (.iconst 0, 1) := by decide +kernel
theorem dX0_init_22 : decode cX0_init 22 = .ok (.istore_n 1, 1) := by decide +kernel
theorem dX0_init_23 : decode cX0_init 23 = .ok (.iload_n 1, 1) := by decide +kernel
theorem dX0_init_24 : decode cX0_init 24 = .ok (.bipush 6, 2) := by decide +kernel
theorem dX0_init_26 : decode cX0_init 26 = .ok (.if_icmp .ge 22, 3) := by decide +kernel
theorem dX0_init_29 : decode cX0_init 29 = .ok (.aload_n 0, 1) := by decide +kernel
theorem dX0_init_30 : decode cX0_init 30 = .ok (.getfield 11, 3) := by decide +kernel
theorem dX0_init_33 : decode cX0_init 33 = .ok (.iload_n 1, 1) := by decide +kernel
theorem dX0_init_34 : decode cX0_init 34 = .ok (.new 9, 3) := by decide +kernel
theorem dX0_init_37 : decode cX0_init 37 = .ok (.dup, 1) := by decide +kernel
theorem dX0_init_38 : decode cX0_init 38 = .ok (.invokespecial 21, 3) := by decide +kernel
theorem dX0_init_41 : decode cX0_init 41 = .ok (.aastore, 1) := by decide +kernel
theorem dX0_init_42 : decode cX0_init 42 = .ok (.iinc 1 1, 3) := by decide +kernel
theorem dX0_init_45 : decode cX0_init 45 = .ok (.goto (-22), 3) := by decide +kernel
theorem dX0_init_48 : decode cX0_init 48 = .ok (.return_, 1) := by decide +kernel
theorem dX1_init_0 : decode cX1_init 0 = .ok (.aload_n 0, 1) := by decide +kernel
theorem dX1_init_1 : decode cX1_init 1 = .ok (.invokespecial 1, 3) := by decide +kernel
theorem dX1_init_4 : decode cX1_init 4 = .ok (.aload_n 0, 1) := by decide +kernel
theorem dX1_init_5 : decode cX1_init 5 = .ok (.iconst 3, 1) := by decide +kernel
theorem dX1_init_6 : decode cX1_init 6 = .ok (.putfield 7, 3) := by decide +kernel
theorem dX1_init_9 : decode cX1_init 9 = .ok (.aload_n 0, 1) := by decide +kernel
theorem dX1_init_10 : decode cX1_init 10 = .ok (.iconst 3, 1) := by decide +kernel
theorem dX1_init_11 : decode cX1_init 11 = .ok (.putfield 13, 3) := by decide +kernel
theorem dX1_init_14 : decode cX1_init 14 = .ok (.aload_n 0, 1) := by decide +kernel
theorem dX1_init_15 : decode cX1_init 15 = .ok (.iconst 5, 1) := by decide +kernel
theorem dX1_init_16 : decode cX1_init 16 = .ok (.putfield 16, 3) := by decide +kernel
theorem dX1_init_19 : decode cX1_init 19 = .ok (.aload_n 0, 1) := by decide +kernel
theorem dX1_init_20 : decode cX1_init 20 = .ok (.new 19, 3) := by decide +kernel
theorem dX1_init_23 : decode cX1_init 23 = .ok (.dup, 1) := by decide +kernel
theorem dX1_init_24 : decode cX1_init 24 = .ok (.invokespecial 21, 3) := by decide +kernel
theorem dX1_init_27 : decode cX1_init 27 = .ok (.putfield 22, 3) := by decide +kernel
theorem dX1_init_30 : decode cX1_init 30 = .ok (.return_, 1) := by decide +kernel
theorem dX2_init_0 : decode cX2_init 0 = .ok (.aload_n 0, 1) := by decide +kernel
theorem dX2_init_1 : decode cX2_init 1 = .ok (.invokespecial 3, 3) := by decide +kernel
theorem dX2_init_4 : decode cX2_init 4 = .ok (.aload_n 0, 1) := by decide +kernel
theorem dX2_init_5 : decode cX2_init 5 = .ok (.bipush 10, 2) := by decide +kernel
theorem dX2_init_7 : decode cX2_init 7 = .ok (.newarray .char, 2) := by decide +kernel
theorem dX2_init_9 : decode cX2_init 9 = .ok (.putfield 9, 3) := by decide +kernel
theorem dX2_init_12 : decode cX2_init 12 = .ok (.return_, 1) := by decide +kernel
theorem dX2_append_0 : decode cX2_append 0 = .ok (.aload_n 0, 1) := by decide +kernel
theorem dX2_append_1 : decode cX2_append 1 = .ok (.getfield 15, 3) := by decide +kernel
theorem dX2_append_4 : decode cX2_append 4 = .ok (.bipush 10, 2) := by decide +kernel
theorem dX2_append_6 : decode cX2_append 6 = .ok (.if_icmp .ge 23, 3) := by decide +kernel
theorem dX2_append_9 : decode cX2_append 9 = .ok (.aload_n 0, 1) := by decide +kernel
theorem dX2_append_10 : decode cX2_append 10 = .ok (.getfield 9, 3) := by decide +kernel
theorem dX2_append_13 : decode cX2_append 13 = .ok (.aload_n 0, 1) := by decide +kernel
theorem dX2_append_14 : decode cX2_append 14 = .ok (.getfield 15, 3) := by decide +kernel
theorem dX2_append_17 : decode cX2_append 17 = .ok (.iload_n 1, 1) := by decide +kernel
theorem dX2_append_18 : decode cX2_append 18 = .ok (.castore, 1) := by decide +kernel
theorem dX2_append_19 : decode cX2_append 19 = .ok (.aload_n 0, 1) := by decide +kernel
theorem dX2_append_20 : decode cX2_append 20 = .ok (.dup, 1) := by decide +kernel
theorem dX2_append_21 : decode cX2_append 21 = .ok (.getfield 15, 3) := by decide +kernel
theorem dX2_append_24 : decode cX2_append 24 = .ok (.iconst 1, 1) := by decide +kernel
theorem dX2_append_25 : decode cX2_append 25 = .ok (.iadd, 1) := by decide +kernel
theorem dX2_append_26 : decode cX2_append 26 = .ok (.putfield 15, 3) := by decide +kernel
theorem dX2_append_29 : decode cX2_append 29 = .ok (.return_, 1) := by decide +kernel
theorem dX2_spelt_0 : decode cX2_spelt 0 = .ok (.iconst 0, 1) := by decide +kernel
theorem dX2_spelt_1 : decode cX2_spelt 1 = .ok (.istore_n 1, 1) := by decide +kernel
theorem dX2_spelt_2 : decode cX2_spelt 2 = .ok (.iload_n 1, 1) := by decide +kernel
theorem dX2_spelt_3 : decode cX2_spelt 3 = .ok (.iconst 5, 1) := by decide +kernel
theorem dX2_spelt_4 : decode cX2_spelt 4 = .ok (.if_icmp .ge 22, 3) := by decide +kernel
theorem dX2_spelt_7 : decode cX2_spelt 7 = .ok (.aload_n 0, 1) := by decide +kernel
theorem dX2_spelt_8 : decode cX2_spelt 8 = .ok (.iload_n 1, 1) := by decide +kernel
theorem dX2_spelt_9 : decode cX2_spelt 9 = .ok (.invokestatic 19, 3) := by decide +kernel
theorem dX2_spelt_12 : decode cX2_spelt 12 = .ok (.invokevirtual 23, 3) := by decide +kernel
theorem dX2_spelt_15 : decode cX2_spelt 15 = .ok (.ifCond .eq 5, 3) := by decide +kernel
theorem dX2_spelt_18 : decode cX2_spelt 18 = .ok (.iload_n 1, 1) := by decide +kernel
theorem dX2_spelt_19 : decode cX2_spelt 19 = .ok (.ireturn, 1) := by decide +kernel
theorem dX2_spelt_20 : decode cX2_spelt 20 = .ok (.iinc 1 1, 3) := by decide +kernel
theorem dX2_spelt_23 : decode cX2_spelt 23 = .ok (.goto (-21), 3) := by decide +kernel
theorem dX2_spelt_26 : decode cX2_spelt 26 = .ok (.iconst (-1), 1) := by decide +kernel
theorem dX2_spelt_27 : decode cX2_spelt 27 = .ok (.ireturn, 1) := by decide +kernel
theorem dX2_isTyped_0 : decode cX2_isTyped 0 = .ok (.aload_n 1, 1) := by decide +kernel
theorem dX2_isTyped_1 : decode cX2_isTyped 1 = .ok (.invokevirtual 27, 3) := by decide +kernel
theorem dX2_isTyped_4 : decode cX2_isTyped 4 = .ok (.aload_n 0, 1) := by decide +kernel
theorem dX2_isTyped_5 : decode cX2_isTyped 5 = .ok (.getfield 15, 3) := by decide +kernel
theorem dX2_isTyped_8 : decode cX2_isTyped 8 = .ok (.if_icmp .eq 5, 3) := by decide +kernel
theorem dX2_isTyped_11 : decode cX2_isTyped 11 = .ok (.iconst 0, 1) := by decide +kernel
theorem dX2_isTyped_12 : decode cX2_isTyped 12 = .ok (.ireturn, 1) := by decide +kernel
theorem dX2_isTyped_13 : decode cX2_isTyped 13 = .ok (.iconst 0, 1) := by decide +kernel
theorem dX2_isTyped_14 : decode cX2_isTyped 14 = .ok (.istore_n 2, 1) := by decide +kernel
theorem dX2_isTyped_15 : decode cX2_isTyped 15 = .ok (.iload_n 2, 1) := by decide +kernel
theorem dX2_isTyped_16 : decode cX2_isTyped 16 = .ok (.aload_n 0, 1) := by decide +kernel
theorem dX2_isTyped_17 : decode cX2_isTyped 17 = .ok (.getfield 15, 3) := by decide +kernel
theorem dX2_isTyped_20 : decode cX2_isTyped 20 = .ok (.if_icmp .ge 25, 3) := by decide +kernel
theorem dX2_isTyped_23 : decode cX2_isTyped 23 = .ok (.aload_n 1, 1) := by decide +kernel
theorem dX2_isTyped_24 : decode cX2_isTyped 24 = .ok (.iload_n 2, 1) := by decide +kernel
theorem dX2_isTyped_25 : decode cX2_isTyped 25 = .ok (.invokevirtual 33, 3) := by decide +kernel
theorem dX2_isTyped_28 : decode cX2_isTyped 28 = .ok (.aload_n 0, 1) := by decide +kernel
theorem dX2_isTyped_29 : decode cX2_isTyped 29 = .ok (.getfield 9, 3) := by decide +kernel
theorem dX2_isTyped_32 : decode cX2_isTyped 32 = .ok (.iload_n 2, 1) := by decide +kernel
theorem dX2_isTyped_33 : decode cX2_isTyped 33 = .ok (.caload, 1) := by decide +kernel
theorem dX2_isTyped_34 : decode cX2_isTyped 34 = .ok (.if_icmp .eq 5, 3) := by decide +kernel
theorem dX2_isTyped_37 : decode cX2_isTyped 37 = .ok (.iconst 0, 1) := by decide +kernel
theorem dX2_isTyped_38 : decode cX2_isTyped 38 = .ok (.ireturn, 1) := by decide +kernel
theorem dX2_isTyped_39 : decode cX2_isTyped 39 = .ok (.iinc 2 1, 3) := by decide +kernel
theorem dX2_isTyped_42 : decode cX2_isTyped 42 = .ok (.goto (-27), 3) := by decide +kernel
theorem dX2_isTyped_45 : decode cX2_isTyped 45 = .ok (.iconst 1, 1) := by decide +kernel
theorem dX2_isTyped_46 : decode cX2_isTyped 46 = .ok (.ireturn, 1) := by decide +kernel
theorem dX2_wordOf_0 : decode cX2_wordOf 0 = .ok (.iload_n 0, 1) := by decide +kernel
theorem dX2_wordOf_1 : decode cX2_wordOf 1 = .ok (.tableswitch 43 0 3 #[31, 34, 37, 40], 31) := by decide +kernel
theorem dX2_wordOf_32 : decode cX2_wordOf 32 = .ok (.ldc 37, 2) := by decide +kernel
theorem dX2_wordOf_34 : decode cX2_wordOf 34 = .ok (.areturn, 1) := by decide +kernel
theorem dX2_wordOf_35 : decode cX2_wordOf 35 = .ok (.ldc 39, 2) := by decide +kernel
theorem dX2_wordOf_37 : decode cX2_wordOf 37 = .ok (.areturn, 1) := by decide +kernel
theorem dX2_wordOf_38 : decode cX2_wordOf 38 = .ok (.ldc 41, 2) := by decide +kernel
theorem dX2_wordOf_40 : decode cX2_wordOf 40 = .ok (.areturn, 1) := by decide +kernel
theorem dX2_wordOf_41 : decode cX2_wordOf 41 = .ok (.ldc 43, 2) := by decide +kernel
theorem dX2_wordOf_43 : decode cX2_wordOf 43 = .ok (.areturn, 1) := by decide +kernel
theorem dX2_wordOf_44 : decode cX2_wordOf 44 = .ok (.ldc 45, 2) := by decide +kernel
theorem dX2_wordOf_46 : decode cX2_wordOf 46 = .ok (.areturn, 1) := by decide +kernel
theorem dX3_init_0 : decode cX3_init 0 = .ok (.aload_n 0, 1) := by decide +kernel
theorem dX3_init_1 : decode cX3_init 1 = .ok (.invokespecial 3, 3) := by decide +kernel
theorem dX3_init_4 : decode cX3_init 4 = .ok (.aload_n 0, 1) := by decide +kernel
theorem dX3_init_5 : decode cX3_init 5 = .ok (.bipush 8, 2) := by decide +kernel
theorem dX3_init_7 : decode cX3_init 7 = .ok (.anewarray 9, 3) := by decide +kernel
theorem dX3_init_10 : decode cX3_init 10 = .ok (.putfield 11, 3) := by decide +kernel
theorem dX3_init_13 : decode cX3_init 13 = .ok (.iconst 0, 1) := by decide +kernel
theorem dX3_init_14 : decode cX3_init 14 = .ok (.istore_n 1, 1) := by decide +kernel
theorem dX3_init_15 : decode cX3_init 15 = .ok (.iload_n 1, 1) := by decide +kernel
theorem dX3_init_16 : decode cX3_init 16 = .ok (.bipush 8, 2) := by decide +kernel
theorem dX3_init_18 : decode cX3_init 18 = .ok (.if_icmp .ge 22, 3) := by decide +kernel
theorem dX3_init_21 : decode cX3_init 21 = .ok (.aload_n 0, 1) := by decide +kernel
theorem dX3_init_22 : decode cX3_init 22 = .ok (.getfield 11, 3) := by decide +kernel
theorem dX3_init_25 : decode cX3_init 25 = .ok (.iload_n 1, 1) := by decide +kernel
theorem dX3_init_26 : decode cX3_init 26 = .ok (.new 9, 3) := by decide +kernel
theorem dX3_init_29 : decode cX3_init 29 = .ok (.dup, 1) := by decide +kernel
theorem dX3_init_30 : decode cX3_init 30 = .ok (.invokespecial 17, 3) := by decide +kernel
theorem dX3_init_33 : decode cX3_init 33 = .ok (.aastore, 1) := by decide +kernel
theorem dX3_init_34 : decode cX3_init 34 = .ok (.iinc 1 1, 3) := by decide +kernel
theorem dX3_init_37 : decode cX3_init 37 = .ok (.goto (-22), 3) := by decide +kernel
theorem dX3_init_40 : decode cX3_init 40 = .ok (.return_, 1) := by decide +kernel
theorem dX4_init_0 : decode cX4_init 0 = .ok (.aload_n 0, 1) := by decide +kernel
theorem dX4_init_1 : decode cX4_init 1 = .ok (.invokespecial 3, 3) := by decide +kernel
theorem dX4_init_4 : decode cX4_init 4 = .ok (.aload_n 0, 1) := by decide +kernel
theorem dX4_init_5 : decode cX4_init 5 = .ok (.bipush 8, 2) := by decide +kernel
theorem dX4_init_7 : decode cX4_init 7 = .ok (.newarray .int, 2) := by decide +kernel
theorem dX4_init_9 : decode cX4_init 9 = .ok (.putfield 9, 3) := by decide +kernel
theorem dX4_init_12 : decode cX4_init 12 = .ok (.aload_n 0, 1) := by decide +kernel
theorem dX4_init_13 : decode cX4_init 13 = .ok (.bipush 15, 2) := by decide +kernel
theorem dX4_init_15 : decode cX4_init 15 = .ok (.newarray .boolean, 2) := by decide +kernel
theorem dX4_init_17 : decode cX4_init 17 = .ok (.putfield 15, 3) := by decide +kernel
theorem dX4_init_20 : decode cX4_init 20 = .ok (.iconst 0, 1) := by decide +kernel
theorem dX4_init_21 : decode cX4_init 21 = .ok (.istore_n 1, 1) := by decide +kernel
theorem dX4_init_22 : decode cX4_init 22 = .ok (.iload_n 1, 1) := by decide +kernel
theorem dX4_init_23 : decode cX4_init 23 = .ok (.bipush 8, 2) := by decide +kernel
theorem dX4_init_25 : decode cX4_init 25 = .ok (.if_icmp .ge 16, 3) := by decide +kernel
theorem dX4_init_28 : decode cX4_init 28 = .ok (.aload_n 0, 1) := by decide +kernel
theorem dX4_init_29 : decode cX4_init 29 = .ok (.getfield 9, 3) := by decide +kernel
theorem dX4_init_32 : decode cX4_init 32 = .ok (.iload_n 1, 1) := by decide +kernel
theorem dX4_init_33 : decode cX4_init 33 = .ok (.iconst (-1), 1) := by decide +kernel
theorem dX4_init_34 : decode cX4_init 34 = .ok (.iastore, 1) := by decide +kernel
theorem dX4_init_35 : decode cX4_init 35 = .ok (.iinc 1 1, 3) := by decide +kernel
theorem dX4_init_38 : decode cX4_init 38 = .ok (.goto (-16), 3) := by decide +kernel
theorem dX4_init_41 : decode cX4_init 41 = .ok (.return_, 1) := by decide +kernel
theorem dX4_write_0 : decode cX4_write 0 = .ok (.aload_n 0, 1) := by decide +kernel
theorem dX4_write_1 : decode cX4_write 1 = .ok (.iload_n 1, 1) := by decide +kernel
theorem dX4_write_2 : decode cX4_write 2 = .ok (.putfield 19, 3) := by decide +kernel
theorem dX4_write_5 : decode cX4_write 5 = .ok (.aload_n 0, 1) := by decide +kernel
theorem dX4_write_6 : decode cX4_write 6 = .ok (.iload_n 1, 1) := by decide +kernel
theorem dX4_write_7 : decode cX4_write 7 = .ok (.putfield 23, 3) := by decide +kernel
theorem dX4_write_10 : decode cX4_write 10 = .ok (.aload_n 0, 1) := by decide +kernel
theorem dX4_write_11 : decode cX4_write 11 = .ok (.iload_n 2, 1) := by decide +kernel
theorem dX4_write_12 : decode cX4_write 12 = .ok (.putfield 26, 3) := by decide +kernel
theorem dX4_write_15 : decode cX4_write 15 = .ok (.return_, 1) := by decide +kernel
theorem dX4_forget_0 : decode cX4_forget 0 = .ok (.aload_n 0, 1) := by decide +kernel
theorem dX4_forget_1 : decode cX4_forget 1 = .ok (.iconst 0, 1) := by decide +kernel
theorem dX4_forget_2 : decode cX4_forget 2 = .ok (.aload_n 0, 1) := by decide +kernel
theorem dX4_forget_3 : decode cX4_forget 3 = .ok (.getfield 29, 3) := by decide +kernel
theorem dX4_forget_6 : decode cX4_forget 6 = .ok (.bipush 30, 2) := by decide +kernel
theorem dX4_forget_8 : decode cX4_forget 8 = .ok (.isub, 1) := by decide +kernel
theorem dX4_forget_9 : decode cX4_forget 9 = .ok (.invokestatic 32, 3) := by decide +kernel
theorem dX4_forget_12 : decode cX4_forget 12 = .ok (.putfield 29, 3) := by decide +kernel
theorem dX4_forget_15 : decode cX4_forget 15 = .ok (.return_, 1) := by decide +kernel
theorem dX4_linesNotInBook_0 : decode cX4_linesNotInBook 0 = .ok (.aload_n 0, 1) := by decide +kernel
theorem dX4_linesNotInBook_1 : decode cX4_linesNotInBook 1 = .ok (.getfield 19, 3) := by decide +kernel
theorem dX4_linesNotInBook_4 : decode cX4_linesNotInBook 4 = .ok (.aload_n 0, 1) := by decide +kernel
theorem dX4_linesNotInBook_5 : decode cX4_linesNotInBook 5 = .ok (.getfield 23, 3) := by decide +kernel
theorem dX4_linesNotInBook_8 : decode cX4_linesNotInBook 8 = .ok (.isub, 1) := by decide +kernel
theorem dX4_linesNotInBook_9 : decode cX4_linesNotInBook 9 = .ok (.ireturn, 1) := by decide +kernel
theorem dX4_leafCount_0 : decode cX4_leafCount 0 = .ok (.aload_n 0, 1) := by decide +kernel
theorem dX4_leafCount_1 : decode cX4_leafCount 1 = .ok (.getfield 23, 3) := by decide +kernel
theorem dX4_leafCount_4 : decode cX4_leafCount 4 = .ok (.bipush 40, 2) := by decide +kernel
theorem dX4_leafCount_6 : decode cX4_leafCount 6 = .ok (.iadd, 1) := by decide +kernel
theorem dX4_leafCount_7 : decode cX4_leafCount 7 = .ok (.iconst 1, 1) := by decide +kernel
theorem dX4_leafCount_8 : decode cX4_leafCount 8 = .ok (.isub, 1) := by decide +kernel
theorem dX4_leafCount_9 : decode cX4_leafCount 9 = .ok (.bipush 40, 2) := by decide +kernel
theorem dX4_leafCount_11 : decode cX4_leafCount 11 = .ok (.idiv, 1) := by decide +kernel
theorem dX4_leafCount_12 : decode cX4_leafCount 12 = .ok (.ireturn, 1) := by decide +kernel
theorem dX4_lastLineOf_0 : decode cX4_lastLineOf 0 = .ok (.aload_n 0, 1) := by decide +kernel
theorem dX4_lastLineOf_1 : decode cX4_lastLineOf 1 = .ok (.getfield 23, 3) := by decide +kernel
theorem dX4_lastLineOf_4 : decode cX4_lastLineOf 4 = .ok (.iload_n 1, 1) := by decide +kernel
theorem dX4_lastLineOf_5 : decode cX4_lastLineOf 5 = .ok (.iconst 1, 1) := by decide +kernel
theorem dX4_lastLineOf_6 : decode cX4_lastLineOf 6 = .ok (.iadd, 1) := by decide +kernel
theorem dX4_lastLineOf_7 : decode cX4_lastLineOf 7 = .ok (.bipush 40, 2) := by decide +kernel
theorem dX4_lastLineOf_9 : decode cX4_lastLineOf 9 = .ok (.imul, 1) := by decide +kernel
theorem dX4_lastLineOf_10 : decode cX4_lastLineOf 10 = .ok (.invokestatic 38, 3) := by decide +kernel
theorem dX4_lastLineOf_13 : decode cX4_lastLineOf 13 = .ok (.ireturn, 1) := by decide +kernel
theorem dX4_knownLines_0 : decode cX4_knownLines 0 = .ok (.iconst 0, 1) := by decide +kernel
theorem dX4_knownLines_1 : decode cX4_knownLines 1 = .ok (.istore_n 1, 1) := by decide +kernel
theorem dX4_knownLines_2 : decode cX4_knownLines 2 = .ok (.aload_n 0, 1) := by decide +kernel
theorem dX4_knownLines_3 : decode cX4_knownLines 3 = .ok (.invokevirtual 41, 3) := by decide +kernel
theorem dX4_knownLines_6 : decode cX4_knownLines 6 = .ok (.istore_n 2, 1) := by decide +kernel
theorem dX4_knownLines_7 : decode cX4_knownLines 7 = .ok (.iconst 0, 1) := by decide +kernel
theorem dX4_knownLines_8 : decode cX4_knownLines 8 = .ok (.istore_n 3, 1) := by decide +kernel
theorem dX4_knownLines_9 : decode cX4_knownLines 9 = .ok (.iload_n 3, 1) := by decide +kernel
theorem dX4_knownLines_10 : decode cX4_knownLines 10 = .ok (.iload_n 2, 1) := by decide +kernel
theorem dX4_knownLines_11 : decode cX4_knownLines 11 = .ok (.if_icmp .ge 31, 3) := by decide +kernel
theorem dX4_knownLines_14 : decode cX4_knownLines 14 = .ok (.aload_n 0, 1) := by decide +kernel
theorem dX4_knownLines_15 : decode cX4_knownLines 15 = .ok (.getfield 15, 3) := by decide +kernel
theorem dX4_knownLines_18 : decode cX4_knownLines 18 = .ok (.iload_n 3, 1) := by decide +kernel
theorem dX4_knownLines_19 : decode cX4_knownLines 19 = .ok (.baload, 1) := by decide +kernel
theorem dX4_knownLines_20 : decode cX4_knownLines 20 = .ok (.ifCond .ne 16, 3) := by decide +kernel
theorem dX4_knownLines_23 : decode cX4_knownLines 23 = .ok (.iload_n 1, 1) := by decide +kernel
theorem dX4_knownLines_24 : decode cX4_knownLines 24 = .ok (.aload_n 0, 1) := by decide +kernel
theorem dX4_knownLines_25 : decode cX4_knownLines 25 = .ok (.iload_n 3, 1) := by decide +kernel
theorem dX4_knownLines_26 : decode cX4_knownLines 26 = .ok (.invokevirtual 45, 3) := by decide +kernel
theorem dX4_knownLines_29 : decode cX4_knownLines 29 = .ok (.iload_n 3, 1) := by decide +kernel
theorem dX4_knownLines_30 : decode cX4_knownLines 30 = .ok (.bipush 40, 2) := by decide +kernel
theorem dX4_knownLines_32 : decode cX4_knownLines 32 = .ok (.imul, 1) := by decide +kernel
theorem dX4_knownLines_33 : decode cX4_knownLines 33 = .ok (.isub, 1) := by decide +kernel
theorem dX4_knownLines_34 : decode cX4_knownLines 34 = .ok (.iadd, 1) := by decide +kernel
theorem dX4_knownLines_35 : decode cX4_knownLines 35 = .ok (.istore_n 1, 1) := by decide +kernel
theorem dX4_knownLines_36 : decode cX4_knownLines 36 = .ok (.iinc 3 1, 3) := by decide +kernel
theorem dX4_knownLines_39 : decode cX4_knownLines 39 = .ok (.goto (-30), 3) := by decide +kernel
theorem dX4_knownLines_42 : decode cX4_knownLines 42 = .ok (.iload_n 1, 1) := by decide +kernel
theorem dX4_knownLines_43 : decode cX4_knownLines 43 = .ok (.ireturn, 1) := by decide +kernel
theorem dX4_bringBookUpToDate_0 : decode cX4_bringBookUpToDate 0 = .ok (.aload_n 0, 1) := by decide +kernel
theorem dX4_bringBookUpToDate_1 : decode cX4_bringBookUpToDate 1 = .ok (.aload_n 0, 1) := by decide +kernel
theorem dX4_bringBookUpToDate_2 : decode cX4_bringBookUpToDate 2 = .ok (.getfield 19, 3) := by decide +kernel
theorem dX4_bringBookUpToDate_5 : decode cX4_bringBookUpToDate 5 = .ok (.putfield 23, 3) := by decide +kernel
theorem dX4_bringBookUpToDate_8 : decode cX4_bringBookUpToDate 8 = .ok (.aload_n 0, 1) := by decide +kernel
theorem dX4_bringBookUpToDate_9 : decode cX4_bringBookUpToDate 9 = .ok (.aload_n 0, 1) := by decide +kernel
theorem dX4_bringBookUpToDate_10 : decode cX4_bringBookUpToDate 10 = .ok (.getfield 19, 3) := by decide +kernel
theorem dX4_bringBookUpToDate_13 : decode cX4_bringBookUpToDate 13 = .ok (.invokevirtual 49, 3) := by decide +kernel
theorem dX4_bringBookUpToDate_16 : decode cX4_bringBookUpToDate 16 = .ok (.return_, 1) := by decide +kernel
theorem dX4_findLeavesUpTo_0 : decode cX4_findLeavesUpTo 0 = .ok (.aload_n 0, 1) := by decide +kernel
theorem dX4_findLeavesUpTo_1 : decode cX4_findLeavesUpTo 1 = .ok (.invokevirtual 41, 3) := by decide +kernel
theorem dX4_findLeavesUpTo_4 : decode cX4_findLeavesUpTo 4 = .ok (.istore_n 2, 1) := by decide +kernel
theorem dX4_findLeavesUpTo_5 : decode cX4_findLeavesUpTo 5 = .ok (.iconst 0, 1) := by decide +kernel
theorem dX4_findLeavesUpTo_6 : decode cX4_findLeavesUpTo 6 = .ok (.istore_n 3, 1) := by decide +kernel
theorem dX4_findLeavesUpTo_7 : decode cX4_findLeavesUpTo 7 = .ok (.iload_n 3, 1) := by decide +kernel
theorem dX4_findLeavesUpTo_8 : decode cX4_findLeavesUpTo 8 = .ok (.iload_n 2, 1) := by decide +kernel
theorem dX4_findLeavesUpTo_9 : decode cX4_findLeavesUpTo 9 = .ok (.if_icmp .ge 25, 3) := by decide +kernel
theorem dX4_findLeavesUpTo_12 : decode cX4_findLeavesUpTo 12 = .ok (.aload_n 0, 1) := by decide +kernel
theorem dX4_findLeavesUpTo_13 : decode cX4_findLeavesUpTo 13 = .ok (.iload_n 3, 1) := by decide +kernel
theorem dX4_findLeavesUpTo_14 : decode cX4_findLeavesUpTo 14 = .ok (.invokevirtual 45, 3) := by decide +kernel
theorem dX4_findLeavesUpTo_17 : decode cX4_findLeavesUpTo 17 = .ok (.iload_n 1, 1) := by decide +kernel
theorem dX4_findLeavesUpTo_18 : decode cX4_findLeavesUpTo 18 = .ok (.if_icmp .gt 10, 3) := by decide +kernel
theorem dX4_findLeavesUpTo_21 : decode cX4_findLeavesUpTo 21 = .ok (.aload_n 0, 1) := by decide +kernel
theorem dX4_findLeavesUpTo_22 : decode cX4_findLeavesUpTo 22 = .ok (.getfield 15, 3) := by decide +kernel
theorem dX4_findLeavesUpTo_25 : decode cX4_findLeavesUpTo 25 = .ok (.iload_n 3, 1) := by decide +kernel
theorem dX4_findLeavesUpTo_26 : decode cX4_findLeavesUpTo 26 = .ok (.iconst 0, 1) := by decide +kernel
theorem dX4_findLeavesUpTo_27 : decode cX4_findLeavesUpTo 27 = .ok (.bastore, 1) := by decide +kernel
theorem dX4_findLeavesUpTo_28 : decode cX4_findLeavesUpTo 28 = .ok (.iinc 3 1, 3) := by decide +kernel
theorem dX4_findLeavesUpTo_31 : decode cX4_findLeavesUpTo 31 = .ok (.goto (-24), 3) := by decide +kernel
theorem dX4_findLeavesUpTo_34 : decode cX4_findLeavesUpTo 34 = .ok (.return_, 1) := by decide +kernel
theorem dX5_init_0 : decode cX5_init 0 = .ok (.aload_n 0, 1) := by decide +kernel
theorem dX5_init_1 : decode cX5_init 1 = .ok (.invokespecial 3, 3) := by decide +kernel
theorem dX5_init_4 : decode cX5_init 4 = .ok (.aload_n 0, 1) := by decide +kernel
theorem dX5_init_5 : decode cX5_init 5 = .ok (.bipush 6, 2) := by decide +kernel
theorem dX5_init_7 : decode cX5_init 7 = .ok (.newarray .int, 2) := by decide +kernel
theorem dX5_init_9 : decode cX5_init 9 = .ok (.putfield 9, 3) := by decide +kernel
theorem dX5_init_12 : decode cX5_init 12 = .ok (.aload_n 0, 1) := by decide +kernel
theorem dX5_init_13 : decode cX5_init 13 = .ok (.bipush 6, 2) := by decide +kernel
theorem dX5_init_15 : decode cX5_init 15 = .ok (.newarray .int, 2) := by decide +kernel
theorem dX5_init_17 : decode cX5_init 17 = .ok (.putfield 15, 3) := by decide +kernel
theorem dX5_init_20 : decode cX5_init 20 = .ok (.aload_n 0, 1) := by decide +kernel
theorem dX5_init_21 : decode cX5_init 21 = .ok (.bipush 6, 2) := by decide +kernel
theorem dX5_init_23 : decode cX5_init 23 = .ok (.newarray .int, 2) := by decide +kernel
theorem dX5_init_25 : decode cX5_init 25 = .ok (.putfield 18, 3) := by decide +kernel
theorem dX5_init_28 : decode cX5_init 28 = .ok (.aload_n 0, 1) := by decide +kernel
theorem dX5_init_29 : decode cX5_init 29 = .ok (.bipush 6, 2) := by decide +kernel
theorem dX5_init_31 : decode cX5_init 31 = .ok (.newarray .int, 2) := by decide +kernel
theorem dX5_init_33 : decode cX5_init 33 = .ok (.putfield 21, 3) := by decide +kernel
theorem dX5_init_36 : decode cX5_init 36 = .ok (.aload_n 0, 1) := by decide +kernel
theorem dX5_init_37 : decode cX5_init 37 = .ok (.bipush 6, 2) := by decide +kernel
theorem dX5_init_39 : decode cX5_init 39 = .ok (.newarray .int, 2) := by decide +kernel
theorem dX5_init_41 : decode cX5_init 41 = .ok (.putfield 24, 3) := by decide +kernel
theorem dX5_init_44 : decode cX5_init 44 = .ok (.aload_n 0, 1) := by decide +kernel
theorem dX5_init_45 : decode cX5_init 45 = .ok (.bipush 6, 2) := by decide +kernel
theorem dX5_init_47 : decode cX5_init 47 = .ok (.newarray .char, 2) := by decide +kernel
theorem dX5_init_49 : decode cX5_init 49 = .ok (.putfield 27, 3) := by decide +kernel
theorem dX5_init_52 : decode cX5_init 52 = .ok (.return_, 1) := by decide +kernel
theorem dX6_init_0 : decode cX6_init 0 = .ok (.aload_n 0, 1) := by decide +kernel
theorem dX6_init_1 : decode cX6_init 1 = .ok (.invokespecial 3, 3) := by decide +kernel
theorem dX6_init_4 : decode cX6_init 4 = .ok (.aload_n 0, 1) := by decide +kernel
theorem dX6_init_5 : decode cX6_init 5 = .ok (.iconst (-1), 1) := by decide +kernel
theorem dX6_init_6 : decode cX6_init 6 = .ok (.putfield 9, 3) := by decide +kernel
theorem dX6_init_9 : decode cX6_init 9 = .ok (.return_, 1) := by decide +kernel
theorem dX7_init_0 : decode cX7_init 0 = .ok (.aload_n 0, 1) := by decide +kernel
theorem dX7_init_1 : decode cX7_init 1 = .ok (.invokespecial 1, 3) := by decide +kernel
theorem dX7_init_4 : decode cX7_init 4 = .ok (.aload_n 0, 1) := by decide +kernel
theorem dX7_init_5 : decode cX7_init 5 = .ok (.bipush 8, 2) := by decide +kernel
theorem dX7_init_7 : decode cX7_init 7 = .ok (.anewarray 9, 3) := by decide +kernel
theorem dX7_init_10 : decode cX7_init 10 = .ok (.putfield 11, 3) := by decide +kernel
theorem dX7_init_13 : decode cX7_init 13 = .ok (.aload_n 0, 1) := by decide +kernel
theorem dX7_init_14 : decode cX7_init 14 = .ok (.bipush 8, 2) := by decide +kernel
theorem dX7_init_16 : decode cX7_init 16 = .ok (.newarray .int, 2) := by decide +kernel
theorem dX7_init_18 : decode cX7_init 18 = .ok (.putfield 15, 3) := by decide +kernel
theorem dX7_init_21 : decode cX7_init 21 = .ok (.aload_n 0, 1) := by decide +kernel
theorem dX7_init_22 : decode cX7_init 22 = .ok (.new 19, 3) := by decide +kernel
theorem dX7_init_25 : decode cX7_init 25 = .ok (.dup, 1) := by decide +kernel
theorem dX7_init_26 : decode cX7_init 26 = .ok (.invokespecial 21, 3) := by decide +kernel
theorem dX7_init_29 : decode cX7_init 29 = .ok (.putfield 22, 3) := by decide +kernel
theorem dX7_init_32 : decode cX7_init 32 = .ok (.aload_n 0, 1) := by decide +kernel
theorem dX7_init_33 : decode cX7_init 33 = .ok (.new 26, 3) := by decide +kernel
theorem dX7_init_36 : decode cX7_init 36 = .ok (.dup, 1) := by decide +kernel
theorem dX7_init_37 : decode cX7_init 37 = .ok (.invokespecial 28, 3) := by decide +kernel
theorem dX7_init_40 : decode cX7_init 40 = .ok (.putfield 29, 3) := by decide +kernel
theorem dX7_init_43 : decode cX7_init 43 = .ok (.aload_n 0, 1) := by decide +kernel
theorem dX7_init_44 : decode cX7_init 44 = .ok (.iconst 5, 1) := by decide +kernel
theorem dX7_init_45 : decode cX7_init 45 = .ok (.newarray .boolean, 2) := by decide +kernel
theorem dX7_init_47 : decode cX7_init 47 = .ok (.putfield 33, 3) := by decide +kernel
theorem dX7_init_50 : decode cX7_init 50 = .ok (.aload_n 0, 1) := by decide +kernel
theorem dX7_init_51 : decode cX7_init 51 = .ok (.bipush 10, 2) := by decide +kernel
theorem dX7_init_53 : decode cX7_init 53 = .ok (.newarray .int, 2) := by decide +kernel
theorem dX7_init_55 : decode cX7_init 55 = .ok (.putfield 37, 3) := by decide +kernel
theorem dX7_init_58 : decode cX7_init 58 = .ok (.aload_n 0, 1) := by decide +kernel
theorem dX7_init_59 : decode cX7_init 59 = .ok (.new 40, 3) := by decide +kernel
theorem dX7_init_62 : decode cX7_init 62 = .ok (.dup, 1) := by decide +kernel
theorem dX7_init_63 : decode cX7_init 63 = .ok (.invokespecial 42, 3) := by decide +kernel
theorem dX7_init_66 : decode cX7_init 66 = .ok (.putfield 43, 3) := by decide +kernel
theorem dX7_init_69 : decode cX7_init 69 = .ok (.aload_n 0, 1) := by decide +kernel
theorem dX7_init_70 : decode cX7_init 70 = .ok (.new 40, 3) := by decide +kernel
theorem dX7_init_73 : decode cX7_init 73 = .ok (.dup, 1) := by decide +kernel
theorem dX7_init_74 : decode cX7_init 74 = .ok (.invokespecial 42, 3) := by decide +kernel
theorem dX7_init_77 : decode cX7_init 77 = .ok (.putfield 47, 3) := by decide +kernel
theorem dX7_init_80 : decode cX7_init 80 = .ok (.aload_n 0, 1) := by decide +kernel
theorem dX7_init_81 : decode cX7_init 81 = .ok (.iconst 4, 1) := by decide +kernel
theorem dX7_init_82 : decode cX7_init 82 = .ok (.newarray .int, 2) := by decide +kernel
theorem dX7_init_84 : decode cX7_init 84 = .ok (.putfield 50, 3) := by decide +kernel
theorem dX7_init_87 : decode cX7_init 87 = .ok (.aload_n 0, 1) := by decide +kernel
theorem dX7_init_88 : decode cX7_init 88 = .ok (.iconst 4, 1) := by decide +kernel
theorem dX7_init_89 : decode cX7_init 89 = .ok (.newarray .int, 2) := by decide +kernel
theorem dX7_init_91 : decode cX7_init 91 = .ok (.putfield 53, 3) := by decide +kernel
theorem dX7_init_94 : decode cX7_init 94 = .ok (.iconst 0, 1) := by decide +kernel
theorem dX7_init_95 : decode cX7_init 95 = .ok (.istore_n 1, 1) := by decide +kernel
theorem dX7_init_96 : decode cX7_init 96 = .ok (.iload_n 1, 1) := by decide +kernel
theorem dX7_init_97 : decode cX7_init 97 = .ok (.bipush 8, 2) := by decide +kernel
theorem dX7_init_99 : decode cX7_init 99 = .ok (.if_icmp .ge 22, 3) := by decide +kernel
theorem dX7_init_102 : decode cX7_init 102 = .ok (.aload_n 0, 1) := by decide +kernel
theorem dX7_init_103 : decode cX7_init 103 = .ok (.getfield 11, 3) := by decide +kernel
theorem dX7_init_106 : decode cX7_init 106 = .ok (.iload_n 1, 1) := by decide +kernel
theorem dX7_init_107 : decode cX7_init 107 = .ok (.new 9, 3) := by decide +kernel
theorem dX7_init_110 : decode cX7_init 110 = .ok (.dup, 1) := by decide +kernel
theorem dX7_init_111 : decode cX7_init 111 = .ok (.invokespecial 56, 3) := by decide +kernel
theorem dX7_init_114 : decode cX7_init 114 = .ok (.aastore, 1) := by decide +kernel
theorem dX7_init_115 : decode cX7_init 115 = .ok (.iinc 1 1, 3) := by decide +kernel
theorem dX7_init_118 : decode cX7_init 118 = .ok (.goto (-22), 3) := by decide +kernel
theorem dX7_init_121 : decode cX7_init 121 = .ok (.return_, 1) := by decide +kernel
theorem dX7_addGuild_0 : decode cX7_addGuild 0 = .ok (.iload_n 1, 1) := by decide +kernel
theorem dX7_addGuild_1 : decode cX7_addGuild 1 = .ok (.iconst 0, 1) := by decide +kernel
theorem dX7_addGuild_2 : decode cX7_addGuild 2 = .ok (.sipush 9999, 3) := by decide +kernel
theorem dX7_addGuild_5 : decode cX7_addGuild 5 = .ok (.invokestatic 57, 3) := by decide +kernel
theorem dX7_addGuild_8 : decode cX7_addGuild 8 = .ok (.iload_n 2, 1) := by decide +kernel
theorem dX7_addGuild_9 : decode cX7_addGuild 9 = .ok (.bipush 20, 2) := by decide +kernel
theorem dX7_addGuild_11 : decode cX7_addGuild 11 = .ok (.sipush 400, 3) := by decide +kernel
theorem dX7_addGuild_14 : decode cX7_addGuild 14 = .ok (.invokestatic 57, 3) := by decide +kernel
theorem dX7_addGuild_17 : decode cX7_addGuild 17 = .ok (.iload_n 3, 1) := by decide +kernel
theorem dX7_addGuild_18 : decode cX7_addGuild 18 = .ok (.iconst 1, 1) := by decide +kernel
theorem dX7_addGuild_19 : decode cX7_addGuild 19 = .ok (.bipush 8, 2) := by decide +kernel
theorem dX7_addGuild_21 : decode cX7_addGuild 21 = .ok (.invokestatic 57, 3) := by decide +kernel
theorem dX7_addGuild_24 : decode cX7_addGuild 24 = .ok (.aload_n 0, 1) := by decide +kernel
theorem dX7_addGuild_25 : decode cX7_addGuild 25 = .ok (.getfield 61, 3) := by decide +kernel
theorem dX7_addGuild_28 : decode cX7_addGuild 28 = .ok (.bipush 8, 2) := by decide +kernel
theorem dX7_addGuild_30 : decode cX7_addGuild 30 = .ok (.if_icmp .lt 13, 3) := by decide +kernel
theorem dX7_addGuild_33 : decode cX7_addGuild 33 = .ok (.new 65, 3) := by decide +kernel
theorem dX7_addGuild_36 : decode cX7_addGuild 36 = .ok (.dup, 1) := by decide +kernel
theorem dX7_addGuild_37 : decode cX7_addGuild 37 = .ok (.ldc 67, 2) := by decide +kernel
theorem dX7_addGuild_39 : decode cX7_addGuild 39 = .ok (.invokespecial 69, 3) := by decide +kernel
theorem dX7_addGuild_42 : decode cX7_addGuild 42 = .ok (.athrow, 1) := by decide +kernel
theorem dX7_addGuild_43 : decode cX7_addGuild 43 = .ok (.aload_n 0, 1) := by decide +kernel
theorem dX7_addGuild_44 : decode cX7_addGuild 44 = .ok (.getfield 61, 3) := by decide +kernel
theorem dX7_addGuild_47 : decode cX7_addGuild 47 = .ok (.istore 4, 2) := by decide +kernel
theorem dX7_addGuild_49 : decode cX7_addGuild 49 = .ok (.aload_n 0, 1) := by decide +kernel
theorem dX7_addGuild_50 : decode cX7_addGuild 50 = .ok (.getfield 11, 3) := by decide +kernel
theorem dX7_addGuild_53 : decode cX7_addGuild 53 = .ok (.iload 4, 2) := by decide +kernel
theorem dX7_addGuild_55 : decode cX7_addGuild 55 = .ok (.aaload, 1) := by decide +kernel
theorem dX7_addGuild_56 : decode cX7_addGuild 56 = .ok (.astore 5, 2) := by decide +kernel
theorem dX7_addGuild_58 : decode cX7_addGuild 58 = .ok (.aload 5, 2) := by decide +kernel
theorem dX7_addGuild_60 : decode cX7_addGuild 60 = .ok (.iload_n 1, 1) := by decide +kernel
theorem dX7_addGuild_61 : decode cX7_addGuild 61 = .ok (.putfield 72, 3) := by decide +kernel
theorem dX7_addGuild_64 : decode cX7_addGuild 64 = .ok (.aload 5, 2) := by decide +kernel
theorem dX7_addGuild_66 : decode cX7_addGuild 66 = .ok (.getfield 75, 3) := by decide +kernel
theorem dX7_addGuild_69 : decode cX7_addGuild 69 = .ok (.iload_n 2, 1) := by decide +kernel
theorem dX7_addGuild_70 : decode cX7_addGuild 70 = .ok (.iload_n 3, 1) := by decide +kernel
theorem dX7_addGuild_71 : decode cX7_addGuild 71 = .ok (.invokevirtual 79, 3) := by decide +kernel
theorem dX7_addGuild_74 : decode cX7_addGuild 74 = .ok (.aload_n 0, 1) := by decide +kernel
theorem dX7_addGuild_75 : decode cX7_addGuild 75 = .ok (.dup, 1) := by decide +kernel
theorem dX7_addGuild_76 : decode cX7_addGuild 76 = .ok (.getfield 85, 3) := by decide +kernel
theorem dX7_addGuild_79 : decode cX7_addGuild 79 = .ok (.iload_n 1, 1) := by decide +kernel
theorem dX7_addGuild_80 : decode cX7_addGuild 80 = .ok (.iadd, 1) := by decide +kernel
theorem dX7_addGuild_81 : decode cX7_addGuild 81 = .ok (.putfield 85, 3) := by decide +kernel
theorem dX7_addGuild_84 : decode cX7_addGuild 84 = .ok (.aload_n 0, 1) := by decide +kernel
theorem dX7_addGuild_85 : decode cX7_addGuild 85 = .ok (.getfield 15, 3) := by decide +kernel
theorem dX7_addGuild_88 : decode cX7_addGuild 88 = .ok (.iload 4, 2) := by decide +kernel
theorem dX7_addGuild_90 : decode cX7_addGuild 90 = .ok (.iload 4, 2) := by decide +kernel
theorem dX7_addGuild_92 : decode cX7_addGuild 92 = .ok (.iastore, 1) := by decide +kernel
theorem dX7_addGuild_93 : decode cX7_addGuild 93 = .ok (.aload_n 0, 1) := by decide +kernel
theorem dX7_addGuild_94 : decode cX7_addGuild 94 = .ok (.dup, 1) := by decide +kernel
theorem dX7_addGuild_95 : decode cX7_addGuild 95 = .ok (.getfield 61, 3) := by decide +kernel
theorem dX7_addGuild_98 : decode cX7_addGuild 98 = .ok (.iconst 1, 1) := by decide +kernel
theorem dX7_addGuild_99 : decode cX7_addGuild 99 = .ok (.iadd, 1) := by decide +kernel
theorem dX7_addGuild_100 : decode cX7_addGuild 100 = .ok (.putfield 61, 3) := by decide +kernel
theorem dX7_addGuild_103 : decode cX7_addGuild 103 = .ok (.iload 4, 2) := by decide +kernel
theorem dX7_addGuild_105 : decode cX7_addGuild 105 = .ok (.ireturn, 1) := by decide +kernel
theorem dX7_merge_0 : decode cX7_merge 0 = .ok (.aload_n 0, 1) := by decide +kernel
theorem dX7_merge_1 : decode cX7_merge 1 = .ok (.iload_n 1, 1) := by decide +kernel
theorem dX7_merge_2 : decode cX7_merge 2 = .ok (.invokevirtual 88, 3) := by decide +kernel
theorem dX7_merge_5 : decode cX7_merge 5 = .ok (.aload_n 0, 1) := by decide +kernel
theorem dX7_merge_6 : decode cX7_merge 6 = .ok (.iload_n 2, 1) := by decide +kernel
theorem dX7_merge_7 : decode cX7_merge 7 = .ok (.invokevirtual 88, 3) := by decide +kernel
theorem dX7_merge_10 : decode cX7_merge 10 = .ok (.iload_n 1, 1) := by decide +kernel
theorem dX7_merge_11 : decode cX7_merge 11 = .ok (.iload_n 2, 1) := by decide +kernel
theorem dX7_merge_12 : decode cX7_merge 12 = .ok (.if_icmp .ne 13, 3) := by decide +kernel
theorem dX7_merge_15 : decode cX7_merge 15 = .ok (.new 92, 3) := by decide +kernel
theorem dX7_merge_18 : decode cX7_merge 18 = .ok (.dup, 1) := by decide +kernel
theorem dX7_merge_19 : decode cX7_merge 19 = .ok (.ldc 94, 2) := by decide +kernel
theorem dX7_merge_21 : decode cX7_merge 21 = .ok (.invokespecial 96, 3) := by decide +kernel
theorem dX7_merge_24 : decode cX7_merge 24 = .ok (.athrow, 1) := by decide +kernel
theorem dX7_merge_25 : decode cX7_merge 25 = .ok (.aload_n 0, 1) := by decide +kernel
theorem dX7_merge_26 : decode cX7_merge 26 = .ok (.iload_n 1, 1) := by decide +kernel
theorem dX7_merge_27 : decode cX7_merge 27 = .ok (.invokevirtual 97, 3) := by decide +kernel
theorem dX7_merge_30 : decode cX7_merge 30 = .ok (.aload_n 0, 1) := by decide +kernel
theorem dX7_merge_31 : decode cX7_merge 31 = .ok (.iload_n 2, 1) := by decide +kernel
theorem dX7_merge_32 : decode cX7_merge 32 = .ok (.invokevirtual 97, 3) := by decide +kernel
theorem dX7_merge_35 : decode cX7_merge 35 = .ok (.aload_n 0, 1) := by decide +kernel
theorem dX7_merge_36 : decode cX7_merge 36 = .ok (.getfield 11, 3) := by decide +kernel
theorem dX7_merge_39 : decode cX7_merge 39 = .ok (.iload_n 1, 1) := by decide +kernel
theorem dX7_merge_40 : decode cX7_merge 40 = .ok (.aaload, 1) := by decide +kernel
theorem dX7_merge_41 : decode cX7_merge 41 = .ok (.astore_n 3, 1) := by decide +kernel
theorem dX7_merge_42 : decode cX7_merge 42 = .ok (.aload_n 0, 1) := by decide +kernel
theorem dX7_merge_43 : decode cX7_merge 43 = .ok (.getfield 11, 3) := by decide +kernel
theorem dX7_merge_46 : decode cX7_merge 46 = .ok (.iload_n 2, 1) := by decide +kernel
theorem dX7_merge_47 : decode cX7_merge 47 = .ok (.aaload, 1) := by decide +kernel
theorem dX7_merge_48 : decode cX7_merge 48 = .ok (.astore 4, 2) := by decide +kernel
theorem dX7_merge_50 : decode cX7_merge 50 = .ok (.aload 4, 2) := by decide +kernel
theorem dX7_merge_52 : decode cX7_merge 52 = .ok (.dup, 1) := by decide +kernel
theorem dX7_merge_53 : decode cX7_merge 53 = .ok (.getfield 72, 3) := by decide +kernel
theorem dX7_merge_56 : decode cX7_merge 56 = .ok (.aload_n 3, 1) := by decide +kernel
theorem dX7_merge_57 : decode cX7_merge 57 = .ok (.getfield 72, 3) := by decide +kernel
theorem dX7_merge_60 : decode cX7_merge 60 = .ok (.iadd, 1) := by decide +kernel
theorem dX7_merge_61 : decode cX7_merge 61 = .ok (.putfield 72, 3) := by decide +kernel
theorem dX7_merge_64 : decode cX7_merge 64 = .ok (.aload_n 3, 1) := by decide +kernel
theorem dX7_merge_65 : decode cX7_merge 65 = .ok (.iconst 0, 1) := by decide +kernel
theorem dX7_merge_66 : decode cX7_merge 66 = .ok (.putfield 72, 3) := by decide +kernel
theorem dX7_merge_69 : decode cX7_merge 69 = .ok (.aload_n 3, 1) := by decide +kernel
theorem dX7_merge_70 : decode cX7_merge 70 = .ok (.iconst 1, 1) := by decide +kernel
theorem dX7_merge_71 : decode cX7_merge 71 = .ok (.putfield 100, 3) := by decide +kernel
theorem dX7_merge_74 : decode cX7_merge 74 = .ok (.aload 4, 2) := by decide +kernel
theorem dX7_merge_76 : decode cX7_merge 76 = .ok (.getfield 72, 3) := by decide +kernel
theorem dX7_merge_79 : decode cX7_merge 79 = .ok (.ireturn, 1) := by decide +kernel
theorem dX7_isOver_0 : decode cX7_isOver 0 = .ok (.aload_n 0, 1) := by decide +kernel
theorem dX7_isOver_1 : decode cX7_isOver 1 = .ok (.iload_n 1, 1) := by decide +kernel
theorem dX7_isOver_2 : decode cX7_isOver 2 = .ok (.invokevirtual 88, 3) := by decide +kernel
theorem dX7_isOver_5 : decode cX7_isOver 5 = .ok (.aload_n 0, 1) := by decide +kernel
theorem dX7_isOver_6 : decode cX7_isOver 6 = .ok (.getfield 11, 3) := by decide +kernel
theorem dX7_isOver_9 : decode cX7_isOver 9 = .ok (.iload_n 1, 1) := by decide +kernel
theorem dX7_isOver_10 : decode cX7_isOver 10 = .ok (.aaload, 1) := by decide +kernel
theorem dX7_isOver_11 : decode cX7_isOver 11 = .ok (.getfield 100, 3) := by decide +kernel
theorem dX7_isOver_14 : decode cX7_isOver 14 = .ok (.ireturn, 1) := by decide +kernel
theorem dX7_of_0 : decode cX7_of 0 = .ok (.aload_n 0, 1) := by decide +kernel
theorem dX7_of_1 : decode cX7_of 1 = .ok (.iload_n 1, 1) := by decide +kernel
theorem dX7_of_2 : decode cX7_of 2 = .ok (.invokevirtual 88, 3) := by decide +kernel
theorem dX7_of_5 : decode cX7_of 5 = .ok (.aload_n 0, 1) := by decide +kernel
theorem dX7_of_6 : decode cX7_of 6 = .ok (.getfield 11, 3) := by decide +kernel
theorem dX7_of_9 : decode cX7_of 9 = .ok (.iload_n 1, 1) := by decide +kernel
theorem dX7_of_10 : decode cX7_of 10 = .ok (.aaload, 1) := by decide +kernel
theorem dX7_of_11 : decode cX7_of 11 = .ok (.astore_n 3, 1) := by decide +kernel
theorem dX7_of_12 : decode cX7_of 12 = .ok (.iload_n 2, 1) := by decide +kernel
theorem dX7_of_13 : decode cX7_of 13 = .ok (.tableswitch 154 97 119 #[146, 154, 154, 154, 128, 141, 154, 154, 154, 154, 154, 112, 107, 154, 154, 120, 154, 154, 154, 154, 154, 154, 136], 107) := by decide +kernel
theorem dX7_of_120 : decode cX7_of 120 = .ok (.aload_n 3, 1) := by decide +kernel
theorem dX7_of_121 : decode cX7_of 121 = .ok (.getfield 72, 3) := by decide +kernel
theorem dX7_of_124 : decode cX7_of 124 = .ok (.ireturn, 1) := by decide +kernel
theorem dX7_of_125 : decode cX7_of 125 = .ok (.aload_n 3, 1) := by decide +kernel
theorem dX7_of_126 : decode cX7_of 126 = .ok (.getfield 75, 3) := by decide +kernel
theorem dX7_of_129 : decode cX7_of 129 = .ok (.getfield 104, 3) := by decide +kernel
theorem dX7_of_132 : decode cX7_of 132 = .ok (.ireturn, 1) := by decide +kernel
theorem dX7_of_133 : decode cX7_of 133 = .ok (.aload_n 3, 1) := by decide +kernel
theorem dX7_of_134 : decode cX7_of 134 = .ok (.getfield 75, 3) := by decide +kernel
theorem dX7_of_137 : decode cX7_of 137 = .ok (.getfield 107, 3) := by decide +kernel
theorem dX7_of_140 : decode cX7_of 140 = .ok (.ireturn, 1) := by decide +kernel
theorem dX7_of_141 : decode cX7_of 141 = .ok (.aload_n 3, 1) := by decide +kernel
theorem dX7_of_142 : decode cX7_of 142 = .ok (.getfield 75, 3) := by decide +kernel
theorem dX7_of_145 : decode cX7_of 145 = .ok (.getfield 110, 3) := by decide +kernel
theorem dX7_of_148 : decode cX7_of 148 = .ok (.ireturn, 1) := by decide +kernel
theorem dX7_of_149 : decode cX7_of 149 = .ok (.aload_n 3, 1) := by decide +kernel
theorem dX7_of_150 : decode cX7_of 150 = .ok (.getfield 113, 3) := by decide +kernel
theorem dX7_of_153 : decode cX7_of 153 = .ok (.ireturn, 1) := by decide +kernel
theorem dX7_of_154 : decode cX7_of 154 = .ok (.aload_n 3, 1) := by decide +kernel
theorem dX7_of_155 : decode cX7_of 155 = .ok (.getfield 116, 3) := by decide +kernel
theorem dX7_of_158 : decode cX7_of 158 = .ok (.ireturn, 1) := by decide +kernel
theorem dX7_of_159 : decode cX7_of 159 = .ok (.aload_n 3, 1) := by decide +kernel
theorem dX7_of_160 : decode cX7_of 160 = .ok (.getfield 75, 3) := by decide +kernel
theorem dX7_of_163 : decode cX7_of 163 = .ok (.invokevirtual 119, 3) := by decide +kernel
theorem dX7_of_166 : decode cX7_of 166 = .ok (.ireturn, 1) := by decide +kernel
theorem dX7_of_167 : decode cX7_of 167 = .ok (.new 92, 3) := by decide +kernel
theorem dX7_of_170 : decode cX7_of 170 = .ok (.dup, 1) := by decide +kernel
theorem dX7_of_171 : decode cX7_of 171 = .ok (.ldc 123, 2) := by decide +kernel
theorem dX7_of_173 : decode cX7_of 173 = .ok (.invokespecial 96, 3) := by decide +kernel
theorem dX7_of_176 : decode cX7_of 176 = .ok (.athrow, 1) := by decide +kernel
theorem dX7_type_0 : decode cX7_type 0 = .ok (.iload_n 1, 1) := by decide +kernel
theorem dX7_type_1 : decode cX7_type 1 = .ok (.bipush 97, 2) := by decide +kernel
theorem dX7_type_3 : decode cX7_type 3 = .ok (.if_icmp .lt 9, 3) := by decide +kernel
theorem dX7_type_6 : decode cX7_type 6 = .ok (.iload_n 1, 1) := by decide +kernel
theorem dX7_type_7 : decode cX7_type 7 = .ok (.bipush 122, 2) := by decide +kernel
theorem dX7_type_9 : decode cX7_type 9 = .ok (.if_icmp .le 13, 3) := by decide +kernel
theorem dX7_type_12 : decode cX7_type 12 = .ok (.new 92, 3) := by decide +kernel
theorem dX7_type_15 : decode cX7_type 15 = .ok (.dup, 1) := by decide +kernel
theorem dX7_type_16 : decode cX7_type 16 = .ok (.ldc 125, 2) := by decide +kernel
theorem dX7_type_18 : decode cX7_type 18 = .ok (.invokespecial 96, 3) := by decide +kernel
theorem dX7_type_21 : decode cX7_type 21 = .ok (.athrow, 1) := by decide +kernel
theorem dX7_type_22 : decode cX7_type 22 = .ok (.aload_n 0, 1) := by decide +kernel
theorem dX7_type_23 : decode cX7_type 23 = .ok (.getfield 29, 3) := by decide +kernel
theorem dX7_type_26 : decode cX7_type 26 = .ok (.getfield 127, 3) := by decide +kernel
theorem dX7_type_29 : decode cX7_type 29 = .ok (.bipush 10, 2) := by decide +kernel
theorem dX7_type_31 : decode cX7_type 31 = .ok (.if_icmp .lt 13, 3) := by decide +kernel
theorem dX7_type_34 : decode cX7_type 34 = .ok (.new 65, 3) := by decide +kernel
theorem dX7_type_37 : decode cX7_type 37 = .ok (.dup, 1) := by decide +kernel
theorem dX7_type_38 : decode cX7_type 38 = .ok (.ldc 130, 2) := by decide +kernel
theorem dX7_type_40 : decode cX7_type 40 = .ok (.invokespecial 69, 3) := by decide +kernel
theorem dX7_type_43 : decode cX7_type 43 = .ok (.athrow, 1) := by decide +kernel
theorem dX7_type_44 : decode cX7_type 44 = .ok (.aload_n 0, 1) := by decide +kernel
theorem dX7_type_45 : decode cX7_type 45 = .ok (.getfield 29, 3) := by decide +kernel
theorem dX7_type_48 : decode cX7_type 48 = .ok (.iload_n 1, 1) := by decide +kernel
theorem dX7_type_49 : decode cX7_type 49 = .ok (.invokevirtual 132, 3) := by decide +kernel
theorem dX7_type_52 : decode cX7_type 52 = .ok (.aload_n 0, 1) := by decide +kernel
theorem dX7_type_53 : decode cX7_type 53 = .ok (.getfield 29, 3) := by decide +kernel
theorem dX7_type_56 : decode cX7_type 56 = .ok (.getfield 127, 3) := by decide +kernel
theorem dX7_type_59 : decode cX7_type 59 = .ok (.ireturn, 1) := by decide +kernel
theorem dX7_wipe_0 : decode cX7_wipe 0 = .ok (.aload_n 0, 1) := by decide +kernel
theorem dX7_wipe_1 : decode cX7_wipe 1 = .ok (.getfield 29, 3) := by decide +kernel
theorem dX7_wipe_4 : decode cX7_wipe 4 = .ok (.getfield 127, 3) := by decide +kernel
theorem dX7_wipe_7 : decode cX7_wipe 7 = .ok (.istore_n 1, 1) := by decide +kernel
theorem dX7_wipe_8 : decode cX7_wipe 8 = .ok (.aload_n 0, 1) := by decide +kernel
theorem dX7_wipe_9 : decode cX7_wipe 9 = .ok (.getfield 29, 3) := by decide +kernel
theorem dX7_wipe_12 : decode cX7_wipe 12 = .ok (.iconst 0, 1) := by decide +kernel
theorem dX7_wipe_13 : decode cX7_wipe 13 = .ok (.putfield 127, 3) := by decide +kernel
theorem dX7_wipe_16 : decode cX7_wipe 16 = .ok (.iload_n 1, 1) := by decide +kernel
theorem dX7_wipe_17 : decode cX7_wipe 17 = .ok (.ireturn, 1) := by decide +kernel
theorem dX7_subject_0 : decode cX7_subject 0 = .ok (.aload_n 0, 1) := by decide +kernel
theorem dX7_subject_1 : decode cX7_subject 1 = .ok (.iload_n 1, 1) := by decide +kernel
theorem dX7_subject_2 : decode cX7_subject 2 = .ok (.invokevirtual 88, 3) := by decide +kernel
theorem dX7_subject_5 : decode cX7_subject 5 = .ok (.aload_n 0, 1) := by decide +kernel
theorem dX7_subject_6 : decode cX7_subject 6 = .ok (.invokevirtual 136, 3) := by decide +kernel
theorem dX7_subject_9 : decode cX7_subject 9 = .ok (.istore_n 2, 1) := by decide +kernel
theorem dX7_subject_10 : decode cX7_subject 10 = .ok (.aload_n 0, 1) := by decide +kernel
theorem dX7_subject_11 : decode cX7_subject 11 = .ok (.iload_n 1, 1) := by decide +kernel
theorem dX7_subject_12 : decode cX7_subject 12 = .ok (.invokevirtual 97, 3) := by decide +kernel
theorem dX7_subject_15 : decode cX7_subject 15 = .ok (.aload_n 0, 1) := by decide +kernel
theorem dX7_subject_16 : decode cX7_subject 16 = .ok (.getfield 11, 3) := by decide +kernel
theorem dX7_subject_19 : decode cX7_subject 19 = .ok (.iload_n 1, 1) := by decide +kernel
theorem dX7_subject_20 : decode cX7_subject 20 = .ok (.aaload, 1) := by decide +kernel
theorem dX7_subject_21 : decode cX7_subject 21 = .ok (.getfield 75, 3) := by decide +kernel
theorem dX7_subject_24 : decode cX7_subject 24 = .ok (.astore_n 3, 1) := by decide +kernel
theorem dX7_subject_25 : decode cX7_subject 25 = .ok (.aload_n 3, 1) := by decide +kernel
theorem dX7_subject_26 : decode cX7_subject 26 = .ok (.getfield 139, 3) := by decide +kernel
theorem dX7_subject_29 : decode cX7_subject 29 = .ok (.invokestatic 142, 3) := by decide +kernel
theorem dX7_subject_32 : decode cX7_subject 32 = .ok (.iconst 0, 1) := by decide +kernel
theorem dX7_subject_33 : decode cX7_subject 33 = .ok (.invokevirtual 146, 3) := by decide +kernel
theorem dX7_subject_36 : decode cX7_subject 36 = .ok (.istore 4, 2) := by decide +kernel
theorem dX7_subject_38 : decode cX7_subject 38 = .ok (.aload_n 3, 1) := by decide +kernel
theorem dX7_subject_39 : decode cX7_subject 39 = .ok (.iload_n 2, 1) := by decide +kernel
theorem dX7_subject_40 : decode cX7_subject 40 = .ok (.putfield 139, 3) := by decide +kernel
theorem dX7_subject_43 : decode cX7_subject 43 = .ok (.iload 4, 2) := by decide +kernel
theorem dX7_subject_45 : decode cX7_subject 45 = .ok (.ireturn, 1) := by decide +kernel
theorem dX7_strike_0 : decode cX7_strike 0 = .ok (.aload_n 0, 1) := by decide +kernel
theorem dX7_strike_1 : decode cX7_strike 1 = .ok (.invokevirtual 136, 3) := by decide +kernel
theorem dX7_strike_4 : decode cX7_strike 4 = .ok (.istore_n 2, 1) := by decide +kernel
theorem dX7_strike_5 : decode cX7_strike 5 = .ok (.aload_n 0, 1) := by decide +kernel
theorem dX7_strike_6 : decode cX7_strike 6 = .ok (.getfield 33, 3) := by decide +kernel
theorem dX7_strike_9 : decode cX7_strike 9 = .ok (.iload_n 2, 1) := by decide +kernel
theorem dX7_strike_10 : decode cX7_strike 10 = .ok (.baload, 1) := by decide +kernel
theorem dX7_strike_11 : decode cX7_strike 11 = .ok (.istore_n 3, 1) := by decide +kernel
theorem dX7_strike_12 : decode cX7_strike 12 = .ok (.aload_n 0, 1) := by decide +kernel
theorem dX7_strike_13 : decode cX7_strike 13 = .ok (.getfield 33, 3) := by decide +kernel
theorem dX7_strike_16 : decode cX7_strike 16 = .ok (.iload_n 2, 1) := by decide +kernel
theorem dX7_strike_17 : decode cX7_strike 17 = .ok (.iload_n 1, 1) := by decide +kernel
theorem dX7_strike_18 : decode cX7_strike 18 = .ok (.bastore, 1) := by decide +kernel
theorem dX7_strike_19 : decode cX7_strike 19 = .ok (.iload_n 3, 1) := by decide +kernel
theorem dX7_strike_20 : decode cX7_strike 20 = .ok (.ireturn, 1) := by decide +kernel
theorem dX7_learn_0 : decode cX7_learn 0 = .ok (.aload_n 0, 1) := by decide +kernel
theorem dX7_learn_1 : decode cX7_learn 1 = .ok (.iload_n 1, 1) := by decide +kernel
theorem dX7_learn_2 : decode cX7_learn 2 = .ok (.invokevirtual 88, 3) := by decide +kernel
theorem dX7_learn_5 : decode cX7_learn 5 = .ok (.iload_n 2, 1) := by decide +kernel
theorem dX7_learn_6 : decode cX7_learn 6 = .ok (.iconst 1, 1) := by decide +kernel
theorem dX7_learn_7 : decode cX7_learn 7 = .ok (.bipush 30, 2) := by decide +kernel
theorem dX7_learn_9 : decode cX7_learn 9 = .ok (.invokestatic 57, 3) := by decide +kernel
theorem dX7_learn_12 : decode cX7_learn 12 = .ok (.aload_n 0, 1) := by decide +kernel
theorem dX7_learn_13 : decode cX7_learn 13 = .ok (.iload_n 1, 1) := by decide +kernel
theorem dX7_learn_14 : decode cX7_learn 14 = .ok (.invokevirtual 97, 3) := by decide +kernel
theorem dX7_learn_17 : decode cX7_learn 17 = .ok (.aload_n 0, 1) := by decide +kernel
theorem dX7_learn_18 : decode cX7_learn 18 = .ok (.getfield 11, 3) := by decide +kernel
theorem dX7_learn_21 : decode cX7_learn 21 = .ok (.iload_n 1, 1) := by decide +kernel
theorem dX7_learn_22 : decode cX7_learn 22 = .ok (.aaload, 1) := by decide +kernel
theorem dX7_learn_23 : decode cX7_learn 23 = .ok (.getfield 75, 3) := by decide +kernel
theorem dX7_learn_26 : decode cX7_learn 26 = .ok (.astore_n 3, 1) := by decide +kernel
theorem dX7_learn_27 : decode cX7_learn 27 = .ok (.aload_n 3, 1) := by decide +kernel
theorem dX7_learn_28 : decode cX7_learn 28 = .ok (.bipush 100, 2) := by decide +kernel
theorem dX7_learn_30 : decode cX7_learn 30 = .ok (.aload_n 3, 1) := by decide +kernel
theorem dX7_learn_31 : decode cX7_learn 31 = .ok (.getfield 110, 3) := by decide +kernel
theorem dX7_learn_34 : decode cX7_learn 34 = .ok (.iconst 5, 1) := by decide +kernel
theorem dX7_learn_35 : decode cX7_learn 35 = .ok (.iload_n 2, 1) := by decide +kernel
theorem dX7_learn_36 : decode cX7_learn 36 = .ok (.imul, 1) := by decide +kernel
theorem dX7_learn_37 : decode cX7_learn 37 = .ok (.iadd, 1) := by decide +kernel
theorem dX7_learn_38 : decode cX7_learn 38 = .ok (.invokestatic 152, 3) := by decide +kernel
theorem dX7_learn_41 : decode cX7_learn 41 = .ok (.putfield 110, 3) := by decide +kernel
theorem dX7_learn_44 : decode cX7_learn 44 = .ok (.aload_n 3, 1) := by decide +kernel
theorem dX7_learn_45 : decode cX7_learn 45 = .ok (.getfield 110, 3) := by decide +kernel
theorem dX7_learn_48 : decode cX7_learn 48 = .ok (.ireturn, 1) := by decide +kernel
theorem dX7_cast_0 : decode cX7_cast 0 = .ok (.aload_n 0, 1) := by decide +kernel
theorem dX7_cast_1 : decode cX7_cast 1 = .ok (.iload_n 1, 1) := by decide +kernel
theorem dX7_cast_2 : decode cX7_cast 2 = .ok (.invokevirtual 88, 3) := by decide +kernel
theorem dX7_cast_5 : decode cX7_cast 5 = .ok (.aload_n 0, 1) := by decide +kernel
theorem dX7_cast_6 : decode cX7_cast 6 = .ok (.getfield 11, 3) := by decide +kernel
theorem dX7_cast_9 : decode cX7_cast 9 = .ok (.iload_n 1, 1) := by decide +kernel
theorem dX7_cast_10 : decode cX7_cast 10 = .ok (.aaload, 1) := by decide +kernel
theorem dX7_cast_11 : decode cX7_cast 11 = .ok (.getfield 75, 3) := by decide +kernel
theorem dX7_cast_14 : decode cX7_cast 14 = .ok (.astore 4, 2) := by decide +kernel
theorem dX7_cast_16 : decode cX7_cast 16 = .ok (.iload_n 2, 1) := by decide +kernel
theorem dX7_cast_17 : decode cX7_cast 17 = .ok (.ifCond .lt 12, 3) := by decide +kernel
theorem dX7_cast_20 : decode cX7_cast 20 = .ok (.iload_n 2, 1) := by decide +kernel
theorem dX7_cast_21 : decode cX7_cast 21 = .ok (.aload 4, 2) := by decide +kernel
theorem dX7_cast_23 : decode cX7_cast 23 = .ok (.getfield 107, 3) := by decide +kernel
theorem dX7_cast_26 : decode cX7_cast 26 = .ok (.if_icmp .lt 13, 3) := by decide +kernel
theorem dX7_cast_29 : decode cX7_cast 29 = .ok (.new 158, 3) := by decide +kernel
theorem dX7_cast_32 : decode cX7_cast 32 = .ok (.dup, 1) := by decide +kernel
theorem dX7_cast_33 : decode cX7_cast 33 = .ok (.ldc 160, 2) := by decide +kernel
theorem dX7_cast_35 : decode cX7_cast 35 = .ok (.invokespecial 162, 3) := by decide +kernel
theorem dX7_cast_38 : decode cX7_cast 38 = .ok (.athrow, 1) := by decide +kernel
theorem dX7_cast_39 : decode cX7_cast 39 = .ok (.iload_n 3, 1) := by decide +kernel
theorem dX7_cast_40 : decode cX7_cast 40 = .ok (.iconst (-1), 1) := by decide +kernel
theorem dX7_cast_41 : decode cX7_cast 41 = .ok (.bipush 19, 2) := by decide +kernel
theorem dX7_cast_43 : decode cX7_cast 43 = .ok (.invokestatic 57, 3) := by decide +kernel
theorem dX7_cast_46 : decode cX7_cast 46 = .ok (.aload 4, 2) := by decide +kernel
theorem dX7_cast_48 : decode cX7_cast 48 = .ok (.getfield 163, 3) := by decide +kernel
theorem dX7_cast_51 : decode cX7_cast 51 = .ok (.iload_n 2, 1) := by decide +kernel
theorem dX7_cast_52 : decode cX7_cast 52 = .ok (.iaload, 1) := by decide +kernel
theorem dX7_cast_53 : decode cX7_cast 53 = .ok (.istore 5, 2) := by decide +kernel
theorem dX7_cast_55 : decode cX7_cast 55 = .ok (.aload 4, 2) := by decide +kernel
theorem dX7_cast_57 : decode cX7_cast 57 = .ok (.getfield 163, 3) := by decide +kernel
theorem dX7_cast_60 : decode cX7_cast 60 = .ok (.iload_n 2, 1) := by decide +kernel
theorem dX7_cast_61 : decode cX7_cast 61 = .ok (.iload_n 3, 1) := by decide +kernel
theorem dX7_cast_62 : decode cX7_cast 62 = .ok (.iastore, 1) := by decide +kernel
theorem dX7_cast_63 : decode cX7_cast 63 = .ok (.iload 5, 2) := by decide +kernel
theorem dX7_cast_65 : decode cX7_cast 65 = .ok (.ireturn, 1) := by decide +kernel
theorem dX7_wagon_0 : decode cX7_wagon 0 = .ok (.aload_n 0, 1) := by decide +kernel
theorem dX7_wagon_1 : decode cX7_wagon 1 = .ok (.iload_n 1, 1) := by decide +kernel
theorem dX7_wagon_2 : decode cX7_wagon 2 = .ok (.invokevirtual 88, 3) := by decide +kernel
theorem dX7_wagon_5 : decode cX7_wagon 5 = .ok (.iload_n 2, 1) := by decide +kernel
theorem dX7_wagon_6 : decode cX7_wagon 6 = .ok (.iconst 1, 1) := by decide +kernel
theorem dX7_wagon_7 : decode cX7_wagon 7 = .ok (.bipush 9, 2) := by decide +kernel
theorem dX7_wagon_9 : decode cX7_wagon 9 = .ok (.invokestatic 57, 3) := by decide +kernel
theorem dX7_wagon_12 : decode cX7_wagon 12 = .ok (.iload_n 3, 1) := by decide +kernel
theorem dX7_wagon_13 : decode cX7_wagon 13 = .ok (.iconst 0, 1) := by decide +kernel
theorem dX7_wagon_14 : decode cX7_wagon 14 = .ok (.bipush 9, 2) := by decide +kernel
theorem dX7_wagon_16 : decode cX7_wagon 16 = .ok (.invokestatic 57, 3) := by decide +kernel
theorem dX7_wagon_19 : decode cX7_wagon 19 = .ok (.aload_n 0, 1) := by decide +kernel
theorem dX7_wagon_20 : decode cX7_wagon 20 = .ok (.getfield 11, 3) := by decide +kernel
theorem dX7_wagon_23 : decode cX7_wagon 23 = .ok (.iload_n 1, 1) := by decide +kernel
theorem dX7_wagon_24 : decode cX7_wagon 24 = .ok (.aaload, 1) := by decide +kernel
theorem dX7_wagon_25 : decode cX7_wagon 25 = .ok (.astore 4, 2) := by decide +kernel
theorem dX7_wagon_27 : decode cX7_wagon 27 = .ok (.aload 4, 2) := by decide +kernel
theorem dX7_wagon_29 : decode cX7_wagon 29 = .ok (.getfield 166, 3) := by decide +kernel
theorem dX7_wagon_32 : decode cX7_wagon 32 = .ok (.istore 5, 2) := by decide +kernel
theorem dX7_wagon_34 : decode cX7_wagon 34 = .ok (.aload 4, 2) := by decide +kernel
theorem dX7_wagon_36 : decode cX7_wagon 36 = .ok (.iload_n 2, 1) := by decide +kernel
theorem dX7_wagon_37 : decode cX7_wagon 37 = .ok (.putfield 166, 3) := by decide +kernel
theorem dX7_wagon_40 : decode cX7_wagon 40 = .ok (.aload 4, 2) := by decide +kernel
theorem dX7_wagon_42 : decode cX7_wagon 42 = .ok (.iload_n 3, 1) := by decide +kernel
theorem dX7_wagon_43 : decode cX7_wagon 43 = .ok (.putfield 169, 3) := by decide +kernel
theorem dX7_wagon_46 : decode cX7_wagon 46 = .ok (.iload 5, 2) := by decide +kernel
theorem dX7_wagon_48 : decode cX7_wagon 48 = .ok (.ireturn, 1) := by decide +kernel
theorem dX7_mend_0 : decode cX7_mend 0 = .ok (.aload_n 0, 1) := by decide +kernel
theorem dX7_mend_1 : decode cX7_mend 1 = .ok (.iload_n 1, 1) := by decide +kernel
theorem dX7_mend_2 : decode cX7_mend 2 = .ok (.invokevirtual 88, 3) := by decide +kernel
theorem dX7_mend_5 : decode cX7_mend 5 = .ok (.iload_n 2, 1) := by decide +kernel
theorem dX7_mend_6 : decode cX7_mend 6 = .ok (.iconst 1, 1) := by decide +kernel
theorem dX7_mend_7 : decode cX7_mend 7 = .ok (.bipush 9, 2) := by decide +kernel
theorem dX7_mend_9 : decode cX7_mend 9 = .ok (.invokestatic 57, 3) := by decide +kernel
theorem dX7_mend_12 : decode cX7_mend 12 = .ok (.aload_n 0, 1) := by decide +kernel
theorem dX7_mend_13 : decode cX7_mend 13 = .ok (.iload_n 1, 1) := by decide +kernel
theorem dX7_mend_14 : decode cX7_mend 14 = .ok (.invokevirtual 97, 3) := by decide +kernel
theorem dX7_mend_17 : decode cX7_mend 17 = .ok (.aload_n 0, 1) := by decide +kernel
theorem dX7_mend_18 : decode cX7_mend 18 = .ok (.getfield 11, 3) := by decide +kernel
theorem dX7_mend_21 : decode cX7_mend 21 = .ok (.iload_n 1, 1) := by decide +kernel
theorem dX7_mend_22 : decode cX7_mend 22 = .ok (.aaload, 1) := by decide +kernel
theorem dX7_mend_23 : decode cX7_mend 23 = .ok (.astore_n 3, 1) := by decide +kernel
theorem dX7_mend_24 : decode cX7_mend 24 = .ok (.aload_n 3, 1) := by decide +kernel
theorem dX7_mend_25 : decode cX7_mend 25 = .ok (.getfield 113, 3) := by decide +kernel
theorem dX7_mend_28 : decode cX7_mend 28 = .ok (.iload_n 2, 1) := by decide +kernel
theorem dX7_mend_29 : decode cX7_mend 29 = .ok (.iadd, 1) := by decide +kernel
theorem dX7_mend_30 : decode cX7_mend 30 = .ok (.bipush 9, 2) := by decide +kernel
theorem dX7_mend_32 : decode cX7_mend 32 = .ok (.if_icmp .le 13, 3) := by decide +kernel
theorem dX7_mend_35 : decode cX7_mend 35 = .ok (.new 172, 3) := by decide +kernel
theorem dX7_mend_38 : decode cX7_mend 38 = .ok (.dup, 1) := by decide +kernel
theorem dX7_mend_39 : decode cX7_mend 39 = .ok (.ldc 174, 2) := by decide +kernel
theorem dX7_mend_41 : decode cX7_mend 41 = .ok (.invokespecial 176, 3) := by decide +kernel
theorem dX7_mend_44 : decode cX7_mend 44 = .ok (.athrow, 1) := by decide +kernel
theorem dX7_mend_45 : decode cX7_mend 45 = .ok (.aload_n 3, 1) := by decide +kernel
theorem dX7_mend_46 : decode cX7_mend 46 = .ok (.dup, 1) := by decide +kernel
theorem dX7_mend_47 : decode cX7_mend 47 = .ok (.getfield 113, 3) := by decide +kernel
theorem dX7_mend_50 : decode cX7_mend 50 = .ok (.iload_n 2, 1) := by decide +kernel
theorem dX7_mend_51 : decode cX7_mend 51 = .ok (.iadd, 1) := by decide +kernel
theorem dX7_mend_52 : decode cX7_mend 52 = .ok (.putfield 113, 3) := by decide +kernel
theorem dX7_mend_55 : decode cX7_mend 55 = .ok (.aload_n 0, 1) := by decide +kernel
theorem dX7_mend_56 : decode cX7_mend 56 = .ok (.aload_n 3, 1) := by decide +kernel
theorem dX7_mend_57 : decode cX7_mend 57 = .ok (.iconst 2, 1) := by decide +kernel
theorem dX7_mend_58 : decode cX7_mend 58 = .ok (.iload_n 2, 1) := by decide +kernel
theorem dX7_mend_59 : decode cX7_mend 59 = .ok (.imul, 1) := by decide +kernel
theorem dX7_mend_60 : decode cX7_mend 60 = .ok (.invokevirtual 177, 3) := by decide +kernel
theorem dX7_mend_63 : decode cX7_mend 63 = .ok (.aload_n 3, 1) := by decide +kernel
theorem dX7_mend_64 : decode cX7_mend 64 = .ok (.getfield 113, 3) := by decide +kernel
theorem dX7_mend_67 : decode cX7_mend 67 = .ok (.ireturn, 1) := by decide +kernel
theorem dX7_put_0 : decode cX7_put 0 = .ok (.aload_n 0, 1) := by decide +kernel
theorem dX7_put_1 : decode cX7_put 1 = .ok (.iload_n 1, 1) := by decide +kernel
theorem dX7_put_2 : decode cX7_put 2 = .ok (.invokevirtual 88, 3) := by decide +kernel
theorem dX7_put_5 : decode cX7_put 5 = .ok (.iload_n 2, 1) := by decide +kernel
theorem dX7_put_6 : decode cX7_put 6 = .ok (.iconst 0, 1) := by decide +kernel
theorem dX7_put_7 : decode cX7_put 7 = .ok (.aload_n 0, 1) := by decide +kernel
theorem dX7_put_8 : decode cX7_put 8 = .ok (.getfield 61, 3) := by decide +kernel
theorem dX7_put_11 : decode cX7_put 11 = .ok (.iconst 1, 1) := by decide +kernel
theorem dX7_put_12 : decode cX7_put 12 = .ok (.isub, 1) := by decide +kernel
theorem dX7_put_13 : decode cX7_put 13 = .ok (.invokestatic 57, 3) := by decide +kernel
theorem dX7_put_16 : decode cX7_put 16 = .ok (.aload_n 0, 1) := by decide +kernel
theorem dX7_put_17 : decode cX7_put 17 = .ok (.iload_n 1, 1) := by decide +kernel
theorem dX7_put_18 : decode cX7_put 18 = .ok (.invokevirtual 213, 3) := by decide +kernel
theorem dX7_put_21 : decode cX7_put 21 = .ok (.istore_n 3, 1) := by decide +kernel
theorem dX7_put_22 : decode cX7_put 22 = .ok (.iload_n 3, 1) := by decide +kernel
theorem dX7_put_23 : decode cX7_put 23 = .ok (.istore 4, 2) := by decide +kernel
theorem dX7_put_25 : decode cX7_put 25 = .ok (.iload 4, 2) := by decide +kernel
theorem dX7_put_27 : decode cX7_put 27 = .ok (.iload_n 2, 1) := by decide +kernel
theorem dX7_put_28 : decode cX7_put 28 = .ok (.if_icmp .ge 25, 3) := by decide +kernel
theorem dX7_put_31 : decode cX7_put 31 = .ok (.aload_n 0, 1) := by decide +kernel
theorem dX7_put_32 : decode cX7_put 32 = .ok (.getfield 15, 3) := by decide +kernel
theorem dX7_put_35 : decode cX7_put 35 = .ok (.iload 4, 2) := by decide +kernel
theorem dX7_put_37 : decode cX7_put 37 = .ok (.aload_n 0, 1) := by decide +kernel
theorem dX7_put_38 : decode cX7_put 38 = .ok (.getfield 15, 3) := by decide +kernel
theorem dX7_put_41 : decode cX7_put 41 = .ok (.iload 4, 2) := by decide +kernel
theorem dX7_put_43 : decode cX7_put 43 = .ok (.iconst 1, 1) := by decide +kernel
theorem dX7_put_44 : decode cX7_put 44 = .ok (.iadd, 1) := by decide +kernel
theorem dX7_put_45 : decode cX7_put 45 = .ok (.iaload, 1) := by decide +kernel
theorem dX7_put_46 : decode cX7_put 46 = .ok (.iastore, 1) := by decide +kernel
theorem dX7_put_47 : decode cX7_put 47 = .ok (.iinc 4 1, 3) := by decide +kernel
theorem dX7_put_50 : decode cX7_put 50 = .ok (.goto (-25), 3) := by decide +kernel
theorem dX7_put_53 : decode cX7_put 53 = .ok (.iload_n 3, 1) := by decide +kernel
theorem dX7_put_54 : decode cX7_put 54 = .ok (.istore 4, 2) := by decide +kernel
theorem dX7_put_56 : decode cX7_put 56 = .ok (.iload 4, 2) := by decide +kernel
theorem dX7_put_58 : decode cX7_put 58 = .ok (.iload_n 2, 1) := by decide +kernel
theorem dX7_put_59 : decode cX7_put 59 = .ok (.if_icmp .le 25, 3) := by decide +kernel
theorem dX7_put_62 : decode cX7_put 62 = .ok (.aload_n 0, 1) := by decide +kernel
theorem dX7_put_63 : decode cX7_put 63 = .ok (.getfield 15, 3) := by decide +kernel
theorem dX7_put_66 : decode cX7_put 66 = .ok (.iload 4, 2) := by decide +kernel
theorem dX7_put_68 : decode cX7_put 68 = .ok (.aload_n 0, 1) := by decide +kernel
theorem dX7_put_69 : decode cX7_put 69 = .ok (.getfield 15, 3) := by decide +kernel
theorem dX7_put_72 : decode cX7_put 72 = .ok (.iload 4, 2) := by decide +kernel
theorem dX7_put_74 : decode cX7_put 74 = .ok (.iconst 1, 1) := by decide +kernel
theorem dX7_put_75 : decode cX7_put 75 = .ok (.isub, 1) := by decide +kernel
theorem dX7_put_76 : decode cX7_put 76 = .ok (.iaload, 1) := by decide +kernel
theorem dX7_put_77 : decode cX7_put 77 = .ok (.iastore, 1) := by decide +kernel
theorem dX7_put_78 : decode cX7_put 78 = .ok (.iinc 4 (-1), 3) := by decide +kernel
theorem dX7_put_81 : decode cX7_put 81 = .ok (.goto (-25), 3) := by decide +kernel
theorem dX7_put_84 : decode cX7_put 84 = .ok (.aload_n 0, 1) := by decide +kernel
theorem dX7_put_85 : decode cX7_put 85 = .ok (.getfield 15, 3) := by decide +kernel
theorem dX7_put_88 : decode cX7_put 88 = .ok (.iload_n 2, 1) := by decide +kernel
theorem dX7_put_89 : decode cX7_put 89 = .ok (.iload_n 1, 1) := by decide +kernel
theorem dX7_put_90 : decode cX7_put 90 = .ok (.iastore, 1) := by decide +kernel
theorem dX7_put_91 : decode cX7_put 91 = .ok (.iload_n 3, 1) := by decide +kernel
theorem dX7_put_92 : decode cX7_put 92 = .ok (.ireturn, 1) := by decide +kernel
theorem dX7_place_0 : decode cX7_place 0 = .ok (.aload_n 0, 1) := by decide +kernel
theorem dX7_place_1 : decode cX7_place 1 = .ok (.iload_n 1, 1) := by decide +kernel
theorem dX7_place_2 : decode cX7_place 2 = .ok (.invokevirtual 88, 3) := by decide +kernel
theorem dX7_place_5 : decode cX7_place 5 = .ok (.aload_n 0, 1) := by decide +kernel
theorem dX7_place_6 : decode cX7_place 6 = .ok (.iload_n 1, 1) := by decide +kernel
theorem dX7_place_7 : decode cX7_place 7 = .ok (.invokevirtual 213, 3) := by decide +kernel
theorem dX7_place_10 : decode cX7_place 10 = .ok (.ireturn, 1) := by decide +kernel
theorem dX7_add_0 : decode cX7_add 0 = .ok (.aload_n 0, 1) := by decide +kernel
theorem dX7_add_1 : decode cX7_add 1 = .ok (.iload_n 1, 1) := by decide +kernel
theorem dX7_add_2 : decode cX7_add 2 = .ok (.invokevirtual 88, 3) := by decide +kernel
theorem dX7_add_5 : decode cX7_add 5 = .ok (.iload_n 2, 1) := by decide +kernel
theorem dX7_add_6 : decode cX7_add 6 = .ok (.iconst 1, 1) := by decide +kernel
theorem dX7_add_7 : decode cX7_add 7 = .ok (.bipush 99, 2) := by decide +kernel
theorem dX7_add_9 : decode cX7_add 9 = .ok (.invokestatic 57, 3) := by decide +kernel
theorem dX7_add_12 : decode cX7_add 12 = .ok (.aload_n 0, 1) := by decide +kernel
theorem dX7_add_13 : decode cX7_add 13 = .ok (.iload_n 1, 1) := by decide +kernel
theorem dX7_add_14 : decode cX7_add 14 = .ok (.invokevirtual 97, 3) := by decide +kernel
theorem dX7_add_17 : decode cX7_add 17 = .ok (.aload_n 0, 1) := by decide +kernel
theorem dX7_add_18 : decode cX7_add 18 = .ok (.getfield 11, 3) := by decide +kernel
theorem dX7_add_21 : decode cX7_add 21 = .ok (.iload_n 1, 1) := by decide +kernel
theorem dX7_add_22 : decode cX7_add 22 = .ok (.aaload, 1) := by decide +kernel
theorem dX7_add_23 : decode cX7_add 23 = .ok (.getfield 75, 3) := by decide +kernel
theorem dX7_add_26 : decode cX7_add 26 = .ok (.astore_n 3, 1) := by decide +kernel
theorem dX7_add_27 : decode cX7_add 27 = .ok (.aload_n 3, 1) := by decide +kernel
theorem dX7_add_28 : decode cX7_add 28 = .ok (.getfield 104, 3) := by decide +kernel
theorem dX7_add_31 : decode cX7_add 31 = .ok (.iload_n 2, 1) := by decide +kernel
theorem dX7_add_32 : decode cX7_add 32 = .ok (.iadd, 1) := by decide +kernel
theorem dX7_add_33 : decode cX7_add 33 = .ok (.sipush 600, 3) := by decide +kernel
theorem dX7_add_36 : decode cX7_add 36 = .ok (.if_icmp .le 13, 3) := by decide +kernel
theorem dX7_add_39 : decode cX7_add 39 = .ok (.new 172, 3) := by decide +kernel
theorem dX7_add_42 : decode cX7_add 42 = .ok (.dup, 1) := by decide +kernel
theorem dX7_add_43 : decode cX7_add 43 = .ok (.ldc 220, 2) := by decide +kernel
theorem dX7_add_45 : decode cX7_add 45 = .ok (.invokespecial 176, 3) := by decide +kernel
theorem dX7_add_48 : decode cX7_add 48 = .ok (.athrow, 1) := by decide +kernel
theorem dX7_add_49 : decode cX7_add 49 = .ok (.aload_n 3, 1) := by decide +kernel
theorem dX7_add_50 : decode cX7_add 50 = .ok (.dup, 1) := by decide +kernel
theorem dX7_add_51 : decode cX7_add 51 = .ok (.getfield 104, 3) := by decide +kernel
theorem dX7_add_54 : decode cX7_add 54 = .ok (.iload_n 2, 1) := by decide +kernel
theorem dX7_add_55 : decode cX7_add 55 = .ok (.iadd, 1) := by decide +kernel
theorem dX7_add_56 : decode cX7_add 56 = .ok (.putfield 104, 3) := by decide +kernel
theorem dX7_add_59 : decode cX7_add 59 = .ok (.aload_n 3, 1) := by decide +kernel
theorem dX7_add_60 : decode cX7_add 60 = .ok (.invokevirtual 119, 3) := by decide +kernel
theorem dX7_add_63 : decode cX7_add 63 = .ok (.ireturn, 1) := by decide +kernel
theorem dX7_day_0 : decode cX7_day 0 = .ok (.aload_n 0, 1) := by decide +kernel
theorem dX7_day_1 : decode cX7_day 1 = .ok (.invokevirtual 222, 3) := by decide +kernel
theorem dX7_day_4 : decode cX7_day 4 = .ok (.aload_n 0, 1) := by decide +kernel
theorem dX7_day_5 : decode cX7_day 5 = .ok (.getfield 225, 3) := by decide +kernel
theorem dX7_day_8 : decode cX7_day 8 = .ok (.ifCond .eq 13, 3) := by decide +kernel
theorem dX7_day_11 : decode cX7_day 11 = .ok (.new 65, 3) := by decide +kernel
theorem dX7_day_14 : decode cX7_day 14 = .ok (.dup, 1) := by decide +kernel
theorem dX7_day_15 : decode cX7_day 15 = .ok (.ldc 228, 2) := by decide +kernel
theorem dX7_day_17 : decode cX7_day 17 = .ok (.invokespecial 69, 3) := by decide +kernel
theorem dX7_day_20 : decode cX7_day 20 = .ok (.athrow, 1) := by decide +kernel
theorem dX7_day_21 : decode cX7_day 21 = .ok (.aload_n 0, 1) := by decide +kernel
theorem dX7_day_22 : decode cX7_day 22 = .ok (.aload_n 0, 1) := by decide +kernel
theorem dX7_day_23 : decode cX7_day 23 = .ok (.getfield 43, 3) := by decide +kernel
theorem dX7_day_26 : decode cX7_day 26 = .ok (.aload_n 0, 1) := by decide +kernel
theorem dX7_day_27 : decode cX7_day 27 = .ok (.getfield 15, 3) := by decide +kernel
theorem dX7_day_30 : decode cX7_day 30 = .ok (.aload_n 0, 1) := by decide +kernel
theorem dX7_day_31 : decode cX7_day 31 = .ok (.getfield 61, 3) := by decide +kernel
theorem dX7_day_34 : decode cX7_day 34 = .ok (.invokevirtual 230, 3) := by decide +kernel
theorem dX7_day_37 : decode cX7_day 37 = .ok (.aload_n 0, 1) := by decide +kernel
theorem dX7_day_38 : decode cX7_day 38 = .ok (.iconst 1, 1) := by decide +kernel
theorem dX7_day_39 : decode cX7_day 39 = .ok (.putfield 225, 3) := by decide +kernel
theorem dX7_day_42 : decode cX7_day 42 = .ok (.iconst 0, 1) := by decide +kernel
theorem dX7_day_43 : decode cX7_day 43 = .ok (.istore_n 1, 1) := by decide +kernel
theorem dX7_day_44 : decode cX7_day 44 = .ok (.iload_n 1, 1) := by decide +kernel
theorem dX7_day_45 : decode cX7_day 45 = .ok (.aload_n 0, 1) := by decide +kernel
theorem dX7_day_46 : decode cX7_day 46 = .ok (.getfield 43, 3) := by decide +kernel
theorem dX7_day_49 : decode cX7_day 49 = .ok (.getfield 234, 3) := by decide +kernel
theorem dX7_day_52 : decode cX7_day 52 = .ok (.if_icmp .ge 22, 3) := by decide +kernel
theorem dX7_day_55 : decode cX7_day 55 = .ok (.aload_n 0, 1) := by decide +kernel
theorem dX7_day_56 : decode cX7_day 56 = .ok (.aload_n 0, 1) := by decide +kernel
theorem dX7_day_57 : decode cX7_day 57 = .ok (.getfield 43, 3) := by decide +kernel
theorem dX7_day_60 : decode cX7_day 60 = .ok (.getfield 235, 3) := by decide +kernel
theorem dX7_day_63 : decode cX7_day 63 = .ok (.iload_n 1, 1) := by decide +kernel
theorem dX7_day_64 : decode cX7_day 64 = .ok (.aaload, 1) := by decide +kernel
theorem dX7_day_65 : decode cX7_day 65 = .ok (.invokevirtual 239, 3) := by decide +kernel
theorem dX7_day_68 : decode cX7_day 68 = .ok (.iinc 1 1, 3) := by decide +kernel
theorem dX7_day_71 : decode cX7_day 71 = .ok (.goto (-27), 3) := by decide +kernel
theorem dX7_day_74 : decode cX7_day 74 = .ok (.aload_n 0, 1) := by decide +kernel
theorem dX7_day_75 : decode cX7_day 75 = .ok (.invokevirtual 243, 3) := by decide +kernel
theorem dX7_day_78 : decode cX7_day 78 = .ok (.aload_n 0, 1) := by decide +kernel
theorem dX7_day_79 : decode cX7_day 79 = .ok (.getfield 43, 3) := by decide +kernel
theorem dX7_day_82 : decode cX7_day 82 = .ok (.invokevirtual 246, 3) := by decide +kernel
theorem dX7_day_85 : decode cX7_day 85 = .ok (.ireturn, 1) := by decide +kernel
theorem dX7_end_0 : decode cX7_end 0 = .ok (.aload_n 0, 1) := by decide +kernel
theorem dX7_end_1 : decode cX7_end 1 = .ok (.invokevirtual 281, 3) := by decide +kernel
theorem dX7_end_4 : decode cX7_end 4 = .ok (.aload_n 0, 1) := by decide +kernel
theorem dX7_end_5 : decode cX7_end 5 = .ok (.getfield 43, 3) := by decide +kernel
theorem dX7_end_8 : decode cX7_end 8 = .ok (.invokevirtual 284, 3) := by decide +kernel
theorem dX7_end_11 : decode cX7_end 11 = .ok (.ireturn, 1) := by decide +kernel
theorem dX7_foresee_0 : decode cX7_foresee 0 = .ok (.aload_n 0, 1) := by decide +kernel
theorem dX7_foresee_1 : decode cX7_foresee 1 = .ok (.invokevirtual 222, 3) := by decide +kernel
theorem dX7_foresee_4 : decode cX7_foresee 4 = .ok (.aload_n 0, 1) := by decide +kernel
theorem dX7_foresee_5 : decode cX7_foresee 5 = .ok (.aload_n 0, 1) := by decide +kernel
theorem dX7_foresee_6 : decode cX7_foresee 6 = .ok (.getfield 47, 3) := by decide +kernel
theorem dX7_foresee_9 : decode cX7_foresee 9 = .ok (.aload_n 0, 1) := by decide +kernel
theorem dX7_foresee_10 : decode cX7_foresee 10 = .ok (.getfield 15, 3) := by decide +kernel
theorem dX7_foresee_13 : decode cX7_foresee 13 = .ok (.aload_n 0, 1) := by decide +kernel
theorem dX7_foresee_14 : decode cX7_foresee 14 = .ok (.getfield 61, 3) := by decide +kernel
theorem dX7_foresee_17 : decode cX7_foresee 17 = .ok (.invokevirtual 230, 3) := by decide +kernel
theorem dX7_foresee_20 : decode cX7_foresee 20 = .ok (.aload_n 0, 1) := by decide +kernel
theorem dX7_foresee_21 : decode cX7_foresee 21 = .ok (.getfield 47, 3) := by decide +kernel
theorem dX7_foresee_24 : decode cX7_foresee 24 = .ok (.invokevirtual 284, 3) := by decide +kernel
theorem dX7_foresee_27 : decode cX7_foresee 27 = .ok (.ireturn, 1) := by decide +kernel
theorem dX7_lose_0 : decode cX7_lose 0 = .ok (.aload_n 0, 1) := by decide +kernel
theorem dX7_lose_1 : decode cX7_lose 1 = .ok (.iload_n 1, 1) := by decide +kernel
theorem dX7_lose_2 : decode cX7_lose 2 = .ok (.invokevirtual 88, 3) := by decide +kernel
theorem dX7_lose_5 : decode cX7_lose 5 = .ok (.aload_n 0, 1) := by decide +kernel
theorem dX7_lose_6 : decode cX7_lose 6 = .ok (.getfield 11, 3) := by decide +kernel
theorem dX7_lose_9 : decode cX7_lose 9 = .ok (.iload_n 1, 1) := by decide +kernel
theorem dX7_lose_10 : decode cX7_lose 10 = .ok (.aaload, 1) := by decide +kernel
theorem dX7_lose_11 : decode cX7_lose 11 = .ok (.getfield 75, 3) := by decide +kernel
theorem dX7_lose_14 : decode cX7_lose 14 = .ok (.astore_n 3, 1) := by decide +kernel
theorem dX7_lose_15 : decode cX7_lose 15 = .ok (.iload_n 2, 1) := by decide +kernel
theorem dX7_lose_16 : decode cX7_lose 16 = .ok (.iconst 0, 1) := by decide +kernel
theorem dX7_lose_17 : decode cX7_lose 17 = .ok (.aload_n 3, 1) := by decide +kernel
theorem dX7_lose_18 : decode cX7_lose 18 = .ok (.invokevirtual 304, 3) := by decide +kernel
theorem dX7_lose_21 : decode cX7_lose 21 = .ok (.iconst 1, 1) := by decide +kernel
theorem dX7_lose_22 : decode cX7_lose 22 = .ok (.isub, 1) := by decide +kernel
theorem dX7_lose_23 : decode cX7_lose 23 = .ok (.invokestatic 57, 3) := by decide +kernel
theorem dX7_lose_26 : decode cX7_lose 26 = .ok (.aload_n 3, 1) := by decide +kernel
theorem dX7_lose_27 : decode cX7_lose 27 = .ok (.getfield 307, 3) := by decide +kernel
theorem dX7_lose_30 : decode cX7_lose 30 = .ok (.iload_n 2, 1) := by decide +kernel
theorem dX7_lose_31 : decode cX7_lose 31 = .ok (.baload, 1) := by decide +kernel
theorem dX7_lose_32 : decode cX7_lose 32 = .ok (.ifCond .ne 7, 3) := by decide +kernel
theorem dX7_lose_35 : decode cX7_lose 35 = .ok (.iconst 1, 1) := by decide +kernel
theorem dX7_lose_36 : decode cX7_lose 36 = .ok (.goto 4, 3) := by decide +kernel
theorem dX7_lose_39 : decode cX7_lose 39 = .ok (.iconst 0, 1) := by decide +kernel
theorem dX7_lose_40 : decode cX7_lose 40 = .ok (.istore 4, 2) := by decide +kernel
theorem dX7_lose_42 : decode cX7_lose 42 = .ok (.aload_n 3, 1) := by decide +kernel
theorem dX7_lose_43 : decode cX7_lose 43 = .ok (.getfield 307, 3) := by decide +kernel
theorem dX7_lose_46 : decode cX7_lose 46 = .ok (.iload_n 2, 1) := by decide +kernel
theorem dX7_lose_47 : decode cX7_lose 47 = .ok (.iconst 1, 1) := by decide +kernel
theorem dX7_lose_48 : decode cX7_lose 48 = .ok (.bastore, 1) := by decide +kernel
theorem dX7_lose_49 : decode cX7_lose 49 = .ok (.iload 4, 2) := by decide +kernel
theorem dX7_lose_51 : decode cX7_lose 51 = .ok (.ireturn, 1) := by decide +kernel
theorem dX7_leaves_0 : decode cX7_leaves 0 = .ok (.aload_n 0, 1) := by decide +kernel
theorem dX7_leaves_1 : decode cX7_leaves 1 = .ok (.iload_n 1, 1) := by decide +kernel
theorem dX7_leaves_2 : decode cX7_leaves 2 = .ok (.invokevirtual 88, 3) := by decide +kernel
theorem dX7_leaves_5 : decode cX7_leaves 5 = .ok (.aload_n 0, 1) := by decide +kernel
theorem dX7_leaves_6 : decode cX7_leaves 6 = .ok (.getfield 11, 3) := by decide +kernel
theorem dX7_leaves_9 : decode cX7_leaves 9 = .ok (.iload_n 1, 1) := by decide +kernel
theorem dX7_leaves_10 : decode cX7_leaves 10 = .ok (.aaload, 1) := by decide +kernel
theorem dX7_leaves_11 : decode cX7_leaves 11 = .ok (.getfield 75, 3) := by decide +kernel
theorem dX7_leaves_14 : decode cX7_leaves 14 = .ok (.invokevirtual 304, 3) := by decide +kernel
theorem dX7_leaves_17 : decode cX7_leaves 17 = .ok (.ireturn, 1) := by decide +kernel
theorem dX7_known_0 : decode cX7_known 0 = .ok (.aload_n 0, 1) := by decide +kernel
theorem dX7_known_1 : decode cX7_known 1 = .ok (.iload_n 1, 1) := by decide +kernel
theorem dX7_known_2 : decode cX7_known 2 = .ok (.invokevirtual 88, 3) := by decide +kernel
theorem dX7_known_5 : decode cX7_known 5 = .ok (.aload_n 0, 1) := by decide +kernel
theorem dX7_known_6 : decode cX7_known 6 = .ok (.getfield 11, 3) := by decide +kernel
theorem dX7_known_9 : decode cX7_known 9 = .ok (.iload_n 1, 1) := by decide +kernel
theorem dX7_known_10 : decode cX7_known 10 = .ok (.aaload, 1) := by decide +kernel
theorem dX7_known_11 : decode cX7_known 11 = .ok (.getfield 75, 3) := by decide +kernel
theorem dX7_known_14 : decode cX7_known 14 = .ok (.invokevirtual 310, 3) := by decide +kernel
theorem dX7_known_17 : decode cX7_known 17 = .ok (.ireturn, 1) := by decide +kernel
theorem dX7_callIn_0 : decode cX7_callIn 0 = .ok (.iconst 0, 1) := by decide +kernel
theorem dX7_callIn_1 : decode cX7_callIn 1 = .ok (.istore_n 1, 1) := by decide +kernel
theorem dX7_callIn_2 : decode cX7_callIn 2 = .ok (.iconst 0, 1) := by decide +kernel
theorem dX7_callIn_3 : decode cX7_callIn 3 = .ok (.istore_n 2, 1) := by decide +kernel
theorem dX7_callIn_4 : decode cX7_callIn 4 = .ok (.iload_n 2, 1) := by decide +kernel
theorem dX7_callIn_5 : decode cX7_callIn 5 = .ok (.aload_n 0, 1) := by decide +kernel
theorem dX7_callIn_6 : decode cX7_callIn 6 = .ok (.getfield 61, 3) := by decide +kernel
theorem dX7_callIn_9 : decode cX7_callIn 9 = .ok (.if_icmp .ge 36, 3) := by decide +kernel
theorem dX7_callIn_12 : decode cX7_callIn 12 = .ok (.iload_n 1, 1) := by decide +kernel
theorem dX7_callIn_13 : decode cX7_callIn 13 = .ok (.aload_n 0, 1) := by decide +kernel
theorem dX7_callIn_14 : decode cX7_callIn 14 = .ok (.getfield 11, 3) := by decide +kernel
theorem dX7_callIn_17 : decode cX7_callIn 17 = .ok (.iload_n 2, 1) := by decide +kernel
theorem dX7_callIn_18 : decode cX7_callIn 18 = .ok (.aaload, 1) := by decide +kernel
theorem dX7_callIn_19 : decode cX7_callIn 19 = .ok (.getfield 75, 3) := by decide +kernel
theorem dX7_callIn_22 : decode cX7_callIn 22 = .ok (.invokevirtual 119, 3) := by decide +kernel
theorem dX7_callIn_25 : decode cX7_callIn 25 = .ok (.iadd, 1) := by decide +kernel
theorem dX7_callIn_26 : decode cX7_callIn 26 = .ok (.istore_n 1, 1) := by decide +kernel
theorem dX7_callIn_27 : decode cX7_callIn 27 = .ok (.aload_n 0, 1) := by decide +kernel
theorem dX7_callIn_28 : decode cX7_callIn 28 = .ok (.getfield 11, 3) := by decide +kernel
theorem dX7_callIn_31 : decode cX7_callIn 31 = .ok (.iload_n 2, 1) := by decide +kernel
theorem dX7_callIn_32 : decode cX7_callIn 32 = .ok (.aaload, 1) := by decide +kernel
theorem dX7_callIn_33 : decode cX7_callIn 33 = .ok (.getfield 75, 3) := by decide +kernel
theorem dX7_callIn_36 : decode cX7_callIn 36 = .ok (.invokevirtual 313, 3) := by decide +kernel
theorem dX7_callIn_39 : decode cX7_callIn 39 = .ok (.iinc 2 1, 3) := by decide +kernel
theorem dX7_callIn_42 : decode cX7_callIn 42 = .ok (.goto (-38), 3) := by decide +kernel
theorem dX7_callIn_45 : decode cX7_callIn 45 = .ok (.iload_n 1, 1) := by decide +kernel
theorem dX7_callIn_46 : decode cX7_callIn 46 = .ok (.ireturn, 1) := by decide +kernel
theorem dX7_town_0 : decode cX7_town 0 = .ok (.aload_n 0, 1) := by decide +kernel
theorem dX7_town_1 : decode cX7_town 1 = .ok (.getfield 316, 3) := by decide +kernel
theorem dX7_town_4 : decode cX7_town 4 = .ok (.ireturn, 1) := by decide +kernel
theorem dX7_year_0 : decode cX7_year 0 = .ok (.aload_n 0, 1) := by decide +kernel
theorem dX7_year_1 : decode cX7_year 1 = .ok (.getfield 319, 3) := by decide +kernel
theorem dX7_year_4 : decode cX7_year 4 = .ok (.bipush 99, 2) := by decide +kernel
theorem dX7_year_6 : decode cX7_year 6 = .ok (.if_icmp .lt 14, 3) := by decide +kernel
theorem dX7_year_9 : decode cX7_year 9 = .ok (.new 65, 3) := by decide +kernel
theorem dX7_year_12 : decode cX7_year 12 = .ok (.dup, 1) := by decide +kernel
theorem dX7_year_13 : decode cX7_year 13 = .ok (.ldc_w 322, 3) := by decide +kernel
theorem dX7_year_16 : decode cX7_year 16 = .ok (.invokespecial 69, 3) := by decide +kernel
theorem dX7_year_19 : decode cX7_year 19 = .ok (.athrow, 1) := by decide +kernel
theorem dX7_year_20 : decode cX7_year 20 = .ok (.aload_n 0, 1) := by decide +kernel
theorem dX7_year_21 : decode cX7_year 21 = .ok (.dup, 1) := by decide +kernel
theorem dX7_year_22 : decode cX7_year 22 = .ok (.getfield 319, 3) := by decide +kernel
theorem dX7_year_25 : decode cX7_year 25 = .ok (.iconst 1, 1) := by decide +kernel
theorem dX7_year_26 : decode cX7_year 26 = .ok (.iadd, 1) := by decide +kernel
theorem dX7_year_27 : decode cX7_year 27 = .ok (.putfield 319, 3) := by decide +kernel
theorem dX7_year_30 : decode cX7_year 30 = .ok (.aload_n 0, 1) := by decide +kernel
theorem dX7_year_31 : decode cX7_year 31 = .ok (.iconst 0, 1) := by decide +kernel
theorem dX7_year_32 : decode cX7_year 32 = .ok (.putfield 225, 3) := by decide +kernel
theorem dX7_year_35 : decode cX7_year 35 = .ok (.iconst 0, 1) := by decide +kernel
theorem dX7_year_36 : decode cX7_year 36 = .ok (.istore_n 1, 1) := by decide +kernel
theorem dX7_year_37 : decode cX7_year 37 = .ok (.iload_n 1, 1) := by decide +kernel
theorem dX7_year_38 : decode cX7_year 38 = .ok (.aload_n 0, 1) := by decide +kernel
theorem dX7_year_39 : decode cX7_year 39 = .ok (.getfield 61, 3) := by decide +kernel
theorem dX7_year_42 : decode cX7_year 42 = .ok (.if_icmp .ge 21, 3) := by decide +kernel
theorem dX7_year_45 : decode cX7_year 45 = .ok (.aload_n 0, 1) := by decide +kernel
theorem dX7_year_46 : decode cX7_year 46 = .ok (.getfield 11, 3) := by decide +kernel
theorem dX7_year_49 : decode cX7_year 49 = .ok (.iload_n 1, 1) := by decide +kernel
theorem dX7_year_50 : decode cX7_year 50 = .ok (.aaload, 1) := by decide +kernel
theorem dX7_year_51 : decode cX7_year 51 = .ok (.getfield 75, 3) := by decide +kernel
theorem dX7_year_54 : decode cX7_year 54 = .ok (.invokevirtual 324, 3) := by decide +kernel
theorem dX7_year_57 : decode cX7_year 57 = .ok (.iinc 1 1, 3) := by decide +kernel
theorem dX7_year_60 : decode cX7_year 60 = .ok (.goto (-23), 3) := by decide +kernel
theorem dX7_year_63 : decode cX7_year 63 = .ok (.iconst 0, 1) := by decide +kernel
theorem dX7_year_64 : decode cX7_year 64 = .ok (.istore_n 1, 1) := by decide +kernel
theorem dX7_year_65 : decode cX7_year 65 = .ok (.iload_n 1, 1) := by decide +kernel
theorem dX7_year_66 : decode cX7_year 66 = .ok (.aload_n 0, 1) := by decide +kernel
theorem dX7_year_67 : decode cX7_year 67 = .ok (.getfield 22, 3) := by decide +kernel
theorem dX7_year_70 : decode cX7_year 70 = .ok (.getfield 181, 3) := by decide +kernel
theorem dX7_year_73 : decode cX7_year 73 = .ok (.if_icmp .ge 21, 3) := by decide +kernel
theorem dX7_year_76 : decode cX7_year 76 = .ok (.aload_n 0, 1) := by decide +kernel
theorem dX7_year_77 : decode cX7_year 77 = .ok (.getfield 22, 3) := by decide +kernel
theorem dX7_year_80 : decode cX7_year 80 = .ok (.getfield 184, 3) := by decide +kernel
theorem dX7_year_83 : decode cX7_year 83 = .ok (.iload_n 1, 1) := by decide +kernel
theorem dX7_year_84 : decode cX7_year 84 = .ok (.aaload, 1) := by decide +kernel
theorem dX7_year_85 : decode cX7_year 85 = .ok (.invokevirtual 327, 3) := by decide +kernel
theorem dX7_year_88 : decode cX7_year 88 = .ok (.iinc 1 1, 3) := by decide +kernel
theorem dX7_year_91 : decode cX7_year 91 = .ok (.goto (-26), 3) := by decide +kernel
theorem dX7_year_94 : decode cX7_year 94 = .ok (.aload_n 0, 1) := by decide +kernel
theorem dX7_year_95 : decode cX7_year 95 = .ok (.getfield 319, 3) := by decide +kernel
theorem dX7_year_98 : decode cX7_year 98 = .ok (.ireturn, 1) := by decide +kernel
theorem dX7_isSound_0 : decode cX7_isSound 0 = .ok (.aload_n 0, 1) := by decide +kernel
theorem dX7_isSound_1 : decode cX7_isSound 1 = .ok (.invokevirtual 344, 3) := by decide +kernel
theorem dX7_isSound_4 : decode cX7_isSound 4 = .ok (.ifCond .eq 31, 3) := by decide +kernel
theorem dX7_isSound_7 : decode cX7_isSound 7 = .ok (.aload_n 0, 1) := by decide +kernel
theorem dX7_isSound_8 : decode cX7_isSound 8 = .ok (.invokevirtual 348, 3) := by decide +kernel
theorem dX7_isSound_11 : decode cX7_isSound 11 = .ok (.ifCond .eq 24, 3) := by decide +kernel
theorem dX7_isSound_14 : decode cX7_isSound 14 = .ok (.aload_n 0, 1) := by decide +kernel
theorem dX7_isSound_15 : decode cX7_isSound 15 = .ok (.getfield 225, 3) := by decide +kernel
theorem dX7_isSound_18 : decode cX7_isSound 18 = .ok (.ifCond .eq 13, 3) := by decide +kernel
theorem dX7_isSound_21 : decode cX7_isSound 21 = .ok (.aload_n 0, 1) := by decide +kernel
theorem dX7_isSound_22 : decode cX7_isSound 22 = .ok (.getfield 43, 3) := by decide +kernel
theorem dX7_isSound_25 : decode cX7_isSound 25 = .ok (.invokevirtual 351, 3) := by decide +kernel
theorem dX7_isSound_28 : decode cX7_isSound 28 = .ok (.ifCond .eq 7, 3) := by decide +kernel
theorem dX7_isSound_31 : decode cX7_isSound 31 = .ok (.iconst 1, 1) := by decide +kernel
theorem dX7_isSound_32 : decode cX7_isSound 32 = .ok (.goto 4, 3) := by decide +kernel
theorem dX7_isSound_35 : decode cX7_isSound 35 = .ok (.iconst 0, 1) := by decide +kernel
theorem dX7_isSound_36 : decode cX7_isSound 36 = .ok (.ireturn, 1) := by decide +kernel
theorem dX7_needRange_0 : decode cX7_needRange 0 = .ok (.iload_n 0, 1) := by decide +kernel
theorem dX7_needRange_1 : decode cX7_needRange 1 = .ok (.iload_n 1, 1) := by decide +kernel
theorem dX7_needRange_2 : decode cX7_needRange 2 = .ok (.if_icmp .lt 8, 3) := by decide +kernel
theorem dX7_needRange_5 : decode cX7_needRange 5 = .ok (.iload_n 0, 1) := by decide +kernel
theorem dX7_needRange_6 : decode cX7_needRange 6 = .ok (.iload_n 2, 1) := by decide +kernel
theorem dX7_needRange_7 : decode cX7_needRange 7 = .ok (.if_icmp .le 14, 3) := by decide +kernel
theorem dX7_needRange_10 : decode cX7_needRange 10 = .ok (.new 92, 3) := by decide +kernel
theorem dX7_needRange_13 : decode cX7_needRange 13 = .ok (.dup, 1) := by decide +kernel
theorem dX7_needRange_14 : decode cX7_needRange 14 = .ok (.ldc_w 354, 3) := by decide +kernel
theorem dX7_needRange_17 : decode cX7_needRange 17 = .ok (.invokespecial 96, 3) := by decide +kernel
theorem dX7_needRange_20 : decode cX7_needRange 20 = .ok (.athrow, 1) := by decide +kernel
theorem dX7_needRange_21 : decode cX7_needRange 21 = .ok (.return_, 1) := by decide +kernel
theorem dX7_needGuild_0 : decode cX7_needGuild 0 = .ok (.iload_n 1, 1) := by decide +kernel
theorem dX7_needGuild_1 : decode cX7_needGuild 1 = .ok (.ifCond .lt 11, 3) := by decide +kernel
theorem dX7_needGuild_4 : decode cX7_needGuild 4 = .ok (.iload_n 1, 1) := by decide +kernel
theorem dX7_needGuild_5 : decode cX7_needGuild 5 = .ok (.aload_n 0, 1) := by decide +kernel
theorem dX7_needGuild_6 : decode cX7_needGuild 6 = .ok (.getfield 61, 3) := by decide +kernel
theorem dX7_needGuild_9 : decode cX7_needGuild 9 = .ok (.if_icmp .lt 14, 3) := by decide +kernel
theorem dX7_needGuild_12 : decode cX7_needGuild 12 = .ok (.new 158, 3) := by decide +kernel
theorem dX7_needGuild_15 : decode cX7_needGuild 15 = .ok (.dup, 1) := by decide +kernel
theorem dX7_needGuild_16 : decode cX7_needGuild 16 = .ok (.ldc_w 356, 3) := by decide +kernel
theorem dX7_needGuild_19 : decode cX7_needGuild 19 = .ok (.invokespecial 162, 3) := by decide +kernel
theorem dX7_needGuild_22 : decode cX7_needGuild 22 = .ok (.athrow, 1) := by decide +kernel
theorem dX7_needGuild_23 : decode cX7_needGuild 23 = .ok (.return_, 1) := by decide +kernel
theorem dX7_needNotOver_0 : decode cX7_needNotOver 0 = .ok (.aload_n 0, 1) := by decide +kernel
theorem dX7_needNotOver_1 : decode cX7_needNotOver 1 = .ok (.getfield 11, 3) := by decide +kernel
theorem dX7_needNotOver_4 : decode cX7_needNotOver 4 = .ok (.iload_n 1, 1) := by decide +kernel
theorem dX7_needNotOver_5 : decode cX7_needNotOver 5 = .ok (.aaload, 1) := by decide +kernel
theorem dX7_needNotOver_6 : decode cX7_needNotOver 6 = .ok (.getfield 100, 3) := by decide +kernel
theorem dX7_needNotOver_9 : decode cX7_needNotOver 9 = .ok (.ifCond .eq 14, 3) := by decide +kernel
theorem dX7_needNotOver_12 : decode cX7_needNotOver 12 = .ok (.new 172, 3) := by decide +kernel
theorem dX7_needNotOver_15 : decode cX7_needNotOver 15 = .ok (.dup, 1) := by decide +kernel
theorem dX7_needNotOver_16 : decode cX7_needNotOver 16 = .ok (.ldc_w 358, 3) := by decide +kernel
theorem dX7_needNotOver_19 : decode cX7_needNotOver 19 = .ok (.invokespecial 176, 3) := by decide +kernel
theorem dX7_needNotOver_22 : decode cX7_needNotOver 22 = .ok (.athrow, 1) := by decide +kernel
theorem dX7_needNotOver_23 : decode cX7_needNotOver 23 = .ok (.return_, 1) := by decide +kernel
theorem dX7_needStations_0 : decode cX7_needStations 0 = .ok (.aload_n 0, 1) := by decide +kernel
theorem dX7_needStations_1 : decode cX7_needStations 1 = .ok (.getfield 22, 3) := by decide +kernel
theorem dX7_needStations_4 : decode cX7_needStations 4 = .ok (.getfield 181, 3) := by decide +kernel
theorem dX7_needStations_7 : decode cX7_needStations 7 = .ok (.ifCond .ne 14, 3) := by decide +kernel
theorem dX7_needStations_10 : decode cX7_needStations 10 = .ok (.new 65, 3) := by decide +kernel
theorem dX7_needStations_13 : decode cX7_needStations 13 = .ok (.dup, 1) := by decide +kernel
theorem dX7_needStations_14 : decode cX7_needStations 14 = .ok (.ldc_w 362, 3) := by decide +kernel
theorem dX7_needStations_17 : decode cX7_needStations 17 = .ok (.invokespecial 69, 3) := by decide +kernel
theorem dX7_needStations_20 : decode cX7_needStations 20 = .ok (.athrow, 1) := by decide +kernel
theorem dX7_needStations_21 : decode cX7_needStations 21 = .ok (.return_, 1) := by decide +kernel
theorem dX7_needDayPlayed_0 : decode cX7_needDayPlayed 0 = .ok (.aload_n 0, 1) := by decide +kernel
theorem dX7_needDayPlayed_1 : decode cX7_needDayPlayed 1 = .ok (.getfield 225, 3) := by decide +kernel
theorem dX7_needDayPlayed_4 : decode cX7_needDayPlayed 4 = .ok (.ifCond .ne 14, 3) := by decide +kernel
theorem dX7_needDayPlayed_7 : decode cX7_needDayPlayed 7 = .ok (.new 65, 3) := by decide +kernel
theorem dX7_needDayPlayed_10 : decode cX7_needDayPlayed 10 = .ok (.dup, 1) := by decide +kernel
theorem dX7_needDayPlayed_11 : decode cX7_needDayPlayed 11 = .ok (.ldc_w 364, 3) := by decide +kernel
theorem dX7_needDayPlayed_14 : decode cX7_needDayPlayed 14 = .ok (.invokespecial 69, 3) := by decide +kernel
theorem dX7_needDayPlayed_17 : decode cX7_needDayPlayed 17 = .ok (.athrow, 1) := by decide +kernel
theorem dX7_needDayPlayed_18 : decode cX7_needDayPlayed 18 = .ok (.return_, 1) := by decide +kernel
theorem dX7_typedSubject_0 : decode cX7_typedSubject 0 = .ok (.aload_n 0, 1) := by decide +kernel
theorem dX7_typedSubject_1 : decode cX7_typedSubject 1 = .ok (.getfield 29, 3) := by decide +kernel
theorem dX7_typedSubject_4 : decode cX7_typedSubject 4 = .ok (.invokevirtual 371, 3) := by decide +kernel
theorem dX7_typedSubject_7 : decode cX7_typedSubject 7 = .ok (.istore_n 1, 1) := by decide +kernel
theorem dX7_typedSubject_8 : decode cX7_typedSubject 8 = .ok (.iload_n 1, 1) := by decide +kernel
theorem dX7_typedSubject_9 : decode cX7_typedSubject 9 = .ok (.iconst (-1), 1) := by decide +kernel
theorem dX7_typedSubject_10 : decode cX7_typedSubject 10 = .ok (.if_icmp .ne 14, 3) := by decide +kernel
theorem dX7_typedSubject_13 : decode cX7_typedSubject 13 = .ok (.new 172, 3) := by decide +kernel
theorem dX7_typedSubject_16 : decode cX7_typedSubject 16 = .ok (.dup, 1) := by decide +kernel
theorem dX7_typedSubject_17 : decode cX7_typedSubject 17 = .ok (.ldc_w 374, 3) := by decide +kernel
theorem dX7_typedSubject_20 : decode cX7_typedSubject 20 = .ok (.invokespecial 176, 3) := by decide +kernel
theorem dX7_typedSubject_23 : decode cX7_typedSubject 23 = .ok (.athrow, 1) := by decide +kernel
theorem dX7_typedSubject_24 : decode cX7_typedSubject 24 = .ok (.iload_n 1, 1) := by decide +kernel
theorem dX7_typedSubject_25 : decode cX7_typedSubject 25 = .ok (.ireturn, 1) := by decide +kernel
theorem dX7_placeOf_0 : decode cX7_placeOf 0 = .ok (.iconst 0, 1) := by decide +kernel
theorem dX7_placeOf_1 : decode cX7_placeOf 1 = .ok (.istore_n 2, 1) := by decide +kernel
theorem dX7_placeOf_2 : decode cX7_placeOf 2 = .ok (.iload_n 2, 1) := by decide +kernel
theorem dX7_placeOf_3 : decode cX7_placeOf 3 = .ok (.aload_n 0, 1) := by decide +kernel
theorem dX7_placeOf_4 : decode cX7_placeOf 4 = .ok (.getfield 61, 3) := by decide +kernel
theorem dX7_placeOf_7 : decode cX7_placeOf 7 = .ok (.iconst 1, 1) := by decide +kernel
theorem dX7_placeOf_8 : decode cX7_placeOf 8 = .ok (.isub, 1) := by decide +kernel
theorem dX7_placeOf_9 : decode cX7_placeOf 9 = .ok (.if_icmp .ge 19, 3) := by decide +kernel
theorem dX7_placeOf_12 : decode cX7_placeOf 12 = .ok (.aload_n 0, 1) := by decide +kernel
theorem dX7_placeOf_13 : decode cX7_placeOf 13 = .ok (.getfield 15, 3) := by decide +kernel
theorem dX7_placeOf_16 : decode cX7_placeOf 16 = .ok (.iload_n 2, 1) := by decide +kernel
theorem dX7_placeOf_17 : decode cX7_placeOf 17 = .ok (.iaload, 1) := by decide +kernel
theorem dX7_placeOf_18 : decode cX7_placeOf 18 = .ok (.iload_n 1, 1) := by decide +kernel
theorem dX7_placeOf_19 : decode cX7_placeOf 19 = .ok (.if_icmp .eq 9, 3) := by decide +kernel
theorem dX7_placeOf_22 : decode cX7_placeOf 22 = .ok (.iinc 2 1, 3) := by decide +kernel
theorem dX7_placeOf_25 : decode cX7_placeOf 25 = .ok (.goto (-23), 3) := by decide +kernel
theorem dX7_placeOf_28 : decode cX7_placeOf 28 = .ok (.iload_n 2, 1) := by decide +kernel
theorem dX7_placeOf_29 : decode cX7_placeOf 29 = .ok (.ireturn, 1) := by decide +kernel
theorem dX7_charge_0 : decode cX7_charge 0 = .ok (.aload_n 1, 1) := by decide +kernel
theorem dX7_charge_1 : decode cX7_charge 1 = .ok (.dup, 1) := by decide +kernel
theorem dX7_charge_2 : decode cX7_charge 2 = .ok (.getfield 72, 3) := by decide +kernel
theorem dX7_charge_5 : decode cX7_charge 5 = .ok (.iload_n 2, 1) := by decide +kernel
theorem dX7_charge_6 : decode cX7_charge 6 = .ok (.isub, 1) := by decide +kernel
theorem dX7_charge_7 : decode cX7_charge 7 = .ok (.putfield 72, 3) := by decide +kernel
theorem dX7_charge_10 : decode cX7_charge 10 = .ok (.aload_n 0, 1) := by decide +kernel
theorem dX7_charge_11 : decode cX7_charge 11 = .ok (.dup, 1) := by decide +kernel
theorem dX7_charge_12 : decode cX7_charge 12 = .ok (.getfield 316, 3) := by decide +kernel
theorem dX7_charge_15 : decode cX7_charge 15 = .ok (.iload_n 2, 1) := by decide +kernel
theorem dX7_charge_16 : decode cX7_charge 16 = .ok (.iadd, 1) := by decide +kernel
theorem dX7_charge_17 : decode cX7_charge 17 = .ok (.putfield 316, 3) := by decide +kernel
theorem dX7_charge_20 : decode cX7_charge 20 = .ok (.return_, 1) := by decide +kernel
theorem dX7_isMoneySound_0 : decode cX7_isMoneySound 0 = .ok (.aload_n 0, 1) := by decide +kernel
theorem dX7_isMoneySound_1 : decode cX7_isMoneySound 1 = .ok (.getfield 85, 3) := by decide +kernel
theorem dX7_isMoneySound_4 : decode cX7_isMoneySound 4 = .ok (.istore_n 1, 1) := by decide +kernel
theorem dX7_isMoneySound_5 : decode cX7_isMoneySound 5 = .ok (.iconst 0, 1) := by decide +kernel
theorem dX7_isMoneySound_6 : decode cX7_isMoneySound 6 = .ok (.istore_n 2, 1) := by decide +kernel
theorem dX7_isMoneySound_7 : decode cX7_isMoneySound 7 = .ok (.iload_n 2, 1) := by decide +kernel
theorem dX7_isMoneySound_8 : decode cX7_isMoneySound 8 = .ok (.aload_n 0, 1) := by decide +kernel
theorem dX7_isMoneySound_9 : decode cX7_isMoneySound 9 = .ok (.getfield 61, 3) := by decide +kernel
theorem dX7_isMoneySound_12 : decode cX7_isMoneySound 12 = .ok (.if_icmp .ge 21, 3) := by decide +kernel
theorem dX7_isMoneySound_15 : decode cX7_isMoneySound 15 = .ok (.iload_n 1, 1) := by decide +kernel
theorem dX7_isMoneySound_16 : decode cX7_isMoneySound 16 = .ok (.aload_n 0, 1) := by decide +kernel
theorem dX7_isMoneySound_17 : decode cX7_isMoneySound 17 = .ok (.getfield 11, 3) := by decide +kernel
theorem dX7_isMoneySound_20 : decode cX7_isMoneySound 20 = .ok (.iload_n 2, 1) := by decide +kernel
theorem dX7_isMoneySound_21 : decode cX7_isMoneySound 21 = .ok (.aaload, 1) := by decide +kernel
theorem dX7_isMoneySound_22 : decode cX7_isMoneySound 22 = .ok (.getfield 72, 3) := by decide +kernel
theorem dX7_isMoneySound_25 : decode cX7_isMoneySound 25 = .ok (.isub, 1) := by decide +kernel
theorem dX7_isMoneySound_26 : decode cX7_isMoneySound 26 = .ok (.istore_n 1, 1) := by decide +kernel
theorem dX7_isMoneySound_27 : decode cX7_isMoneySound 27 = .ok (.iinc 2 1, 3) := by decide +kernel
theorem dX7_isMoneySound_30 : decode cX7_isMoneySound 30 = .ok (.goto (-23), 3) := by decide +kernel
theorem dX7_isMoneySound_33 : decode cX7_isMoneySound 33 = .ok (.iconst 0, 1) := by decide +kernel
theorem dX7_isMoneySound_34 : decode cX7_isMoneySound 34 = .ok (.istore_n 2, 1) := by decide +kernel
theorem dX7_isMoneySound_35 : decode cX7_isMoneySound 35 = .ok (.iload_n 2, 1) := by decide +kernel
theorem dX7_isMoneySound_36 : decode cX7_isMoneySound 36 = .ok (.bipush 10, 2) := by decide +kernel
theorem dX7_isMoneySound_38 : decode cX7_isMoneySound 38 = .ok (.if_icmp .ge 18, 3) := by decide +kernel
theorem dX7_isMoneySound_41 : decode cX7_isMoneySound 41 = .ok (.iload_n 1, 1) := by decide +kernel
theorem dX7_isMoneySound_42 : decode cX7_isMoneySound 42 = .ok (.aload_n 0, 1) := by decide +kernel
theorem dX7_isMoneySound_43 : decode cX7_isMoneySound 43 = .ok (.getfield 37, 3) := by decide +kernel
theorem dX7_isMoneySound_46 : decode cX7_isMoneySound 46 = .ok (.iload_n 2, 1) := by decide +kernel
theorem dX7_isMoneySound_47 : decode cX7_isMoneySound 47 = .ok (.iaload, 1) := by decide +kernel
theorem dX7_isMoneySound_48 : decode cX7_isMoneySound 48 = .ok (.iadd, 1) := by decide +kernel
theorem dX7_isMoneySound_49 : decode cX7_isMoneySound 49 = .ok (.istore_n 1, 1) := by decide +kernel
theorem dX7_isMoneySound_50 : decode cX7_isMoneySound 50 = .ok (.iinc 2 1, 3) := by decide +kernel
theorem dX7_isMoneySound_53 : decode cX7_isMoneySound 53 = .ok (.goto (-18), 3) := by decide +kernel
theorem dX7_isMoneySound_56 : decode cX7_isMoneySound 56 = .ok (.iload_n 1, 1) := by decide +kernel
theorem dX7_isMoneySound_57 : decode cX7_isMoneySound 57 = .ok (.aload_n 0, 1) := by decide +kernel
theorem dX7_isMoneySound_58 : decode cX7_isMoneySound 58 = .ok (.getfield 316, 3) := by decide +kernel
theorem dX7_isMoneySound_61 : decode cX7_isMoneySound 61 = .ok (.if_icmp .ne 7, 3) := by decide +kernel
theorem dX7_isMoneySound_64 : decode cX7_isMoneySound 64 = .ok (.iconst 1, 1) := by decide +kernel
theorem dX7_isMoneySound_65 : decode cX7_isMoneySound 65 = .ok (.goto 4, 3) := by decide +kernel
theorem dX7_isMoneySound_68 : decode cX7_isMoneySound 68 = .ok (.iconst 0, 1) := by decide +kernel
theorem dX7_isMoneySound_69 : decode cX7_isMoneySound 69 = .ok (.ireturn, 1) := by decide +kernel
theorem dX7_isOrderSound_0 : decode cX7_isOrderSound 0 = .ok (.iconst 0, 1) := by decide +kernel
theorem dX7_isOrderSound_1 : decode cX7_isOrderSound 1 = .ok (.istore_n 1, 1) := by decide +kernel
theorem dX7_isOrderSound_2 : decode cX7_isOrderSound 2 = .ok (.iconst 0, 1) := by decide +kernel
theorem dX7_isOrderSound_3 : decode cX7_isOrderSound 3 = .ok (.istore_n 2, 1) := by decide +kernel
theorem dX7_isOrderSound_4 : decode cX7_isOrderSound 4 = .ok (.iload_n 2, 1) := by decide +kernel
theorem dX7_isOrderSound_5 : decode cX7_isOrderSound 5 = .ok (.aload_n 0, 1) := by decide +kernel
theorem dX7_isOrderSound_6 : decode cX7_isOrderSound 6 = .ok (.getfield 61, 3) := by decide +kernel
theorem dX7_isOrderSound_9 : decode cX7_isOrderSound 9 = .ok (.if_icmp .ge 20, 3) := by decide +kernel
theorem dX7_isOrderSound_12 : decode cX7_isOrderSound 12 = .ok (.iload_n 1, 1) := by decide +kernel
theorem dX7_isOrderSound_13 : decode cX7_isOrderSound 13 = .ok (.iconst 1, 1) := by decide +kernel
theorem dX7_isOrderSound_14 : decode cX7_isOrderSound 14 = .ok (.aload_n 0, 1) := by decide +kernel
theorem dX7_isOrderSound_15 : decode cX7_isOrderSound 15 = .ok (.getfield 15, 3) := by decide +kernel
theorem dX7_isOrderSound_18 : decode cX7_isOrderSound 18 = .ok (.iload_n 2, 1) := by decide +kernel
theorem dX7_isOrderSound_19 : decode cX7_isOrderSound 19 = .ok (.iaload, 1) := by decide +kernel
theorem dX7_isOrderSound_20 : decode cX7_isOrderSound 20 = .ok (.ishl, 1) := by decide +kernel
theorem dX7_isOrderSound_21 : decode cX7_isOrderSound 21 = .ok (.ior, 1) := by decide +kernel
theorem dX7_isOrderSound_22 : decode cX7_isOrderSound 22 = .ok (.istore_n 1, 1) := by decide +kernel
theorem dX7_isOrderSound_23 : decode cX7_isOrderSound 23 = .ok (.iinc 2 1, 3) := by decide +kernel
theorem dX7_isOrderSound_26 : decode cX7_isOrderSound 26 = .ok (.goto (-22), 3) := by decide +kernel
theorem dX7_isOrderSound_29 : decode cX7_isOrderSound 29 = .ok (.iload_n 1, 1) := by decide +kernel
theorem dX7_isOrderSound_30 : decode cX7_isOrderSound 30 = .ok (.iconst 1, 1) := by decide +kernel
theorem dX7_isOrderSound_31 : decode cX7_isOrderSound 31 = .ok (.aload_n 0, 1) := by decide +kernel
theorem dX7_isOrderSound_32 : decode cX7_isOrderSound 32 = .ok (.getfield 61, 3) := by decide +kernel
theorem dX7_isOrderSound_35 : decode cX7_isOrderSound 35 = .ok (.ishl, 1) := by decide +kernel
theorem dX7_isOrderSound_36 : decode cX7_isOrderSound 36 = .ok (.iconst 1, 1) := by decide +kernel
theorem dX7_isOrderSound_37 : decode cX7_isOrderSound 37 = .ok (.isub, 1) := by decide +kernel
theorem dX7_isOrderSound_38 : decode cX7_isOrderSound 38 = .ok (.if_icmp .ne 7, 3) := by decide +kernel
theorem dX7_isOrderSound_41 : decode cX7_isOrderSound 41 = .ok (.iconst 1, 1) := by decide +kernel
theorem dX7_isOrderSound_42 : decode cX7_isOrderSound 42 = .ok (.goto 4, 3) := by decide +kernel
theorem dX7_isOrderSound_45 : decode cX7_isOrderSound 45 = .ok (.iconst 0, 1) := by decide +kernel
theorem dX7_isOrderSound_46 : decode cX7_isOrderSound 46 = .ok (.ireturn, 1) := by decide +kernel
theorem dJ9_floorDiv_7cf53_0 : decode cJ9_floorDiv_7cf53 0 = .ok (.iload_n 0, 1) := by decide +kernel
theorem dJ9_floorDiv_7cf53_1 : decode cJ9_floorDiv_7cf53 1 = .ok (.iload_n 1, 1) := by decide +kernel
theorem dJ9_floorDiv_7cf53_2 : decode cJ9_floorDiv_7cf53 2 = .ok (.idiv, 1) := by decide +kernel
theorem dJ9_floorDiv_7cf53_3 : decode cJ9_floorDiv_7cf53 3 = .ok (.istore_n 2, 1) := by decide +kernel
theorem dJ9_floorDiv_7cf53_4 : decode cJ9_floorDiv_7cf53 4 = .ok (.iload_n 0, 1) := by decide +kernel
theorem dJ9_floorDiv_7cf53_5 : decode cJ9_floorDiv_7cf53 5 = .ok (.iload_n 1, 1) := by decide +kernel
theorem dJ9_floorDiv_7cf53_6 : decode cJ9_floorDiv_7cf53 6 = .ok (.ixor, 1) := by decide +kernel
theorem dJ9_floorDiv_7cf53_7 : decode cJ9_floorDiv_7cf53 7 = .ok (.ifCond .ge 14, 3) := by decide +kernel
theorem dJ9_floorDiv_7cf53_10 : decode cJ9_floorDiv_7cf53 10 = .ok (.iload_n 2, 1) := by decide +kernel
theorem dJ9_floorDiv_7cf53_11 : decode cJ9_floorDiv_7cf53 11 = .ok (.iload_n 1, 1) := by decide +kernel
theorem dJ9_floorDiv_7cf53_12 : decode cJ9_floorDiv_7cf53 12 = .ok (.imul, 1) := by decide +kernel
theorem dJ9_floorDiv_7cf53_13 : decode cJ9_floorDiv_7cf53 13 = .ok (.iload_n 0, 1) := by decide +kernel
theorem dJ9_floorDiv_7cf53_14 : decode cJ9_floorDiv_7cf53 14 = .ok (.if_icmp .eq 7, 3) := by decide +kernel
theorem dJ9_floorDiv_7cf53_17 : decode cJ9_floorDiv_7cf53 17 = .ok (.iload_n 2, 1) := by decide +kernel
theorem dJ9_floorDiv_7cf53_18 : decode cJ9_floorDiv_7cf53 18 = .ok (.iconst 1, 1) := by decide +kernel
theorem dJ9_floorDiv_7cf53_19 : decode cJ9_floorDiv_7cf53 19 = .ok (.isub, 1) := by decide +kernel
theorem dJ9_floorDiv_7cf53_20 : decode cJ9_floorDiv_7cf53 20 = .ok (.ireturn, 1) := by decide +kernel
theorem dJ9_floorDiv_7cf53_21 : decode cJ9_floorDiv_7cf53 21 = .ok (.iload_n 2, 1) := by decide +kernel
theorem dJ9_floorDiv_7cf53_22 : decode cJ9_floorDiv_7cf53 22 = .ok (.ireturn, 1) := by decide +kernel
theorem dJ9_floorMod_7cf53_0 : decode cJ9_floorMod_7cf53 0 = .ok (.iload_n 0, 1) := by decide +kernel
theorem dJ9_floorMod_7cf53_1 : decode cJ9_floorMod_7cf53 1 = .ok (.iload_n 1, 1) := by decide +kernel
theorem dJ9_floorMod_7cf53_2 : decode cJ9_floorMod_7cf53 2 = .ok (.irem, 1) := by decide +kernel
theorem dJ9_floorMod_7cf53_3 : decode cJ9_floorMod_7cf53 3 = .ok (.istore_n 2, 1) := by decide +kernel
theorem dJ9_floorMod_7cf53_4 : decode cJ9_floorMod_7cf53 4 = .ok (.iload_n 0, 1) := by decide +kernel
theorem dJ9_floorMod_7cf53_5 : decode cJ9_floorMod_7cf53 5 = .ok (.iload_n 1, 1) := by decide +kernel
theorem dJ9_floorMod_7cf53_6 : decode cJ9_floorMod_7cf53 6 = .ok (.ixor, 1) := by decide +kernel
theorem dJ9_floorMod_7cf53_7 : decode cJ9_floorMod_7cf53 7 = .ok (.ifCond .ge 11, 3) := by decide +kernel
theorem dJ9_floorMod_7cf53_10 : decode cJ9_floorMod_7cf53 10 = .ok (.iload_n 2, 1) := by decide +kernel
theorem dJ9_floorMod_7cf53_11 : decode cJ9_floorMod_7cf53 11 = .ok (.ifCond .eq 7, 3) := by decide +kernel
theorem dJ9_floorMod_7cf53_14 : decode cJ9_floorMod_7cf53 14 = .ok (.iload_n 2, 1) := by decide +kernel
theorem dJ9_floorMod_7cf53_15 : decode cJ9_floorMod_7cf53 15 = .ok (.iload_n 1, 1) := by decide +kernel
theorem dJ9_floorMod_7cf53_16 : decode cJ9_floorMod_7cf53 16 = .ok (.iadd, 1) := by decide +kernel
theorem dJ9_floorMod_7cf53_17 : decode cJ9_floorMod_7cf53 17 = .ok (.ireturn, 1) := by decide +kernel
theorem dJ9_floorMod_7cf53_18 : decode cJ9_floorMod_7cf53 18 = .ok (.iload_n 2, 1) := by decide +kernel
theorem dJ9_floorMod_7cf53_19 : decode cJ9_floorMod_7cf53 19 = .ok (.ireturn, 1) := by decide +kernel
theorem dJ9_max_7cf53_0 : decode cJ9_max_7cf53 0 = .ok (.iload_n 0, 1) := by decide +kernel
theorem dJ9_max_7cf53_1 : decode cJ9_max_7cf53 1 = .ok (.iload_n 1, 1) := by decide +kernel
theorem dJ9_max_7cf53_2 : decode cJ9_max_7cf53 2 = .ok (.if_icmp .lt 7, 3) := by decide +kernel
theorem dJ9_max_7cf53_5 : decode cJ9_max_7cf53 5 = .ok (.iload_n 0, 1) := by decide +kernel
theorem dJ9_max_7cf53_6 : decode cJ9_max_7cf53 6 = .ok (.goto 4, 3) := by decide +kernel
theorem dJ9_max_7cf53_9 : decode cJ9_max_7cf53 9 = .ok (.iload_n 1, 1) := by decide +kernel
theorem dJ9_max_7cf53_10 : decode cJ9_max_7cf53 10 = .ok (.ireturn, 1) := by decide +kernel
theorem dJ9_min_7cf53_0 : decode cJ9_min_7cf53 0 = .ok (.iload_n 0, 1) := by decide +kernel
theorem dJ9_min_7cf53_1 : decode cJ9_min_7cf53 1 = .ok (.iload_n 1, 1) := by decide +kernel
theorem dJ9_min_7cf53_2 : decode cJ9_min_7cf53 2 = .ok (.if_icmp .gt 7, 3) := by decide +kernel
theorem dJ9_min_7cf53_5 : decode cJ9_min_7cf53 5 = .ok (.iload_n 0, 1) := by decide +kernel
theorem dJ9_min_7cf53_6 : decode cJ9_min_7cf53 6 = .ok (.goto 4, 3) := by decide +kernel
theorem dJ9_min_7cf53_9 : decode cJ9_min_7cf53 9 = .ok (.iload_n 1, 1) := by decide +kernel
theorem dJ9_min_7cf53_10 : decode cJ9_min_7cf53 10 = .ok (.ireturn, 1) := by decide +kernel
theorem dJ0_length_8abf5_0 : decode cJ0_length_8abf5 0 = .ok (.aload_n 0, 1) := by decide +kernel
theorem dJ0_length_8abf5_1 : decode cJ0_length_8abf5 1 = .ok (.getfield 9, 3) := by decide +kernel
theorem dJ0_length_8abf5_4 : decode cJ0_length_8abf5 4 = .ok (.arraylength, 1) := by decide +kernel
theorem dJ0_length_8abf5_5 : decode cJ0_length_8abf5 5 = .ok (.aload_n 0, 1) := by decide +kernel
theorem dJ0_length_8abf5_6 : decode cJ0_length_8abf5 6 = .ok (.invokevirtual 335, 3) := by decide +kernel
theorem dJ0_length_8abf5_9 : decode cJ0_length_8abf5 9 = .ok (.ishr, 1) := by decide +kernel
theorem dJ0_length_8abf5_10 : decode cJ0_length_8abf5 10 = .ok (.ireturn, 1) := by decide +kernel
theorem dJ0_charAt_5068e_0 : decode cJ0_charAt_5068e 0 = .ok (.aload_n 0, 1) := by decide +kernel
theorem dJ0_charAt_5068e_1 : decode cJ0_charAt_5068e 1 = .ok (.invokevirtual 492, 3) := by decide +kernel
theorem dJ0_charAt_5068e_4 : decode cJ0_charAt_5068e 4 = .ok (.ifCond .eq 12, 3) := by decide +kernel
theorem dJ0_charAt_5068e_7 : decode cJ0_charAt_5068e 7 = .ok (.aload_n 0, 1) := by decide +kernel
theorem dJ0_charAt_5068e_8 : decode cJ0_charAt_5068e 8 = .ok (.getfield 9, 3) := by decide +kernel
theorem dJ0_charAt_5068e_11 : decode cJ0_charAt_5068e 11 = .ok (.iload_n 1, 1) := by decide +kernel
theorem dJ0_charAt_5068e_12 : decode cJ0_charAt_5068e 12 = .ok (.invokestatic 495, 3) := by decide +kernel
theorem dJ0_charAt_5068e_15 : decode cJ0_charAt_5068e 15 = .ok (.ireturn, 1) := by decide +kernel
theorem dJ0_charAt_5068e_16 : decode cJ0_charAt_5068e 16 = .ok (.aload_n 0, 1) := by decide +kernel
theorem dJ0_charAt_5068e_17 : decode cJ0_charAt_5068e 17 = .ok (.getfield 9, 3) := by decide +kernel
theorem dJ0_charAt_5068e_20 : decode cJ0_charAt_5068e 20 = .ok (.iload_n 1, 1) := by decide +kernel
theorem dJ0_charAt_5068e_21 : decode cJ0_charAt_5068e 21 = .ok (.invokestatic 498, 3) := by decide +kernel
theorem dJ0_charAt_5068e_24 : decode cJ0_charAt_5068e 24 = .ok (.ireturn, 1) := by decide +kernel
theorem dJ0_coder_7d493_0 : decode cJ0_coder_7d493 0 = .ok (.getstatic 38, 3) := by decide +kernel
theorem dJ0_coder_7d493_3 : decode cJ0_coder_7d493 3 = .ok (.ifCond .eq 10, 3) := by decide +kernel
theorem dJ0_coder_7d493_6 : decode cJ0_coder_7d493 6 = .ok (.aload_n 0, 1) := by decide +kernel
theorem dJ0_coder_7d493_7 : decode cJ0_coder_7d493 7 = .ok (.getfield 15, 3) := by decide +kernel
theorem dJ0_coder_7d493_10 : decode cJ0_coder_7d493 10 = .ok (.goto 4, 3) := by decide +kernel
theorem dJ0_coder_7d493_13 : decode cJ0_coder_7d493 13 = .ok (.iconst 1, 1) := by decide +kernel
theorem dJ0_coder_7d493_14 : decode cJ0_coder_7d493 14 = .ok (.ireturn, 1) := by decide +kernel
theorem dJ0_isLatin1_aae02_0 : decode cJ0_isLatin1_aae02 0 = .ok (.getstatic 38, 3) := by decide +kernel
theorem dJ0_isLatin1_aae02_3 : decode cJ0_isLatin1_aae02 3 = .ok (.ifCond .eq 14, 3) := by decide +kernel
theorem dJ0_isLatin1_aae02_6 : decode cJ0_isLatin1_aae02 6 = .ok (.aload_n 0, 1) := by decide +kernel
theorem dJ0_isLatin1_aae02_7 : decode cJ0_isLatin1_aae02 7 = .ok (.getfield 15, 3) := by decide +kernel
theorem dJ0_isLatin1_aae02_10 : decode cJ0_isLatin1_aae02 10 = .ok (.ifCond .ne 7, 3) := by decide +kernel
theorem dJ0_isLatin1_aae02_13 : decode cJ0_isLatin1_aae02 13 = .ok (.iconst 1, 1) := by decide +kernel
theorem dJ0_isLatin1_aae02_14 : decode cJ0_isLatin1_aae02 14 = .ok (.goto 4, 3) := by decide +kernel
theorem dJ0_isLatin1_aae02_17 : decode cJ0_isLatin1_aae02 17 = .ok (.iconst 0, 1) := by decide +kernel
theorem dJ0_isLatin1_aae02_18 : decode cJ0_isLatin1_aae02 18 = .ok (.ireturn, 1) := by decide +kernel
theorem dJ0_checkIndex_df160_0 : decode cJ0_checkIndex_df160 0 = .ok (.iload_n 0, 1) := by decide +kernel
theorem dJ0_checkIndex_df160_1 : decode cJ0_checkIndex_df160 1 = .ok (.iload_n 1, 1) := by decide +kernel
theorem dJ0_checkIndex_df160_2 : decode cJ0_checkIndex_df160 2 = .ok (.getstatic 1053, 3) := by decide +kernel
theorem dJ0_checkIndex_df160_5 : decode cJ0_checkIndex_df160 5 = .ok (.invokestatic 1059, 3) := by decide +kernel
theorem dJ0_checkIndex_df160_8 : decode cJ0_checkIndex_df160 8 = .ok (.pop, 1) := by decide +kernel
theorem dJ0_checkIndex_df160_9 : decode cJ0_checkIndex_df160 9 = .ok (.return_, 1) := by decide +kernel
theorem dJ1_charAt_3b067_0 : decode cJ1_charAt_3b067 0 = .ok (.iload_n 1, 1) := by decide +kernel
theorem dJ1_charAt_3b067_1 : decode cJ1_charAt_3b067 1 = .ok (.aload_n 0, 1) := by decide +kernel
theorem dJ1_charAt_3b067_2 : decode cJ1_charAt_3b067 2 = .ok (.arraylength, 1) := by decide +kernel
theorem dJ1_charAt_3b067_3 : decode cJ1_charAt_3b067 3 = .ok (.invokestatic 9, 3) := by decide +kernel
theorem dJ1_charAt_3b067_6 : decode cJ1_charAt_3b067 6 = .ok (.aload_n 0, 1) := by decide +kernel
theorem dJ1_charAt_3b067_7 : decode cJ1_charAt_3b067 7 = .ok (.iload_n 1, 1) := by decide +kernel
theorem dJ1_charAt_3b067_8 : decode cJ1_charAt_3b067 8 = .ok (.baload, 1) := by decide +kernel
theorem dJ1_charAt_3b067_9 : decode cJ1_charAt_3b067 9 = .ok (.sipush 255, 3) := by decide +kernel
theorem dJ1_charAt_3b067_12 : decode cJ1_charAt_3b067 12 = .ok (.iand, 1) := by decide +kernel
theorem dJ1_charAt_3b067_13 : decode cJ1_charAt_3b067 13 = .ok (.i2c, 1) := by decide +kernel
theorem dJ1_charAt_3b067_14 : decode cJ1_charAt_3b067 14 = .ok (.ireturn, 1) := by decide +kernel
theorem dJ2_getChar_3b067_0 : decode cJ2_getChar_3b067 0 = .ok (.getstatic 44, 3) := by decide +kernel
theorem dJ2_getChar_3b067_3 : decode cJ2_getChar_3b067 3 = .ok (.ifCond .ne 25, 3) := by decide +kernel
theorem dJ2_getChar_3b067_6 : decode cJ2_getChar_3b067 6 = .ok (.iload_n 1, 1) := by decide +kernel
theorem dJ2_getChar_3b067_7 : decode cJ2_getChar_3b067 7 = .ok (.ifCond .lt 11, 3) := by decide +kernel
theorem dJ2_getChar_3b067_10 : decode cJ2_getChar_3b067 10 = .ok (.iload_n 1, 1) := by decide +kernel
theorem dJ2_getChar_3b067_11 : decode cJ2_getChar_3b067 11 = .ok (.aload_n 0, 1) := by decide +kernel
theorem dJ2_getChar_3b067_12 : decode cJ2_getChar_3b067 12 = .ok (.invokestatic 48, 3) := by decide +kernel
theorem dJ2_getChar_3b067_15 : decode cJ2_getChar_3b067 15 = .ok (.if_icmp .lt 13, 3) := by decide +kernel
theorem dJ2_getChar_3b067_18 : decode cJ2_getChar_3b067 18 = .ok (.new 52, 3) := by decide +kernel
theorem dJ2_getChar_3b067_21 : decode cJ2_getChar_3b067 21 = .ok (.dup, 1) := by decide +kernel
theorem dJ2_getChar_3b067_22 : decode cJ2_getChar_3b067 22 = .ok (.ldc 54, 2) := by decide +kernel
theorem dJ2_getChar_3b067_24 : decode cJ2_getChar_3b067 24 = .ok (.invokespecial 56, 3) := by decide +kernel
theorem dJ2_getChar_3b067_27 : decode cJ2_getChar_3b067 27 = .ok (.athrow, 1) := by decide +kernel
theorem dJ2_getChar_3b067_28 : decode cJ2_getChar_3b067 28 = .ok (.iload_n 1, 1) := by decide +kernel
theorem dJ2_getChar_3b067_29 : decode cJ2_getChar_3b067 29 = .ok (.iconst 1, 1) := by decide +kernel
theorem dJ2_getChar_3b067_30 : decode cJ2_getChar_3b067 30 = .ok (.ishl, 1) := by decide +kernel
theorem dJ2_getChar_3b067_31 : decode cJ2_getChar_3b067 31 = .ok (.istore_n 1, 1) := by decide +kernel
theorem dJ2_getChar_3b067_32 : decode cJ2_getChar_3b067 32 = .ok (.aload_n 0, 1) := by decide +kernel
theorem dJ2_getChar_3b067_33 : decode cJ2_getChar_3b067 33 = .ok (.iload_n 1, 1) := by decide +kernel
theorem dJ2_getChar_3b067_34 : decode cJ2_getChar_3b067 34 = .ok (.iinc 1 1, 3) := by decide +kernel
theorem dJ2_getChar_3b067_37 : decode cJ2_getChar_3b067 37 = .ok (.baload, 1) := by decide +kernel
theorem dJ2_getChar_3b067_38 : decode cJ2_getChar_3b067 38 = .ok (.sipush 255, 3) := by decide +kernel
theorem dJ2_getChar_3b067_41 : decode cJ2_getChar_3b067 41 = .ok (.iand, 1) := by decide +kernel
theorem dJ2_getChar_3b067_42 : decode cJ2_getChar_3b067 42 = .ok (.getstatic 59, 3) := by decide +kernel
theorem dJ2_getChar_3b067_45 : decode cJ2_getChar_3b067 45 = .ok (.ishl, 1) := by decide +kernel
theorem dJ2_getChar_3b067_46 : decode cJ2_getChar_3b067 46 = .ok (.aload_n 0, 1) := by decide +kernel
theorem dJ2_getChar_3b067_47 : decode cJ2_getChar_3b067 47 = .ok (.iload_n 1, 1) := by decide +kernel
theorem dJ2_getChar_3b067_48 : decode cJ2_getChar_3b067 48 = .ok (.baload, 1) := by decide +kernel
theorem dJ2_getChar_3b067_49 : decode cJ2_getChar_3b067 49 = .ok (.sipush 255, 3) := by decide +kernel
theorem dJ2_getChar_3b067_52 : decode cJ2_getChar_3b067 52 = .ok (.iand, 1) := by decide +kernel
theorem dJ2_getChar_3b067_53 : decode cJ2_getChar_3b067 53 = .ok (.getstatic 63, 3) := by decide +kernel
theorem dJ2_getChar_3b067_56 : decode cJ2_getChar_3b067 56 = .ok (.ishl, 1) := by decide +kernel
theorem dJ2_getChar_3b067_57 : decode cJ2_getChar_3b067 57 = .ok (.ior, 1) := by decide +kernel
theorem dJ2_getChar_3b067_58 : decode cJ2_getChar_3b067 58 = .ok (.i2c, 1) := by decide +kernel
theorem dJ2_getChar_3b067_59 : decode cJ2_getChar_3b067 59 = .ok (.ireturn, 1) := by decide +kernel
theorem dJ2_length_9d52b_0 : decode cJ2_length_9d52b 0 = .ok (.aload_n 0, 1) := by decide +kernel
theorem dJ2_length_9d52b_1 : decode cJ2_length_9d52b 1 = .ok (.arraylength, 1) := by decide +kernel
theorem dJ2_length_9d52b_2 : decode cJ2_length_9d52b 2 = .ok (.iconst 1, 1) := by decide +kernel
theorem dJ2_length_9d52b_3 : decode cJ2_length_9d52b 3 = .ok (.ishr, 1) := by decide +kernel
theorem dJ2_length_9d52b_4 : decode cJ2_length_9d52b 4 = .ok (.ireturn, 1) := by decide +kernel
theorem dJ2_charAt_3b067_0 : decode cJ2_charAt_3b067 0 = .ok (.iload_n 1, 1) := by decide +kernel
theorem dJ2_charAt_3b067_1 : decode cJ2_charAt_3b067 1 = .ok (.aload_n 0, 1) := by decide +kernel
theorem dJ2_charAt_3b067_2 : decode cJ2_charAt_3b067 2 = .ok (.invokestatic 67, 3) := by decide +kernel
theorem dJ2_charAt_3b067_5 : decode cJ2_charAt_3b067 5 = .ok (.aload_n 0, 1) := by decide +kernel
theorem dJ2_charAt_3b067_6 : decode cJ2_charAt_3b067 6 = .ok (.iload_n 1, 1) := by decide +kernel
theorem dJ2_charAt_3b067_7 : decode cJ2_charAt_3b067 7 = .ok (.invokestatic 71, 3) := by decide +kernel
theorem dJ2_charAt_3b067_10 : decode cJ2_charAt_3b067 10 = .ok (.ireturn, 1) := by decide +kernel
theorem dJ2_checkIndex_2214a_0 : decode cJ2_checkIndex_2214a 0 = .ok (.iload_n 0, 1) := by decide +kernel
theorem dJ2_checkIndex_2214a_1 : decode cJ2_checkIndex_2214a 1 = .ok (.aload_n 1, 1) := by decide +kernel
theorem dJ2_checkIndex_2214a_2 : decode cJ2_checkIndex_2214a 2 = .ok (.invokestatic 48, 3) := by decide +kernel
theorem dJ2_checkIndex_2214a_5 : decode cJ2_checkIndex_2214a 5 = .ok (.invokestatic 414, 3) := by decide +kernel
theorem dJ2_checkIndex_2214a_8 : decode cJ2_checkIndex_2214a 8 = .ok (.return_, 1) := by decide +kernel
theorem dJ3_checkIndex_8e157_0 : decode cJ3_checkIndex_8e157 0 = .ok (.iload_n 0, 1) := by decide +kernel
theorem dJ3_checkIndex_8e157_1 : decode cJ3_checkIndex_8e157 1 = .ok (.ifCond .lt 8, 3) := by decide +kernel
theorem dJ3_checkIndex_8e157_4 : decode cJ3_checkIndex_8e157 4 = .ok (.iload_n 0, 1) := by decide +kernel
theorem dJ3_checkIndex_8e157_5 : decode cJ3_checkIndex_8e157 5 = .ok (.iload_n 1, 1) := by decide +kernel
theorem dJ3_checkIndex_8e157_6 : decode cJ3_checkIndex_8e157 6 = .ok (.if_icmp .lt 10, 3) := by decide +kernel
theorem dJ3_checkIndex_8e157_9 : decode cJ3_checkIndex_8e157 9 = .ok (.aload_n 2, 1) := by decide +kernel
theorem dJ3_checkIndex_8e157_10 : decode cJ3_checkIndex_8e157 10 = .ok (.iload_n 0, 1) := by decide +kernel
theorem dJ3_checkIndex_8e157_11 : decode cJ3_checkIndex_8e157 11 = .ok (.iload_n 1, 1) := by decide +kernel
theorem dJ3_checkIndex_8e157_12 : decode cJ3_checkIndex_8e157 12 = .ok (.invokestatic 95, 3) := by decide +kernel
theorem dJ3_checkIndex_8e157_15 : decode cJ3_checkIndex_8e157 15 = .ok (.athrow, 1) := by decide +kernel
theorem dJ3_checkIndex_8e157_16 : decode cJ3_checkIndex_8e157 16 = .ok (.iload_n 0, 1) := by decide +kernel
theorem dJ3_checkIndex_8e157_17 : decode cJ3_checkIndex_8e157 17 = .ok (.ireturn, 1) := by decide +kernel
theorem dL_cell_0 : decode cL_cell 0 = .ok (.ldc 7, 2) := by decide +kernel
theorem dL_cell_2 : decode cL_cell 2 = .ok (.iload_n 1, 1) := by decide +kernel
theorem dL_cell_3 : decode cL_cell 3 = .ok (.aload_n 0, 1) := by decide +kernel
theorem dL_cell_4 : decode cL_cell 4 = .ok (.arraylength, 1) := by decide +kernel
theorem dL_cell_5 : decode cL_cell 5 = .ok (.if_icmp .ge 9, 3) := by decide +kernel
theorem dL_cell_8 : decode cL_cell 8 = .ok (.aload_n 0, 1) := by decide +kernel
theorem dL_cell_9 : decode cL_cell 9 = .ok (.iload_n 1, 1) := by decide +kernel
theorem dL_cell_10 : decode cL_cell 10 = .ok (.iaload, 1) := by decide +kernel
theorem dL_cell_11 : decode cL_cell 11 = .ok (.goto 4, 3) := by decide +kernel
theorem dL_cell_14 : decode cL_cell 14 = .ok (.iconst 0, 1) := by decide +kernel
theorem dL_cell_15 : decode cL_cell 15 = .ok (.sipush 1009, 3) := by decide +kernel
theorem dL_cell_18 : decode cL_cell 18 = .ok (.iload_n 1, 1) := by decide +kernel
theorem dL_cell_19 : decode cL_cell 19 = .ok (.imul, 1) := by decide +kernel
theorem dL_cell_20 : decode cL_cell 20 = .ok (.iadd, 1) := by decide +kernel
theorem dL_cell_21 : decode cL_cell 21 = .ok (.imul, 1) := by decide +kernel
theorem dL_cell_22 : decode cL_cell 22 = .ok (.sipush 12345, 3) := by decide +kernel
theorem dL_cell_25 : decode cL_cell 25 = .ok (.iadd, 1) := by decide +kernel
theorem dL_cell_26 : decode cL_cell 26 = .ok (.istore_n 2, 1) := by decide +kernel
theorem dL_cell_27 : decode cL_cell 27 = .ok (.iload_n 2, 1) := by decide +kernel
theorem dL_cell_28 : decode cL_cell 28 = .ok (.iload_n 2, 1) := by decide +kernel
theorem dL_cell_29 : decode cL_cell 29 = .ok (.bipush 13, 2) := by decide +kernel
theorem dL_cell_31 : decode cL_cell 31 = .ok (.iushr, 1) := by decide +kernel
theorem dL_cell_32 : decode cL_cell 32 = .ok (.ixor, 1) := by decide +kernel
theorem dL_cell_33 : decode cL_cell 33 = .ok (.ldc 8, 2) := by decide +kernel
theorem dL_cell_35 : decode cL_cell 35 = .ok (.imul, 1) := by decide +kernel
theorem dL_cell_36 : decode cL_cell 36 = .ok (.istore_n 2, 1) := by decide +kernel
theorem dL_cell_37 : decode cL_cell 37 = .ok (.iload_n 2, 1) := by decide +kernel
theorem dL_cell_38 : decode cL_cell 38 = .ok (.iload_n 2, 1) := by decide +kernel
theorem dL_cell_39 : decode cL_cell 39 = .ok (.bipush 16, 2) := by decide +kernel
theorem dL_cell_41 : decode cL_cell 41 = .ok (.iushr, 1) := by decide +kernel
theorem dL_cell_42 : decode cL_cell 42 = .ok (.ixor, 1) := by decide +kernel
theorem dL_cell_43 : decode cL_cell 43 = .ok (.ireturn, 1) := by decide +kernel
theorem dL_addGuild_0 : decode cL_addGuild 0 = .ok (.aload_n 0, 1) := by decide +kernel
theorem dL_addGuild_1 : decode cL_addGuild 1 = .ok (.iload_n 1, 1) := by decide +kernel
theorem dL_addGuild_2 : decode cL_addGuild 2 = .ok (.iload_n 2, 1) := by decide +kernel
theorem dL_addGuild_3 : decode cL_addGuild 3 = .ok (.iload_n 3, 1) := by decide +kernel
theorem dL_addGuild_4 : decode cL_addGuild 4 = .ok (.invokevirtual 9, 3) := by decide +kernel
theorem dL_addGuild_7 : decode cL_addGuild 7 = .ok (.ireturn, 1) := by decide +kernel
theorem dL_addGuild_8 : decode cL_addGuild 8 = .ok (.astore 4, 2) := by decide +kernel
theorem dL_addGuild_10 : decode cL_addGuild 10 = .ok (.ldc 17, 2) := by decide +kernel
theorem dL_addGuild_12 : decode cL_addGuild 12 = .ok (.ireturn, 1) := by decide +kernel
theorem dL_addGuild_13 : decode cL_addGuild 13 = .ok (.astore 4, 2) := by decide +kernel
theorem dL_addGuild_15 : decode cL_addGuild 15 = .ok (.ldc 20, 2) := by decide +kernel
theorem dL_addGuild_17 : decode cL_addGuild 17 = .ok (.ireturn, 1) := by decide +kernel
theorem dL_merge_0 : decode cL_merge 0 = .ok (.aload_n 0, 1) := by decide +kernel
theorem dL_merge_1 : decode cL_merge 1 = .ok (.iload_n 1, 1) := by decide +kernel
theorem dL_merge_2 : decode cL_merge 2 = .ok (.iload_n 2, 1) := by decide +kernel
theorem dL_merge_3 : decode cL_merge 3 = .ok (.invokevirtual 21, 3) := by decide +kernel
theorem dL_merge_6 : decode cL_merge 6 = .ok (.ireturn, 1) := by decide +kernel
theorem dL_merge_7 : decode cL_merge 7 = .ok (.astore_n 3, 1) := by decide +kernel
theorem dL_merge_8 : decode cL_merge 8 = .ok (.ldc 17, 2) := by decide +kernel
theorem dL_merge_10 : decode cL_merge 10 = .ok (.ireturn, 1) := by decide +kernel
theorem dL_merge_11 : decode cL_merge 11 = .ok (.astore_n 3, 1) := by decide +kernel
theorem dL_merge_12 : decode cL_merge 12 = .ok (.ldc 20, 2) := by decide +kernel
theorem dL_merge_14 : decode cL_merge 14 = .ok (.ireturn, 1) := by decide +kernel
theorem dL_merge_15 : decode cL_merge 15 = .ok (.astore_n 3, 1) := by decide +kernel
theorem dL_merge_16 : decode cL_merge 16 = .ok (.ldc 29, 2) := by decide +kernel
theorem dL_merge_18 : decode cL_merge 18 = .ok (.ireturn, 1) := by decide +kernel
theorem dL_of_0 : decode cL_of 0 = .ok (.aload_n 0, 1) := by decide +kernel
theorem dL_of_1 : decode cL_of 1 = .ok (.iload_n 1, 1) := by decide +kernel
theorem dL_of_2 : decode cL_of 2 = .ok (.iload_n 2, 1) := by decide +kernel
theorem dL_of_3 : decode cL_of 3 = .ok (.invokevirtual 30, 3) := by decide +kernel
theorem dL_of_6 : decode cL_of 6 = .ok (.ireturn, 1) := by decide +kernel
theorem dL_of_7 : decode cL_of 7 = .ok (.astore_n 3, 1) := by decide +kernel
theorem dL_of_8 : decode cL_of 8 = .ok (.ldc 17, 2) := by decide +kernel
theorem dL_of_10 : decode cL_of 10 = .ok (.ireturn, 1) := by decide +kernel
theorem dL_of_11 : decode cL_of 11 = .ok (.astore_n 3, 1) := by decide +kernel
theorem dL_of_12 : decode cL_of 12 = .ok (.ldc 20, 2) := by decide +kernel
theorem dL_of_14 : decode cL_of 14 = .ok (.ireturn, 1) := by decide +kernel
theorem dL_type_0 : decode cL_type 0 = .ok (.aload_n 0, 1) := by decide +kernel
theorem dL_type_1 : decode cL_type 1 = .ok (.iload_n 1, 1) := by decide +kernel
theorem dL_type_2 : decode cL_type 2 = .ok (.invokevirtual 34, 3) := by decide +kernel
theorem dL_type_5 : decode cL_type 5 = .ok (.ireturn, 1) := by decide +kernel
theorem dL_type_6 : decode cL_type 6 = .ok (.astore_n 2, 1) := by decide +kernel
theorem dL_type_7 : decode cL_type 7 = .ok (.ldc 17, 2) := by decide +kernel
theorem dL_type_9 : decode cL_type 9 = .ok (.ireturn, 1) := by decide +kernel
theorem dL_type_10 : decode cL_type 10 = .ok (.astore_n 2, 1) := by decide +kernel
theorem dL_type_11 : decode cL_type 11 = .ok (.ldc 20, 2) := by decide +kernel
theorem dL_type_13 : decode cL_type 13 = .ok (.ireturn, 1) := by decide +kernel
theorem dL_subject_0 : decode cL_subject 0 = .ok (.aload_n 0, 1) := by decide +kernel
theorem dL_subject_1 : decode cL_subject 1 = .ok (.iload_n 1, 1) := by decide +kernel
theorem dL_subject_2 : decode cL_subject 2 = .ok (.invokevirtual 38, 3) := by decide +kernel
theorem dL_subject_5 : decode cL_subject 5 = .ok (.ireturn, 1) := by decide +kernel
theorem dL_subject_6 : decode cL_subject 6 = .ok (.astore_n 2, 1) := by decide +kernel
theorem dL_subject_7 : decode cL_subject 7 = .ok (.ldc 17, 2) := by decide +kernel
theorem dL_subject_9 : decode cL_subject 9 = .ok (.ireturn, 1) := by decide +kernel
theorem dL_subject_10 : decode cL_subject 10 = .ok (.astore_n 2, 1) := by decide +kernel
theorem dL_subject_11 : decode cL_subject 11 = .ok (.ldc 20, 2) := by decide +kernel
theorem dL_subject_13 : decode cL_subject 13 = .ok (.ireturn, 1) := by decide +kernel
theorem dL_learn_0 : decode cL_learn 0 = .ok (.aload_n 0, 1) := by decide +kernel
theorem dL_learn_1 : decode cL_learn 1 = .ok (.iload_n 1, 1) := by decide +kernel
theorem dL_learn_2 : decode cL_learn 2 = .ok (.iload_n 2, 1) := by decide +kernel
theorem dL_learn_3 : decode cL_learn 3 = .ok (.invokevirtual 42, 3) := by decide +kernel
theorem dL_learn_6 : decode cL_learn 6 = .ok (.ireturn, 1) := by decide +kernel
theorem dL_learn_7 : decode cL_learn 7 = .ok (.astore_n 3, 1) := by decide +kernel
theorem dL_learn_8 : decode cL_learn 8 = .ok (.ldc 17, 2) := by decide +kernel
theorem dL_learn_10 : decode cL_learn 10 = .ok (.ireturn, 1) := by decide +kernel
theorem dL_learn_11 : decode cL_learn 11 = .ok (.astore_n 3, 1) := by decide +kernel
theorem dL_learn_12 : decode cL_learn 12 = .ok (.ldc 20, 2) := by decide +kernel
theorem dL_learn_14 : decode cL_learn 14 = .ok (.ireturn, 1) := by decide +kernel
theorem dL_learn_15 : decode cL_learn 15 = .ok (.astore_n 3, 1) := by decide +kernel
theorem dL_learn_16 : decode cL_learn 16 = .ok (.ldc 29, 2) := by decide +kernel
theorem dL_learn_18 : decode cL_learn 18 = .ok (.ireturn, 1) := by decide +kernel
theorem dL_cast_0 : decode cL_cast 0 = .ok (.aload_n 0, 1) := by decide +kernel
theorem dL_cast_1 : decode cL_cast 1 = .ok (.iload_n 1, 1) := by decide +kernel
theorem dL_cast_2 : decode cL_cast 2 = .ok (.iload_n 2, 1) := by decide +kernel
theorem dL_cast_3 : decode cL_cast 3 = .ok (.iload_n 3, 1) := by decide +kernel
theorem dL_cast_4 : decode cL_cast 4 = .ok (.invokevirtual 45, 3) := by decide +kernel
theorem dL_cast_7 : decode cL_cast 7 = .ok (.ireturn, 1) := by decide +kernel
theorem dL_cast_8 : decode cL_cast 8 = .ok (.astore 4, 2) := by decide +kernel
theorem dL_cast_10 : decode cL_cast 10 = .ok (.ldc 17, 2) := by decide +kernel
theorem dL_cast_12 : decode cL_cast 12 = .ok (.ireturn, 1) := by decide +kernel
theorem dL_cast_13 : decode cL_cast 13 = .ok (.astore 4, 2) := by decide +kernel
theorem dL_cast_15 : decode cL_cast 15 = .ok (.ldc 20, 2) := by decide +kernel
theorem dL_cast_17 : decode cL_cast 17 = .ok (.ireturn, 1) := by decide +kernel
theorem dL_wagon_0 : decode cL_wagon 0 = .ok (.aload_n 0, 1) := by decide +kernel
theorem dL_wagon_1 : decode cL_wagon 1 = .ok (.iload_n 1, 1) := by decide +kernel
theorem dL_wagon_2 : decode cL_wagon 2 = .ok (.iload_n 2, 1) := by decide +kernel
theorem dL_wagon_3 : decode cL_wagon 3 = .ok (.iload_n 3, 1) := by decide +kernel
theorem dL_wagon_4 : decode cL_wagon 4 = .ok (.invokevirtual 48, 3) := by decide +kernel
theorem dL_wagon_7 : decode cL_wagon 7 = .ok (.ireturn, 1) := by decide +kernel
theorem dL_wagon_8 : decode cL_wagon 8 = .ok (.astore 4, 2) := by decide +kernel
theorem dL_wagon_10 : decode cL_wagon 10 = .ok (.ldc 17, 2) := by decide +kernel
theorem dL_wagon_12 : decode cL_wagon 12 = .ok (.ireturn, 1) := by decide +kernel
theorem dL_wagon_13 : decode cL_wagon 13 = .ok (.astore 4, 2) := by decide +kernel
theorem dL_wagon_15 : decode cL_wagon 15 = .ok (.ldc 20, 2) := by decide +kernel
theorem dL_wagon_17 : decode cL_wagon 17 = .ok (.ireturn, 1) := by decide +kernel
theorem dL_mend_0 : decode cL_mend 0 = .ok (.aload_n 0, 1) := by decide +kernel
theorem dL_mend_1 : decode cL_mend 1 = .ok (.iload_n 1, 1) := by decide +kernel
theorem dL_mend_2 : decode cL_mend 2 = .ok (.iload_n 2, 1) := by decide +kernel
theorem dL_mend_3 : decode cL_mend 3 = .ok (.invokevirtual 51, 3) := by decide +kernel
theorem dL_mend_6 : decode cL_mend 6 = .ok (.ireturn, 1) := by decide +kernel
theorem dL_mend_7 : decode cL_mend 7 = .ok (.astore_n 3, 1) := by decide +kernel
theorem dL_mend_8 : decode cL_mend 8 = .ok (.ldc 17, 2) := by decide +kernel
theorem dL_mend_10 : decode cL_mend 10 = .ok (.ireturn, 1) := by decide +kernel
theorem dL_mend_11 : decode cL_mend 11 = .ok (.astore_n 3, 1) := by decide +kernel
theorem dL_mend_12 : decode cL_mend 12 = .ok (.ldc 20, 2) := by decide +kernel
theorem dL_mend_14 : decode cL_mend 14 = .ok (.ireturn, 1) := by decide +kernel
theorem dL_mend_15 : decode cL_mend 15 = .ok (.astore_n 3, 1) := by decide +kernel
theorem dL_mend_16 : decode cL_mend 16 = .ok (.ldc 29, 2) := by decide +kernel
theorem dL_mend_18 : decode cL_mend 18 = .ok (.ireturn, 1) := by decide +kernel
theorem dL_put_0 : decode cL_put 0 = .ok (.aload_n 0, 1) := by decide +kernel
theorem dL_put_1 : decode cL_put 1 = .ok (.iload_n 1, 1) := by decide +kernel
theorem dL_put_2 : decode cL_put 2 = .ok (.iload_n 2, 1) := by decide +kernel
theorem dL_put_3 : decode cL_put 3 = .ok (.invokevirtual 54, 3) := by decide +kernel
theorem dL_put_6 : decode cL_put 6 = .ok (.ireturn, 1) := by decide +kernel
theorem dL_put_7 : decode cL_put 7 = .ok (.astore_n 3, 1) := by decide +kernel
theorem dL_put_8 : decode cL_put 8 = .ok (.ldc 17, 2) := by decide +kernel
theorem dL_put_10 : decode cL_put 10 = .ok (.ireturn, 1) := by decide +kernel
theorem dL_put_11 : decode cL_put 11 = .ok (.astore_n 3, 1) := by decide +kernel
theorem dL_put_12 : decode cL_put 12 = .ok (.ldc 20, 2) := by decide +kernel
theorem dL_put_14 : decode cL_put 14 = .ok (.ireturn, 1) := by decide +kernel
theorem dL_place_0 : decode cL_place 0 = .ok (.aload_n 0, 1) := by decide +kernel
theorem dL_place_1 : decode cL_place 1 = .ok (.iload_n 1, 1) := by decide +kernel
theorem dL_place_2 : decode cL_place 2 = .ok (.invokevirtual 57, 3) := by decide +kernel
theorem dL_place_5 : decode cL_place 5 = .ok (.ireturn, 1) := by decide +kernel
theorem dL_place_6 : decode cL_place 6 = .ok (.astore_n 2, 1) := by decide +kernel
theorem dL_place_7 : decode cL_place 7 = .ok (.ldc 17, 2) := by decide +kernel
theorem dL_place_9 : decode cL_place 9 = .ok (.ireturn, 1) := by decide +kernel
theorem dL_add_0 : decode cL_add 0 = .ok (.aload_n 0, 1) := by decide +kernel
theorem dL_add_1 : decode cL_add 1 = .ok (.iload_n 1, 1) := by decide +kernel
theorem dL_add_2 : decode cL_add 2 = .ok (.iload_n 2, 1) := by decide +kernel
theorem dL_add_3 : decode cL_add 3 = .ok (.invokevirtual 61, 3) := by decide +kernel
theorem dL_add_6 : decode cL_add 6 = .ok (.ireturn, 1) := by decide +kernel
theorem dL_add_7 : decode cL_add 7 = .ok (.astore_n 3, 1) := by decide +kernel
theorem dL_add_8 : decode cL_add 8 = .ok (.ldc 17, 2) := by decide +kernel
theorem dL_add_10 : decode cL_add 10 = .ok (.ireturn, 1) := by decide +kernel
theorem dL_add_11 : decode cL_add 11 = .ok (.astore_n 3, 1) := by decide +kernel
theorem dL_add_12 : decode cL_add 12 = .ok (.ldc 20, 2) := by decide +kernel
theorem dL_add_14 : decode cL_add 14 = .ok (.ireturn, 1) := by decide +kernel
theorem dL_add_15 : decode cL_add 15 = .ok (.astore_n 3, 1) := by decide +kernel
theorem dL_add_16 : decode cL_add 16 = .ok (.ldc 29, 2) := by decide +kernel
theorem dL_add_18 : decode cL_add 18 = .ok (.ireturn, 1) := by decide +kernel
theorem dL_day_0 : decode cL_day 0 = .ok (.aload_n 0, 1) := by decide +kernel
theorem dL_day_1 : decode cL_day 1 = .ok (.invokevirtual 64, 3) := by decide +kernel
theorem dL_day_4 : decode cL_day 4 = .ok (.ireturn, 1) := by decide +kernel
theorem dL_day_5 : decode cL_day 5 = .ok (.astore_n 1, 1) := by decide +kernel
theorem dL_day_6 : decode cL_day 6 = .ok (.ldc 17, 2) := by decide +kernel
theorem dL_day_8 : decode cL_day 8 = .ok (.ireturn, 1) := by decide +kernel
theorem dL_end_0 : decode cL_end 0 = .ok (.aload_n 0, 1) := by decide +kernel
theorem dL_end_1 : decode cL_end 1 = .ok (.invokevirtual 68, 3) := by decide +kernel
theorem dL_end_4 : decode cL_end 4 = .ok (.ireturn, 1) := by decide +kernel
theorem dL_end_5 : decode cL_end 5 = .ok (.astore_n 1, 1) := by decide +kernel
theorem dL_end_6 : decode cL_end 6 = .ok (.ldc 17, 2) := by decide +kernel
theorem dL_end_8 : decode cL_end 8 = .ok (.ireturn, 1) := by decide +kernel
theorem dL_foresee_0 : decode cL_foresee 0 = .ok (.aload_n 0, 1) := by decide +kernel
theorem dL_foresee_1 : decode cL_foresee 1 = .ok (.invokevirtual 71, 3) := by decide +kernel
theorem dL_foresee_4 : decode cL_foresee 4 = .ok (.ireturn, 1) := by decide +kernel
theorem dL_foresee_5 : decode cL_foresee 5 = .ok (.astore_n 1, 1) := by decide +kernel
theorem dL_foresee_6 : decode cL_foresee 6 = .ok (.ldc 17, 2) := by decide +kernel
theorem dL_foresee_8 : decode cL_foresee 8 = .ok (.ireturn, 1) := by decide +kernel
theorem dL_leaves_0 : decode cL_leaves 0 = .ok (.aload_n 0, 1) := by decide +kernel
theorem dL_leaves_1 : decode cL_leaves 1 = .ok (.iload_n 1, 1) := by decide +kernel
theorem dL_leaves_2 : decode cL_leaves 2 = .ok (.invokevirtual 74, 3) := by decide +kernel
theorem dL_leaves_5 : decode cL_leaves 5 = .ok (.ireturn, 1) := by decide +kernel
theorem dL_leaves_6 : decode cL_leaves 6 = .ok (.astore_n 2, 1) := by decide +kernel
theorem dL_leaves_7 : decode cL_leaves 7 = .ok (.ldc 17, 2) := by decide +kernel
theorem dL_leaves_9 : decode cL_leaves 9 = .ok (.ireturn, 1) := by decide +kernel
theorem dL_known_0 : decode cL_known 0 = .ok (.aload_n 0, 1) := by decide +kernel
theorem dL_known_1 : decode cL_known 1 = .ok (.iload_n 1, 1) := by decide +kernel
theorem dL_known_2 : decode cL_known 2 = .ok (.invokevirtual 77, 3) := by decide +kernel
theorem dL_known_5 : decode cL_known 5 = .ok (.ireturn, 1) := by decide +kernel
theorem dL_known_6 : decode cL_known 6 = .ok (.astore_n 2, 1) := by decide +kernel
theorem dL_known_7 : decode cL_known 7 = .ok (.ldc 17, 2) := by decide +kernel
theorem dL_known_9 : decode cL_known 9 = .ok (.ireturn, 1) := by decide +kernel
theorem dL_year_0 : decode cL_year 0 = .ok (.aload_n 0, 1) := by decide +kernel
theorem dL_year_1 : decode cL_year 1 = .ok (.invokevirtual 80, 3) := by decide +kernel
theorem dL_year_4 : decode cL_year 4 = .ok (.ireturn, 1) := by decide +kernel
theorem dL_year_5 : decode cL_year 5 = .ok (.astore_n 1, 1) := by decide +kernel
theorem dL_year_6 : decode cL_year 6 = .ok (.ldc 17, 2) := by decide +kernel
theorem dL_year_8 : decode cL_year 8 = .ok (.ireturn, 1) := by decide +kernel
theorem dL_isOver_0 : decode cL_isOver 0 = .ok (.aload_n 0, 1) := by decide +kernel
theorem dL_isOver_1 : decode cL_isOver 1 = .ok (.iload_n 1, 1) := by decide +kernel
theorem dL_isOver_2 : decode cL_isOver 2 = .ok (.invokevirtual 83, 3) := by decide +kernel
theorem dL_isOver_5 : decode cL_isOver 5 = .ok (.ifCond .eq 7, 3) := by decide +kernel
theorem dL_isOver_8 : decode cL_isOver 8 = .ok (.iconst 1, 1) := by decide +kernel
theorem dL_isOver_9 : decode cL_isOver 9 = .ok (.goto 4, 3) := by decide +kernel
theorem dL_isOver_12 : decode cL_isOver 12 = .ok (.iconst 0, 1) := by decide +kernel
theorem dL_isOver_13 : decode cL_isOver 13 = .ok (.ireturn, 1) := by decide +kernel
theorem dL_isOver_14 : decode cL_isOver 14 = .ok (.astore_n 2, 1) := by decide +kernel
theorem dL_isOver_15 : decode cL_isOver 15 = .ok (.ldc 17, 2) := by decide +kernel
theorem dL_isOver_17 : decode cL_isOver 17 = .ok (.ireturn, 1) := by decide +kernel
theorem dL_strike_0 : decode cL_strike 0 = .ok (.aload_n 0, 1) := by decide +kernel
theorem dL_strike_1 : decode cL_strike 1 = .ok (.iload_n 1, 1) := by decide +kernel
theorem dL_strike_2 : decode cL_strike 2 = .ok (.invokevirtual 87, 3) := by decide +kernel
theorem dL_strike_5 : decode cL_strike 5 = .ok (.ifCond .eq 7, 3) := by decide +kernel
theorem dL_strike_8 : decode cL_strike 8 = .ok (.iconst 1, 1) := by decide +kernel
theorem dL_strike_9 : decode cL_strike 9 = .ok (.goto 4, 3) := by decide +kernel
theorem dL_strike_12 : decode cL_strike 12 = .ok (.iconst 0, 1) := by decide +kernel
theorem dL_strike_13 : decode cL_strike 13 = .ok (.ireturn, 1) := by decide +kernel
theorem dL_strike_14 : decode cL_strike 14 = .ok (.astore_n 2, 1) := by decide +kernel
theorem dL_strike_15 : decode cL_strike 15 = .ok (.ldc 17, 2) := by decide +kernel
theorem dL_strike_17 : decode cL_strike 17 = .ok (.ireturn, 1) := by decide +kernel
theorem dL_lose_0 : decode cL_lose 0 = .ok (.aload_n 0, 1) := by decide +kernel
theorem dL_lose_1 : decode cL_lose 1 = .ok (.iload_n 1, 1) := by decide +kernel
theorem dL_lose_2 : decode cL_lose 2 = .ok (.iload_n 2, 1) := by decide +kernel
theorem dL_lose_3 : decode cL_lose 3 = .ok (.invokevirtual 91, 3) := by decide +kernel
theorem dL_lose_6 : decode cL_lose 6 = .ok (.ifCond .eq 7, 3) := by decide +kernel
theorem dL_lose_9 : decode cL_lose 9 = .ok (.iconst 1, 1) := by decide +kernel
theorem dL_lose_10 : decode cL_lose 10 = .ok (.goto 4, 3) := by decide +kernel
theorem dL_lose_13 : decode cL_lose 13 = .ok (.iconst 0, 1) := by decide +kernel
theorem dL_lose_14 : decode cL_lose 14 = .ok (.ireturn, 1) := by decide +kernel
theorem dL_lose_15 : decode cL_lose 15 = .ok (.astore_n 3, 1) := by decide +kernel
theorem dL_lose_16 : decode cL_lose 16 = .ok (.ldc 17, 2) := by decide +kernel
theorem dL_lose_18 : decode cL_lose 18 = .ok (.ireturn, 1) := by decide +kernel
theorem dL_lose_19 : decode cL_lose 19 = .ok (.astore_n 3, 1) := by decide +kernel
theorem dL_lose_20 : decode cL_lose 20 = .ok (.ldc 20, 2) := by decide +kernel
theorem dL_lose_22 : decode cL_lose 22 = .ok (.ireturn, 1) := by decide +kernel
theorem dL_in_0 : decode cL_in 0 = .ok (.aload_n 0, 1) := by decide +kernel
theorem dL_in_1 : decode cL_in 1 = .ok (.iload_n 1, 1) := by decide +kernel
theorem dL_in_2 : decode cL_in 2 = .ok (.invokestatic 95, 3) := by decide +kernel
theorem dL_in_5 : decode cL_in 5 = .ok (.ldc 101, 2) := by decide +kernel
theorem dL_in_7 : decode cL_in 7 = .ok (.iand, 1) := by decide +kernel
theorem dL_in_8 : decode cL_in 8 = .ok (.iload_n 2, 1) := by decide +kernel
theorem dL_in_9 : decode cL_in 9 = .ok (.irem, 1) := by decide +kernel
theorem dL_in_10 : decode cL_in 10 = .ok (.ireturn, 1) := by decide +kernel
theorem dL_types_0 : decode cL_types 0 = .ok (.aload_n 0, 1) := by decide +kernel
theorem dL_types_1 : decode cL_types 1 = .ok (.invokevirtual 102, 3) := by decide +kernel
theorem dL_types_4 : decode cL_types 4 = .ok (.istore_n 2, 1) := by decide +kernel
theorem dL_types_5 : decode cL_types 5 = .ok (.iload_n 2, 1) := by decide +kernel
theorem dL_types_6 : decode cL_types 6 = .ok (.ifCond .lt 7, 3) := by decide +kernel
theorem dL_types_9 : decode cL_types 9 = .ok (.iconst 1, 1) := by decide +kernel
theorem dL_types_10 : decode cL_types 10 = .ok (.goto 4, 3) := by decide +kernel
theorem dL_types_13 : decode cL_types 13 = .ok (.iconst 0, 1) := by decide +kernel
theorem dL_types_14 : decode cL_types 14 = .ok (.istore_n 3, 1) := by decide +kernel
theorem dL_types_15 : decode cL_types 15 = .ok (.iconst 0, 1) := by decide +kernel
theorem dL_types_16 : decode cL_types 16 = .ok (.istore 4, 2) := by decide +kernel
theorem dL_types_18 : decode cL_types 18 = .ok (.iload 4, 2) := by decide +kernel
theorem dL_types_20 : decode cL_types 20 = .ok (.aload_n 1, 1) := by decide +kernel
theorem dL_types_21 : decode cL_types 21 = .ok (.invokevirtual 105, 3) := by decide +kernel
theorem dL_types_24 : decode cL_types 24 = .ok (.if_icmp .ge 34, 3) := by decide +kernel
theorem dL_types_27 : decode cL_types 27 = .ok (.iload_n 3, 1) := by decide +kernel
theorem dL_types_28 : decode cL_types 28 = .ok (.aload_n 0, 1) := by decide +kernel
theorem dL_types_29 : decode cL_types 29 = .ok (.aload_n 1, 1) := by decide +kernel
theorem dL_types_30 : decode cL_types 30 = .ok (.iload 4, 2) := by decide +kernel
theorem dL_types_32 : decode cL_types 32 = .ok (.invokevirtual 110, 3) := by decide +kernel
theorem dL_types_35 : decode cL_types 35 = .ok (.invokestatic 113, 3) := by decide +kernel
theorem dL_types_38 : decode cL_types 38 = .ok (.iload 4, 2) := by decide +kernel
theorem dL_types_40 : decode cL_types 40 = .ok (.iconst 1, 1) := by decide +kernel
theorem dL_types_41 : decode cL_types 41 = .ok (.iadd, 1) := by decide +kernel
theorem dL_types_42 : decode cL_types 42 = .ok (.if_icmp .ne 7, 3) := by decide +kernel
theorem dL_types_45 : decode cL_types 45 = .ok (.iconst 1, 1) := by decide +kernel
theorem dL_types_46 : decode cL_types 46 = .ok (.goto 4, 3) := by decide +kernel
theorem dL_types_49 : decode cL_types 49 = .ok (.iconst 0, 1) := by decide +kernel
theorem dL_types_50 : decode cL_types 50 = .ok (.iand, 1) := by decide +kernel
theorem dL_types_51 : decode cL_types 51 = .ok (.istore_n 3, 1) := by decide +kernel
theorem dL_types_52 : decode cL_types 52 = .ok (.iinc 4 1, 3) := by decide +kernel
theorem dL_types_55 : decode cL_types 55 = .ok (.goto (-37), 3) := by decide +kernel
theorem dL_types_58 : decode cL_types 58 = .ok (.iload_n 3, 1) := by decide +kernel
theorem dL_types_59 : decode cL_types 59 = .ok (.ireturn, 1) := by decide +kernel
theorem dL_word_0 : decode cL_word 0 = .ok (.iload_n 0, 1) := by decide +kernel
theorem dL_word_1 : decode cL_word 1 = .ok (.ifCond .ne 8, 3) := by decide +kernel
theorem dL_word_4 : decode cL_word 4 = .ok (.ldc 116, 2) := by decide +kernel
theorem dL_word_6 : decode cL_word 6 = .ok (.goto 35, 3) := by decide +kernel
theorem dL_word_9 : decode cL_word 9 = .ok (.iload_n 0, 1) := by decide +kernel
theorem dL_word_10 : decode cL_word 10 = .ok (.iconst 1, 1) := by decide +kernel
theorem dL_word_11 : decode cL_word 11 = .ok (.if_icmp .ne 8, 3) := by decide +kernel
theorem dL_word_14 : decode cL_word 14 = .ok (.ldc 118, 2) := by decide +kernel
theorem dL_word_16 : decode cL_word 16 = .ok (.goto 25, 3) := by decide +kernel
theorem dL_word_19 : decode cL_word 19 = .ok (.iload_n 0, 1) := by decide +kernel
theorem dL_word_20 : decode cL_word 20 = .ok (.iconst 2, 1) := by decide +kernel
theorem dL_word_21 : decode cL_word 21 = .ok (.if_icmp .ne 8, 3) := by decide +kernel
theorem dL_word_24 : decode cL_word 24 = .ok (.ldc 120, 2) := by decide +kernel
theorem dL_word_26 : decode cL_word 26 = .ok (.goto 15, 3) := by decide +kernel
theorem dL_word_29 : decode cL_word 29 = .ok (.iload_n 0, 1) := by decide +kernel
theorem dL_word_30 : decode cL_word 30 = .ok (.iconst 3, 1) := by decide +kernel
theorem dL_word_31 : decode cL_word 31 = .ok (.if_icmp .ne 8, 3) := by decide +kernel
theorem dL_word_34 : decode cL_word 34 = .ok (.ldc 122, 2) := by decide +kernel
theorem dL_word_36 : decode cL_word 36 = .ok (.goto 5, 3) := by decide +kernel
theorem dL_word_39 : decode cL_word 39 = .ok (.ldc 124, 2) := by decide +kernel
theorem dL_word_41 : decode cL_word 41 = .ok (.areturn, 1) := by decide +kernel
end
section
/-! The world of p42: all cells at the places 0 .. n-1, each at an address of its own; their ints are ONE function of place and slot. -/
abbrev zS : Type := Nat → Nat → Int32
def zu (σ : zS) (i k : Nat) (x : Int32) : zS := fun a b => if a = i ∧ b = k then x else σ a b
theorem zu_s {σ : zS} {i k : Nat} {x : Int32} : zu σ i k x i k = x := by simp [zu]
theorem zu_n {σ : zS} {i k a b : Nat} {x : Int32} (h : ¬ (a = i ∧ b = k)) : zu σ i k x a b = σ a b := if_neg h
theorem zu_row {σ : zS} {i k : Nat} {x : Int32} : zu σ i k x i = upd (σ i) k x := by
  funext b
  simp [zu, upd]
theorem zu_off {σ : zS} {i k a : Nat} {x : Int32} (h : a ≠ i) : zu σ i k x a = σ a := by
  funext b
  simp [zu, h]
def zw (n : Nat) (ad : Nat → Nat) (f : Nat → va_E) : va_W := (List.range n).map (fun i => (ad i, f i))
theorem zw_get {n k : Nat} {ad : Nat → Nat} {f : Nat → va_E} (h : k < n) : (zw n ad f)[k]? = some (ad k, f k) := by simp [zw, h]
theorem zw_at {n k : Nat} {ad : Nat → Nat} {f : Nat → va_E} {q : Nat × va_E} (h : (zw n ad f)[k]? = some q) : k < n ∧ q = (ad k, f k) := by
  by_cases hk : k < n
  · rw [zw_get hk] at h
    exact ⟨hk, (Option.some.inj h).symm⟩
  · have : (zw n ad f)[k]? = none := by simp [zw]; omega
    rw [this] at h
    cases h
theorem zw_set {n k : Nat} {ad : Nat → Nat} {f : Nat → va_E} {e : va_E} (h : k < n) : (zw n ad f).set k (ad k, e) = zw n ad (va_up f k e) := by
  apply List.ext_getElem?
  intro j
  by_cases hj : j = k
  · subst hj
    rw [List.getElem?_set_self (by simp [zw, h]), zw_get h, va_up_self]
  · rw [List.getElem?_set_ne (Ne.symm hj)]
    by_cases hn : j < n
    · rw [zw_get hn, zw_get hn, va_up_ne _ _ hj]
    · simp [zw, hn]
/-- the places differ in their addresses, all of a kind -/
def zD (n : Nat) (ad : Nat → Nat) : Prop := ∀ i j : Nat, i < n → j < n → ad i = ad j → i = j
theorem zw_D {A : Nat → Prop} {n : Nat} {ad : Nat → Nat} {f : Nat → va_E} (h : zD n ad) (hA : ∀ i, i < n → A (ad i)) : va_D A (zw n ad f) := by
  refine ⟨fun i j x y hi hj hxy => ?_, fun k q hk => ?_⟩
  · obtain ⟨h1, rfl⟩ := zw_at hi
    obtain ⟨h2, rfl⟩ := zw_at hj
    exact h i j h1 h2 hxy
  · obtain ⟨h1, rfl⟩ := zw_at hk
    exact hA k h1
/-- what a method may change: the world's cells, and what it makes -/
def zA (n : Nat) (ad : Nat → Nat) (sz : Nat) : Nat → Prop := fun q => (∃ i, i < n ∧ q = ad i) ∨ sz ≤ q
/-- the cell at a place: cy the array classes ([I [Z [C [LGuild; [[Z [[I), N the guilds of the law, r the place's ints -/
def zc (cy : Nat → ClassId) (N : Nat) (ad : Nat → Nat) (i : Nat) (r : Nat → Int32) : va_E :=
  if i = 0 then .inr (9, [.ref (ad 1), .ref (ad 2), .ref (ad 3), .ref (ad 4), .ref (ad 7), .ref (ad 6), .ref (ad 101), .ref (ad 102), .ref (ad 103), .ref (ad 104), .int (r 10), .int (r 11), .int (r 12), .int (r 13), .int (r 14), .int (r 15)])
  else if i = 1 then .inl (cy 3, 8, .inr (.inr (.inr (.inr (fun j => some (ad (8 + j)))))))
  else if i = 2 then .inl (cy 0, 8, .inl r)
  else if i = 3 then .inr (2, [.ref (ad 105), .ref (ad 106), .int (r 2)])
  else if i = 4 then .inr (4, [.ref (ad 5), .int (r 1)])
  else if i = 5 then .inl (cy 2, 10, .inl r)
  else if i = 6 then .inl (cy 0, 10, .inl r)
  else if i = 7 then .inl (cy 1, 5, .inl r)
  else if i < 16 then .inr (3, [.int (r 0), .int (r 1), .int (r 2), .int (r 3), .int (r 4), .int (r 5), .ref (ad (i + 8))])
  else if i < 24 then .inr (6, [.int (r 0), .int (r 1), .int (r 2), .int (r 3), .int (r 4), .ref (ad (i + 8)), .ref (ad (i + 16))])
  else if i < 32 then .inl (cy 0, 8, .inl r)
  else if i < 40 then .inl (cy 1, 15, .inl r)
  else if i < 46 then .inl (cy 0, N, .inl r)
  else if i = 46 then .inl (cy 2, N, .inl r)
  else if i = 47 then .inl (cy 1, N, .inl r)
  else if i = 48 then .inl (cy 4, N, .inr (.inr (.inr (.inr (fun k => some (ad (51 + 2 * k)))))))
  else if i = 49 then .inl (cy 5, N, .inr (.inr (.inr (.inr (fun k => some (ad (52 + 2 * k)))))))
  else if i = 50 then .inl (cy 0, N, .inl r)
  else if (i - 51) % 2 = 0 then .inl (cy 1, 15, .inl r)
  else .inl (cy 0, 8, .inl r)
section ZC
variable {cy : Nat → ClassId} {N : Nat} {ad : Nat → Nat} {r : Nat → Int32}
theorem zc_0 : zc cy N ad 0 r = .inr (9, [.ref (ad 1), .ref (ad 2), .ref (ad 3), .ref (ad 4), .ref (ad 7), .ref (ad 6), .ref (ad 101), .ref (ad 102), .ref (ad 103), .ref (ad 104), .int (r 10), .int (r 11), .int (r 12), .int (r 13), .int (r 14), .int (r 15)]) := rfl
theorem zc_1 : zc cy N ad 1 r = .inl (cy 3, 8, .inr (.inr (.inr (.inr (fun j => some (ad (8 + j))))))) := rfl
theorem zc_2 : zc cy N ad 2 r = .inl (cy 0, 8, .inl r) := rfl
theorem zc_3 : zc cy N ad 3 r = .inr (2, [.ref (ad 105), .ref (ad 106), .int (r 2)]) := rfl
theorem zc_4 : zc cy N ad 4 r = .inr (4, [.ref (ad 5), .int (r 1)]) := rfl
theorem zc_5 : zc cy N ad 5 r = .inl (cy 2, 10, .inl r) := rfl
theorem zc_6 : zc cy N ad 6 r = .inl (cy 0, 10, .inl r) := rfl
theorem zc_7 : zc cy N ad 7 r = .inl (cy 1, 5, .inl r) := rfl
theorem zc_G {g : Nat} (h : g < 8) : zc cy N ad (8 + g) r = .inr (3, [.int (r 0), .int (r 1), .int (r 2), .int (r 3), .int (r 4), .int (r 5), .ref (ad (16 + g))]) := by
  unfold zc
  rw [if_neg (by omega), if_neg (by omega), if_neg (by omega), if_neg (by omega), if_neg (by omega), if_neg (by omega), if_neg (by omega), if_neg (by omega), if_pos (by omega), show 8 + g + 8 = 16 + g by omega]
theorem zc_P {g : Nat} (h : g < 8) : zc cy N ad (16 + g) r = .inr (6, [.int (r 0), .int (r 1), .int (r 2), .int (r 3), .int (r 4), .ref (ad (24 + g)), .ref (ad (32 + g))]) := by
  unfold zc
  rw [if_neg (by omega), if_neg (by omega), if_neg (by omega), if_neg (by omega), if_neg (by omega), if_neg (by omega), if_neg (by omega), if_neg (by omega), if_neg (by omega), if_pos (by omega), show 16 + g + 8 = 24 + g by omega, show 16 + g + 16 = 32 + g by omega]
theorem zc_R {g : Nat} (h : g < 8) : zc cy N ad (24 + g) r = .inl (cy 0, 8, .inl r) := by
  unfold zc
  rw [if_neg (by omega), if_neg (by omega), if_neg (by omega), if_neg (by omega), if_neg (by omega), if_neg (by omega), if_neg (by omega), if_neg (by omega), if_neg (by omega), if_neg (by omega), if_pos (by omega)]
theorem zc_L {g : Nat} (h : g < 8) : zc cy N ad (32 + g) r = .inl (cy 1, 15, .inl r) := by
  unfold zc
  rw [if_neg (by omega), if_neg (by omega), if_neg (by omega), if_neg (by omega), if_neg (by omega), if_neg (by omega), if_neg (by omega), if_neg (by omega), if_neg (by omega), if_neg (by omega), if_neg (by omega), if_pos (by omega)]
theorem zc_40 : zc cy N ad 40 r = .inl (cy 0, N, .inl r) := rfl
theorem zc_41 : zc cy N ad 41 r = .inl (cy 0, N, .inl r) := rfl
theorem zc_42 : zc cy N ad 42 r = .inl (cy 0, N, .inl r) := rfl
theorem zc_43 : zc cy N ad 43 r = .inl (cy 0, N, .inl r) := rfl
theorem zc_44 : zc cy N ad 44 r = .inl (cy 0, N, .inl r) := rfl
theorem zc_45 : zc cy N ad 45 r = .inl (cy 0, N, .inl r) := rfl
theorem zc_46 : zc cy N ad 46 r = .inl (cy 2, N, .inl r) := rfl
theorem zc_47 : zc cy N ad 47 r = .inl (cy 1, N, .inl r) := rfl
theorem zc_48 : zc cy N ad 48 r = .inl (cy 4, N, .inr (.inr (.inr (.inr (fun k => some (ad (51 + 2 * k))))))) := rfl
theorem zc_49 : zc cy N ad 49 r = .inl (cy 5, N, .inr (.inr (.inr (.inr (fun k => some (ad (52 + 2 * k))))))) := rfl
theorem zc_50 : zc cy N ad 50 r = .inl (cy 0, N, .inl r) := rfl
theorem zc_lost {k : Nat} : zc cy N ad (51 + 2 * k) r = .inl (cy 1, 15, .inl r) := by
  unfold zc
  rw [if_neg (by omega), if_neg (by omega), if_neg (by omega), if_neg (by omega), if_neg (by omega), if_neg (by omega), if_neg (by omega), if_neg (by omega), if_neg (by omega), if_neg (by omega), if_neg (by omega), if_neg (by omega), if_neg (by omega), if_neg (by omega), if_neg (by omega), if_neg (by omega), if_neg (by omega), if_neg (by omega), if_pos (by omega)]
theorem zc_plr {k : Nat} : zc cy N ad (52 + 2 * k) r = .inl (cy 0, 8, .inl r) := by
  unfold zc
  rw [if_neg (by omega), if_neg (by omega), if_neg (by omega), if_neg (by omega), if_neg (by omega), if_neg (by omega), if_neg (by omega), if_neg (by omega), if_neg (by omega), if_neg (by omega), if_neg (by omega), if_neg (by omega), if_neg (by omega), if_neg (by omega), if_neg (by omega), if_neg (by omega), if_neg (by omega), if_neg (by omega), if_neg (by omega)]
end ZC
def zf (cy : Nat → ClassId) (N : Nat) (ad : Nat → Nat) (σ : zS) : Nat → va_E := fun i => zc cy N ad i (σ i)
theorem zf_put {cy : Nat → ClassId} {N : Nat} {ad : Nat → Nat} {σ : zS} {i k : Nat} {x : Int32} {e : va_E} (he : zc cy N ad i (upd (σ i) k x) = e) : va_up (zf cy N ad σ) i e = zf cy N ad (zu σ i k x) := by
  subst he
  funext j
  by_cases hj : j = i
  · subst hj
    rw [va_up_self]
    unfold zf
    rw [zu_row]
  · rw [va_up_ne _ _ hj]
    unfold zf
    rw [zu_off hj]
/-- the array classes, by name -/
abbrev zt (cy : Nat → ClassId) : List (ClassId × FieldType) := [(cy 0, .int), (cy 1, .boolean), (cy 2, .char), (cy 3, .object "Wagonplay$Guild"), (cy 4, .array .boolean), (cy 5, .array .int)]
/-- one String that nobody writes -/
def zG (len : Nat) (byt : List Int32) (a v : Nat) (A : Nat → Prop) (U : State) (H : Heap) : Prop :=
  va_O "java/lang/String" a A U H ∧ va_OF "java/lang/String" "coder" "B" (.int 0) a A U H ∧ va_OF "java/lang/String" "value" "[B" (.ref v) a A U H ∧ va_T .byte v len (fun j => .int (byt.getD j 0)) A U H
theorem zG.moved {len : Nat} {byt : List Int32} {a v : Nat} {A : Nat → Prop} {u U : State} {H : Heap} (hvm : u.vm.Alike U.vm) (h : zG len byt a v A u H) : zG len byt a v A U H := by
  obtain ⟨h1, h2, h3, h4⟩ := h
  exact ⟨va_O.moved hvm h1, va_OF.moved hvm h2, va_OF.moved hvm h3, va_T.moved hvm h4⟩
theorem zG.kept {len : Nat} {byt : List Int32} {a v : Nat} {A : Nat → Prop} {U : State} {H H1 : Heap} (h : zG len byt a v A U H) (hq : ∀ a : Nat, a < H.size → ¬ A a → H1[a]? = H[a]?) : zG len byt a v A U H1 := by
  obtain ⟨h1, h2, h3, h4⟩ := h
  exact ⟨h1.kept hq, h2.kept hq, h3.kept hq, h4.kept hq⟩
theorem zG.narrow {len : Nat} {byt : List Int32} {a v : Nat} {A B : Nat → Prop} {U : State} {H : Heap} (h : zG len byt a v A U H) (hAB : ∀ q, B q → A q) : zG len byt a v B U H := by
  obtain ⟨h1, h2, h3, h4⟩ := h
  exact ⟨h1.narrow hAB, h2.narrow hAB, h3.narrow hAB, h4.narrow hAB⟩
/-- what the start gives and nobody writes: statics of the JDK, the five words and 'floods' -/
def zE (wa : Nat → Nat) (A : Nat → Prop) (U : State) (H : Heap) : Prop :=
  vx_Zq Bundle.tN "UNASSIGNED_STACK" Bundle.steD A U H ∧ vx_Zq Bundle.tN "SUPPRESSED_SENTINEL" Bundle.listD A U H ∧ va_Z "java/lang/String" "COMPACT_STRINGS" "Z" (.int 1) A U H ∧ va_Zq "jdk/internal/util/Preconditions" "SIOOBE_FORMATTER" "Ljava/util/function/BiFunction;" A U H ∧
  zG 8 [99, 114, 101, 97, 116, 105, 111, 110] (wa 0) (wa 10) A U H ∧ zG 5 [102, 108, 111, 111, 100] (wa 1) (wa 11) A U H ∧ zG 5 [98, 105, 114, 116, 104] (wa 2) (wa 12) A U H ∧ zG 7 [112, 97, 115, 115, 105, 111, 110] (wa 3) (wa 13) A U H ∧ zG 4 [100, 111, 111, 109] (wa 4) (wa 14) A U H ∧ zG 6 [102, 108, 111, 111, 100, 115] (wa 5) (wa 15) A U H
theorem zE.moved {wa : Nat → Nat} {A : Nat → Prop} {u U : State} {H : Heap} (hvm : u.vm.Alike U.vm) (h : zE wa A u H) : zE wa A U H := by
  obtain ⟨h1, h2, h3, h4, h5, h6, h7, h8, h9, h10⟩ := h
  exact ⟨vx_Zq.moved hvm h1, vx_Zq.moved hvm h2, va_Z.moved hvm h3, va_Zq.moved hvm h4, zG.moved hvm h5, zG.moved hvm h6, zG.moved hvm h7, zG.moved hvm h8, zG.moved hvm h9, zG.moved hvm h10⟩
theorem zE.kept {wa : Nat → Nat} {A : Nat → Prop} {U : State} {H H1 : Heap} (h : zE wa A U H) (hq : ∀ a : Nat, a < H.size → ¬ A a → H1[a]? = H[a]?) : zE wa A U H1 := by
  obtain ⟨h1, h2, h3, h4, h5, h6, h7, h8, h9, h10⟩ := h
  exact ⟨h1.kept hq, h2.kept hq, h3.kept hq, h4.kept hq, h5.kept hq, h6.kept hq, h7.kept hq, h8.kept hq, h9.kept hq, h10.kept hq⟩
theorem zE.narrow {wa : Nat → Nat} {A B : Nat → Prop} {U : State} {H : Heap} (h : zE wa A U H) (hAB : ∀ q, B q → A q) : zE wa B U H := by
  obtain ⟨h1, h2, h3, h4, h5, h6, h7, h8, h9, h10⟩ := h
  exact ⟨h1.narrow hAB, h2.narrow hAB, h3.narrow hAB, h4.narrow hAB, h5.narrow hAB, h6.narrow hAB, h7.narrow hAB, h8.narrow hAB, h9.narrow hAB, h10.narrow hAB⟩
end
section
/-! The walk: locals as a list of places, a block of plain instructions as one row, the world's rows by place. -/
def zp (L : List (Option Value)) : List (Nat × Value) := (List.range L.length).filterMap (fun i => match L[i]? with | some (some v) => some (i, v) | _ => none)
theorem zp_mem {L : List (Option Value)} {i : Nat} {v : Value} (h : L[i]? = some (some v)) : (i, v) ∈ zp L := by
  have hi : i < L.length := (List.getElem?_eq_some_iff.mp h).1
  unfold zp
  rw [List.mem_filterMap]
  exact ⟨i, List.mem_range.mpr hi, by rw [h]⟩
theorem zp_of {L : List (Option Value)} {q : Nat × Value} (h : q ∈ zp L) : L[q.1]? = some (some q.2) := by
  unfold zp at h
  rw [List.mem_filterMap] at h
  obtain ⟨i, -, h⟩ := h
  cases hi : L[i]? with
  | none => rw [hi] at h; cases h
  | some o =>
    cases o with
    | none => rw [hi] at h; cases h
    | some v =>
      rw [hi] at h
      cases h
      exact hi
def zl (ls : Array Slot) (L : List (Option Value)) : Prop := ls.size = L.length ∧ lv_wf ls ∧ ∀ (i : Nat) (v : Value), L[i]? = some (some v) → v.category = 1 ∧ ls[i]? = some (.val v)
theorem zl.has {ls : Array Slot} {L : List (Option Value)} (h : zl ls L) : lv_has ls L.length (zp L) := ⟨h.1, h.2.1, fun q hq => (h.2.2 q.1 q.2 (zp_of hq)).2⟩
theorem zl.at {ls : Array Slot} {L : List (Option Value)} (h : zl ls L) {i : Nat} {v : Value} (hi : L[i]? = some (some v)) : ls[i]? = some (.val v) := (h.2.2 i v hi).2
theorem zl.set {ls ls' : Array Slot} {L : List (Option Value)} {i : Nat} {v : Value} (h : zl ls L) (hi : i < L.length) (hc : v.category = 1) (h' : lv_has ls' L.length ((i, v) :: (zp L).filter (fun q => !(q.1 == i) && !(q.1 + 1 == i && q.2.category == 2)))) : zl ls' (L.set i (some v)) := by
  refine ⟨by rw [List.length_set]; exact h'.1, h'.2.1, fun j w hj => ?_⟩
  by_cases e : j = i
  · subst e
    rw [List.getElem?_set_self hi] at hj
    cases hj
    exact ⟨hc, h'.2.2 (j, v) List.mem_cons_self⟩
  · rw [List.getElem?_set_ne (Ne.symm e)] at hj
    obtain ⟨c1, -⟩ := h.2.2 j w hj
    refine ⟨c1, h'.2.2 (j, w) (List.mem_cons_of_mem _ (List.mem_filter.mpr ⟨zp_mem hj, ?_⟩))⟩
    simp [e, c1]
theorem zl_entry (vs : List Value) {n : Nat} (hc : ∀ v ∈ vs, v.category = 1) (h : vs.length ≤ n) : zl ((lg_sl vs ++ List.replicate (n - (lg_sl vs).length) Slot.unset).toArray) (vs.map some ++ List.replicate (n - vs.length) none) := by
  have e : ∀ (k : Nat) (us : List Value), (∀ v ∈ us, v.category = 1) → (lg_sl us).length = us.length ∧ ∀ (i : Nat) (v : Value), us[i]? = some v → (k + i, v) ∈ lv_args k us := by
    intro k us
    induction us generalizing k with
    | nil => exact fun _ => ⟨rfl, fun i v h => by simp at h⟩
    | cons u us ih =>
      intro hu
      have h1 : u.category = 1 := hu u List.mem_cons_self
      obtain ⟨l1, l2⟩ := ih (k + 1) (fun v hv => hu v (List.mem_cons_of_mem _ hv))
      have h2 : ¬ u.category = 2 := by omega
      have e9 : lg_sl (u :: us) = Slot.val u :: lg_sl us := by simp [lg_sl, h2]
      refine ⟨by rw [e9, List.length_cons, List.length_cons, l1], fun i v hv => ?_⟩
      simp only [lv_args, h2, if_false]
      cases i with
      | zero =>
        simp at hv
        subst hv
        exact List.mem_cons_self
      | succ i =>
        simp at hv
        have := l2 i v hv
        rw [show k + 1 + i = k + (i + 1) by omega] at this
        exact List.mem_cons_of_mem _ this
  obtain ⟨e1, e2⟩ := e 0 vs hc
  have hh := lv_entry vs (n := n) (by rw [e1]; exact h)
  refine ⟨by rw [hh.1]; simp; omega, hh.2.1, fun i v hv => ?_⟩
  by_cases hi : i < vs.length
  · rw [List.getElem?_append_left (by simpa using hi)] at hv
    simp only [List.getElem?_map] at hv
    cases hw : vs[i]? with
    | none => rw [hw] at hv; cases hv
    | some w =>
      rw [hw] at hv
      cases hv
      have := e2 i v hw
      rw [Nat.zero_add] at this
      exact ⟨hc v (List.mem_of_getElem? hw), hh.2.2 (i, v) this⟩
  · rw [List.getElem?_append_right (by simpa using hi)] at hv
    rw [List.getElem?_replicate] at hv
    split at hv <;> cases hv
/-- one plain instruction: place, locals, stack -/
abbrev zT : Type := Nat × List (Option Value) × List Value
def zstep : Instr → Nat → zT → Option zT
  | .iconst n, 1, (pc, L, st) => some (pc + 1, L, .int (Int32.ofInt n) :: st)
  | .bipush n, 2, (pc, L, st) => some (pc + 2, L, .int (Int8.ofInt n).toInt32 :: st)
  | .sipush n, 3, (pc, L, st) => some (pc + 3, L, .int (Int16.ofInt n).toInt32 :: st)
  | .iload_n k, 1, (pc, L, st) => match L[(k : Nat)]? with | some (some (.int x)) => some (pc + 1, L, .int x :: st) | _ => none
  | .iload k, 2, (pc, L, st) => match L[k]? with | some (some (.int x)) => some (pc + 2, L, .int x :: st) | _ => none
  | .aload_n k, 1, (pc, L, st) => match L[(k : Nat)]? with | some (some (.ref x)) => some (pc + 1, L, .ref x :: st) | _ => none
  | .aload k, 2, (pc, L, st) => match L[k]? with | some (some (.ref x)) => some (pc + 2, L, .ref x :: st) | _ => none
  | .istore_n k, 1, (pc, L, .int x :: st) => if (k : Nat) < L.length then some (pc + 1, L.set k (some (.int x)), st) else none
  | .istore k, 2, (pc, L, .int x :: st) => if k < L.length then some (pc + 2, L.set k (some (.int x)), st) else none
  | .astore_n k, 1, (pc, L, .ref x :: st) => if (k : Nat) < L.length then some (pc + 1, L.set k (some (.ref x)), st) else none
  | .astore k, 2, (pc, L, .ref x :: st) => if k < L.length then some (pc + 2, L.set k (some (.ref x)), st) else none
  | .iinc k n, 3, (pc, L, st) => match L[k]? with | some (some (.int x)) => some (pc + 3, L.set k (some (.int (x + Int32.ofInt n))), st) | _ => none
  | .iadd, 1, (pc, L, .int y :: .int x :: st) => some (pc + 1, L, .int (x + y) :: st)
  | .isub, 1, (pc, L, .int y :: .int x :: st) => some (pc + 1, L, .int (x - y) :: st)
  | .imul, 1, (pc, L, .int y :: .int x :: st) => some (pc + 1, L, .int (x * y) :: st)
  | .iand, 1, (pc, L, .int y :: .int x :: st) => some (pc + 1, L, .int (x &&& y) :: st)
  | .ior, 1, (pc, L, .int y :: .int x :: st) => some (pc + 1, L, .int (x ||| y) :: st)
  | .ixor, 1, (pc, L, .int y :: .int x :: st) => some (pc + 1, L, .int (x ^^^ y) :: st)
  | .pop, 1, (pc, L, .int _ :: st) => some (pc + 1, L, st)
  | .dup, 1, (pc, L, .int x :: st) => some (pc + 1, L, .int x :: .int x :: st)
  | .dup, 1, (pc, L, .ref x :: st) => some (pc + 1, L, .ref x :: .ref x :: st)
  | .dup2, 1, (pc, L, .int y :: .ref x :: st) => some (pc + 1, L, .int y :: .ref x :: .int y :: .ref x :: st)
  | _, _, _ => none
def zgo (cc : ByteArray) : List (Nat × Instr × Nat) → zT → Option zT
  | [], t => some t
  | q :: is, t => if q.1 = t.1 then match zstep q.2.1 q.2.2 t with | some t' => zgo cc is t' | none => none else none
def zds (cc : ByteArray) : List (Nat × Instr × Nat) → Prop
  | [] => True
  | q :: is => decode cc q.1 = .ok (q.2.1, q.2.2) ∧ zds cc is
section ZR
variable {p : Program} {l : Launch} {e : Env} {R : Room} {s : State} {m : MethodId} {args : Array Value} {below : List Frame} {meth : Method} {c : Code} {H : Heap} {locs : List Loc} {cells slots : Nat} {Q : State → Prop}
variable {cc : ByteArray} {pc : Nat} {L : List (Option Value)} {st : List Value}
/-- W for every locals that hold L -/
def zV (p : Program) (l : Launch) (e : Env) (R : Room) (s : State) (m : MethodId) (args : Array Value) (below : List Frame) (meth : Method) (c : Code) (H : Heap) (locs : List Loc) (cells slots : Nat) (Q : State → Prop) (t : zT) : Prop :=
  ∀ ls : Array Slot, zl ls t.2.1 → W p l e R s m args below meth c H locs cells slots Q (F0 m t.1 ls t.2.2)
theorem zV_step (hx : p.tables.exec = Jvm.exec) (hb : c.code = cc) {i : Instr} {len : Nat} {t t' : zT} (hd : decode cc t.1 = .ok (i, len)) (h : zstep i len t = some t') (k : zV p l e R s m args below meth c H locs cells slots Q t') : zV p l e R s m args below meth c H locs cells slots Q t := by
  intro ls hl
  obtain ⟨pc, L, st⟩ := t
  dsimp only at hd hl ⊢
  have k' := k
  unfold zV at k'
  unfold zstep at h
  split at h
  all_goals first
    | (cases h; done)
    | (rename_i heq; cases heq; cases h; exact lv_iconst hx hb hd rfl (k' ls hl))
    | (rename_i heq; cases heq; cases h; exact lv_bipush hx hb hd rfl (k' ls hl))
    | (rename_i heq; cases heq; cases h; exact lv_sipush hx hb hd rfl (k' ls hl))
    | (rename_i heq; cases heq; cases h; exact lv_iadd hx hb hd (k' ls hl))
    | (rename_i heq; cases heq; cases h; exact lv_isub hx hb hd (k' ls hl))
    | (rename_i heq; cases heq; cases h; exact lv_imul hx hb hd (k' ls hl))
    | (rename_i heq; cases heq; cases h; exact lv_iand hx hb hd (k' ls hl))
    | (rename_i heq; cases heq; cases h; exact lv_ior hx hb hd (k' ls hl))
    | (rename_i heq; cases heq; cases h; exact lv_ixor hx hb hd (k' ls hl))
    | (rename_i heq; cases heq; cases h; exact lv_pop hx hb hd rfl (k' ls hl))
    | (rename_i heq; cases heq; cases h; exact lv_dup hx hb hd rfl (k' ls hl))
    | (rename_i heq; cases heq; cases h; exact lv_dup2_11 hx hb hd rfl rfl (k' ls hl))
    | (rename_i heq; cases heq; split at h; (rename_i hL; cases h; exact lv_iload_n hx hb hd rfl (hl.at hL) (k' ls hl)); cases h)
    | (rename_i heq; cases heq; split at h; (rename_i hL; cases h; exact lv_iload hx hb hd (hl.at hL) (k' ls hl)); cases h)
    | (rename_i heq; cases heq; split at h; (rename_i hL; cases h; exact lv_aload_n hx hb hd rfl (hl.at hL) (k' ls hl)); cases h)
    | (rename_i heq; cases heq; split at h; (rename_i hL; cases h; exact lv_aload hx hb hd (hl.at hL) (k' ls hl)); cases h)
    | (rename_i heq; cases heq; split at h; (rename_i hL; cases h; exact lv_istore_n hx hb hd rfl hl.has hL rfl (fun ls' h' => k' ls' (hl.set hL rfl h'))); cases h)
    | (rename_i heq; cases heq; split at h; (rename_i hL; cases h; exact lv_istore hx hb hd hl.has hL rfl (fun ls' h' => k' ls' (hl.set hL rfl h'))); cases h)
    | (rename_i heq; cases heq; split at h; (rename_i hL; cases h; exact lv_astore_n hx hb hd rfl hl.has hL rfl (fun ls' h' => k' ls' (hl.set hL rfl h'))); cases h)
    | (rename_i heq; cases heq; split at h; (rename_i hL; cases h; exact lv_astore hx hb hd hl.has hL rfl (fun ls' h' => k' ls' (hl.set hL rfl h'))); cases h)
    | (rename_i heq; cases heq; split at h; (rename_i hL; cases h; obtain ⟨k9, hk9⟩ := List.getElem?_of_mem (zp_mem hL); exact lv_iinc hx hb hd hl.has hk9 rfl (List.getElem?_eq_some_iff.mp hL).1 rfl (fun ls' h' => k' ls' (hl.set (List.getElem?_eq_some_iff.mp hL).1 rfl h'))); cases h)
    | skip
theorem zV_go (hx : p.tables.exec = Jvm.exec) (hb : c.code = cc) : ∀ (is : List (Nat × Instr × Nat)) (t t' : zT), zds cc is → zgo cc is t = some t' → zV p l e R s m args below meth c H locs cells slots Q t' → zV p l e R s m args below meth c H locs cells slots Q t
  | [], t, t', _, h, k => by
    cases h
    exact k
  | q :: is, t, t', hd, h, k => by
    unfold zgo at h
    by_cases hq : q.1 = t.1
    · rw [if_pos hq] at h
      cases hz : zstep q.2.1 q.2.2 t with
      | none => rw [hz] at h; cases h
      | some t1 =>
        rw [hz] at h
        exact zV_step hx hb (by rw [← hq]; exact hd.1) hz (zV_go hx hb is t1 t' hd.2 h k)
    · rw [if_neg hq] at h
      cases h
end ZR
end
section
/-! Rows over the world by place. -/
def zMs : List (String × Nat × String) := [("Wagonplay", 354, "out of range"), ("Wagonplay", 356, "no such guild"), ("Wagonplay", 94, "a guild is not merged into itself"), ("Wagonplay", 358, "the guild is over"), ("Wagonplay", 123, "no such thing of a guild"), ("Wagonplay", 125, "no small letter"), ("Wagonplay", 374, "no subject is typed"), ("Wagonplay", 160, "no such part"), ("Wagonplay", 174, "a wagon has at most 9 wheels"), ("Wagonplay", 220, "a play has at most 600 lines"), ("Wagonplay", 362, "there are no stations"), ("Wagonplay", 364, "no day was played in this year")]
def zWs : List (String × Nat × String × Nat) := [("Wagonplay$Letters", 37, "creation", 0), ("Wagonplay$Letters", 39, "flood", 1), ("Wagonplay$Letters", 41, "birth", 2), ("Wagonplay$Letters", 43, "passion", 3), ("Wagonplay$Letters", 45, "doom", 4), ("WagonplayLaw", 116, "creation", 0), ("WagonplayLaw", 118, "flood", 1), ("WagonplayLaw", 120, "birth", 2), ("WagonplayLaw", 122, "passion", 3), ("WagonplayLaw", 124, "doom", 4), ("WagonplayLaw", 177, "floods", 5)]
def zNs : List (String × String) := [("java/lang/IllegalArgumentException", "java/lang/IndexOutOfBoundsException"), ("java/lang/UnsupportedOperationException", "java/lang/IndexOutOfBoundsException"), ("java/lang/UnsupportedOperationException", "java/lang/IllegalArgumentException"), ("java/lang/IllegalStateException", "java/lang/IllegalArgumentException")]
def zCs : List String := ["java/lang/IllegalArgumentException", "java/lang/IllegalStateException", "java/lang/IndexOutOfBoundsException", "java/lang/UnsupportedOperationException"]
def zDs : List String := ["java/lang/RuntimeException", "java/lang/Exception", "java/lang/Throwable"]
def zM (wa : Nat → Nat) (U : State) : Prop := (∀ q ∈ zMs, ∃ a : Nat, vk_R q.1 q.2.1 q.2.2 a U) ∧ (∀ q ∈ zWs, vk_R q.1 q.2.1 q.2.2.1 (wa q.2.2.2) U) ∧ (∀ q ∈ zNs, va_Nc q.1 q.2 U) ∧ (∀ E ∈ zCs, va_Nw (.castable E E) U) ∧ ∀ Y ∈ zDs, va_Nw (.declares ⟨Y, "<init>", "(Ljava/lang/String;)V"⟩) U
theorem zM.warm {wa : Nat → Nat} {s U : State} (hW : s.WarmedH U.vm) (h : zM wa s) : zM wa U :=
  ⟨fun q hq => (h.1 q hq).elim fun a ha => ⟨a, vk_R.warm hW ha⟩, fun q hq => vk_R.warm hW (h.2.1 q hq), fun q hq => va_Nc.moved hW.alike (h.2.2.1 q hq), fun E hE => va_Nw.warmC hW (h.2.2.2.1 E hE), fun Y hY => va_Nw.warmD hW (h.2.2.2.2 Y hY)⟩
theorem zM.same {wa : Nat → Nat} {u U : State} (hv : U.vm = u.vm) (h : zM wa u) : zM wa U :=
  ⟨fun q hq => (h.1 q hq).elim fun a ha => ⟨a, vk_R.same hv ha⟩, fun q hq => vk_R.same hv (h.2.1 q hq), fun q hq => va_Nc.moved (by rw [hv]; exact Vm.Alike.refl _) (h.2.2.1 q hq), fun E hE => va_Nw.same rfl hv.symm (h.2.2.2.1 E hE), fun Y hY => va_Nw.same rfl hv.symm (h.2.2.2.2 Y hY)⟩
def zX (p : Program) (l : Launch) (s : State) (m : MethodId) (args : Array Value) (meth : Method) (c : Code) (cc : ByteArray) (nL : Nat) (own : String) (D : va_G) (cy : Nat → ClassId) (wa : Nat → Nat) (A : Nat → Prop) : Prop :=
  p.tables.exec = Jvm.exec ∧ c.code = cc ∧ c.maxLocals = nL ∧ s.vm.findClass own = some m.cls ∧ (∀ w ∈ zB, w.before args s = true) ∧ meth.locks = false ∧ va_K D vwCl (zt cy) s ∧ (∀ q, s.heap.size ≤ q → A q) ∧ zE wa A s s.heap ∧ zM wa s ∧ l.stackTraces = false
def zW (p : Program) (l : Launch) (e : Env) (R : Room) (s : State) (m : MethodId) (args : Array Value) (below : List Frame) (meth : Method) (c : Code) (D : va_G) (cy : Nat → ClassId) (N : Nat) (A : Nat → Prop) (n : Nat) (ad : Nat → Nat) (cells slots : Nat) (Q : State → Prop) (t : zT) (σ : zS) : Prop :=
  ∀ (H : Heap) (locs : List Loc), va_P D vwCl (zw n ad (zf cy N ad σ)) H → va_S A s.heap H locs → zV p l e R s m args below meth c H locs cells slots Q t
/-- a method's start, and its ends -/
def zPc (av : List Value) (D : va_G) (cy : Nat → ClassId) (wa : Nat → Nat) (N n : Nat) (ad : Nat → Nat) (σ : zS) (sz : Nat) : Array Value → State → Prop :=
  va_Pc av (fun U => U.heap.size = sz ∧ va_P D vwCl (zw n ad (zf cy N ad σ)) U.heap ∧ va_K D vwCl (zt cy) U ∧ zE wa (zA n ad sz) U U.heap ∧ zM wa U)
def zQi (ans : Int32) (D : va_G) (cy : Nat → ClassId) (N n : Nat) (ad : Nat → Nat) (σ : zS) (sz : Nat) : Array Value → State → Outcome → State → Prop :=
  va_Qi (S := Unit) (fun r _ => r = ans) (fun _ t => va_P D vwCl (zw n ad (zf cy N ad σ)) t.heap) (zA n ad sz)
def zQv (D : va_G) (cy : Nat → ClassId) (N n : Nat) (ad : Nat → Nat) (σ : zS) (sz : Nat) : Array Value → State → Outcome → State → Prop :=
  va_Qv (S := Unit) (fun _ => True) (fun _ t => va_P D vwCl (zw n ad (zf cy N ad σ)) t.heap) (zA n ad sz)
def zNi (n : Nat) (ad : Nat → Nat) (sz : Nat) : Array Value → State → Outcome → State → Prop := va_Qi (S := Unit) (fun _ _ => False) (fun _ _ => True) (zA n ad sz)
def zNv (n : Nat) (ad : Nat → Nat) (sz : Nat) : Array Value → State → Outcome → State → Prop := va_Qv (S := Unit) (fun _ => False) (fun _ _ => True) (zA n ad sz)
def zXC (E : String) (D : va_G) (cy : Nat → ClassId) (N n : Nat) (ad : Nat → Nat) (σ : zS) (sz : Nat) : String → State → State → Prop :=
  vx_X (S := Unit) (fun _ => True) (fun E' _ t => E' = E ∧ va_P D vwCl (zw n ad (zf cy N ad σ)) t.heap) (zA n ad sz)
abbrev zRm (d : Nat) : Room := { frames := d, cells := 0, slots := 0, locals := 40 * d }
abbrev zRx (d : Nat) : Room := { frames := 6 + d, cells := 1, slots := 6, locals := 120 + 40 * d }
section ZM
variable {av : List Value} {D : va_G} {cy : Nat → ClassId} {wa : Nat → Nat} {N n : Nat} {ad : Nat → Nat} {σ : zS} {sz : Nat}
theorem zPc_blind : FrameBlind (zPc av D cy wa N n ad σ sz) := by
  intro a U g mk h
  obtain ⟨h1, h2, h3, h4, h5, h6⟩ := h
  exact ⟨h1, h2, h3, va_K.moved (u := U) (U := U.calling g mk a) (Vm.Alike.refl U.vm) h4, zE.moved (u := U) (U := U.calling g mk a) (Vm.Alike.refl U.vm) h5, zM.same (u := U) rfl h6⟩
end ZM
/-- a body, walked from its entry, gives the contract -/
theorem z_met {l : Launch} {y : MethodName} {bytes : ByteArray} {maxL : Nat} {ret : Option FieldType} {rm : Room} {av : List Value} {D : va_G} {cy : Nat → ClassId} {wa : Nat → Nat} {N n : Nat} {ad : Nat → Nat} {σ : zS} {sz mc ms : Nat} {Qc : Array Value → State → Outcome → State → Prop}
    (hy : plainName y.cls = true) (hls : l.stackTraces = false) (hc : ∀ v ∈ av, v.category = 1) (hn : av.length ≤ maxL)
    (body : ∀ (p : Program) (e : Env) (s : State) (m : MethodId) (below : List Frame) (meth : Method) (c : Code), s.heap.size = sz → meth.sig.returnType = ret → zX p l s m av.toArray meth c bytes maxL y.cls D cy wa (zA n ad sz) →
      zW p l e rm s m av.toArray below meth c D cy N (zA n ad sz) n ad 0 0 (MQ below Qc av.toArray s mc ms (zA n ad sz)) (0, av.map some ++ List.replicate (maxL - av.length) none, []) σ) :
    Met l y (.code y bytes maxL ret :: zB) rm (zPc av D cy wa N n ad σ sz) Qc mc ms (zA n ad sz) := by
  refine Met.ofW (cc := bytes) (maxL := maxL) (ret := ret) hy rfl ?_
  intro p e s m args below meth c s₁ B hml hv
  obtain ⟨rfl, hsz, hP, hK, hE, hM⟩ := hv
  have hts := atoms_spec (ws := .code y bytes maxL ret :: zB) B.pre
  have hX : zX p l s m av.toArray meth c bytes maxL y.cls D cy wa (zA n ad sz) := ⟨B.exec, B.bytes, hml, findClass_of_methodNamed B.named, fun w hw => hts w (List.mem_cons_of_mem _ hw), B.notSynchronized, hK, fun q h => Or.inr (by rw [← hsz]; exact h), hE, hM, hls⟩
  rw [lg_entry_eq]
  exact body p e s m below meth c hsz B.returns hX s.heap [] hP va_S.rf _ (zl_entry av hc hn)
/-- the same of a body that throws -/
theorem z_metx {l : Launch} {y : MethodName} {bytes : ByteArray} {maxL : Nat} {ret : Option FieldType} {rm : Room} {av : List Value} {D : va_G} {cy : Nat → ClassId} {wa : Nat → Nat} {N n : Nat} {ad : Nat → Nat} {σ : zS} {sz mc ms : Nat} {Qc : Array Value → State → Outcome → State → Prop} {XC : String → State → State → Prop}
    (hy : plainName y.cls = true) (hls : l.stackTraces = false) (hc : ∀ v ∈ av, v.category = 1) (hn : av.length ≤ maxL)
    (body : ∀ (p : Program) (e : Env) (s : State) (m : MethodId) (below : List Frame) (meth : Method) (c : Code), s.heap.size = sz → meth.sig.returnType = ret → (∀ x ∈ c.exceptionTable.toList, False) → zX p l s m av.toArray meth c bytes maxL y.cls D cy wa (zA n ad sz) →
      zW p l e rm s m av.toArray below meth c D cy N (zA n ad sz) n ad 0 0 (vx_MQ below Qc XC av.toArray s mc ms (zA n ad sz)) (0, av.map some ++ List.replicate (maxL - av.length) none, []) σ) :
    vx_Met l y (.code y bytes maxL ret :: zB) rm (zPc av D cy wa N n ad σ sz) Qc XC mc ms (zA n ad sz) := by
  refine vx_ofW (cc := bytes) (maxL := maxL) (ret := ret) hy rfl ?_
  intro p e s m args below meth c s₁ B hml hno hv
  obtain ⟨rfl, hsz, hP, hK, hE, hM⟩ := hv
  have hts := atoms_spec (ws := .code y bytes maxL ret :: zB) B.pre
  have hX : zX p l s m av.toArray meth c bytes maxL y.cls D cy wa (zA n ad sz) := ⟨B.exec, B.bytes, hml, findClass_of_methodNamed B.named, fun w hw => hts w (List.mem_cons_of_mem _ hw), B.notSynchronized, hK, fun q h => Or.inr (by rw [← hsz]; exact h), hE, hM, hls⟩
  rw [lg_entry_eq]
  exact body p e s m below meth c hsz B.returns hno hX s.heap [] hP va_S.rf _ (zl_entry av hc hn)
theorem z_goodIn {w0 : Cond} (h : w0 ∈ zB) : GoodIn zB (w0 :: zB) := by
  intro w hw
  rcases List.mem_cons.mp hw with rfl | hw
  · exact ⟨h, good_of_word (List.all_eq_true.mp zB_good _ h)⟩
  · exact ⟨hw, good_of_word (List.all_eq_true.mp zB_good _ hw)⟩
theorem z_gV {own C : String} {index : Nat} {y : MethodName} {w0 : Cond} (h1 : Cond.methodLink own index y ∈ zB) (h2 : Cond.instanceMethod y ∈ zB) (h3 : Cond.selects C y y ∈ zB) (h4 : Cond.initialized C ∈ zB) (h5 : w0 ∈ zB) : GoodIn zB (wsV own index C y (w0 :: zB)) := by
  intro w hw
  unfold wsV at hw
  rcases List.mem_append.mp hw with hw | hw
  · have : w ∈ zB := by
      simp only [List.mem_cons, List.not_mem_nil, or_false] at hw
      rcases hw with rfl | rfl | rfl | rfl
      · exact h1
      · exact h2
      · exact h3
      · exact h4
    exact ⟨this, good_of_word (List.all_eq_true.mp zB_good _ this)⟩
  · exact z_goodIn h5 w hw
theorem z_gS {own : String} {index : Nat} {y : MethodName} {w0 : Cond} (h1 : Cond.methodLink own index y ∈ zB) (h2 : Cond.static y ∈ zB) (h4 : Cond.initialized y.cls ∈ zB) (h5 : w0 ∈ zB) : GoodIn zB (va_wsS own index y (w0 :: zB)) := by
  intro w hw
  unfold va_wsS at hw
  rcases List.mem_append.mp hw with hw | hw
  · have : w ∈ zB := by
      simp only [List.mem_cons, List.not_mem_nil, or_false] at hw
      rcases hw with rfl | rfl | rfl
      · exact h1
      · exact h2
      · exact h4
    exact ⟨this, good_of_word (List.all_eq_true.mp zB_good _ this)⟩
  · exact z_goodIn h5 w hw
section ZW
variable {p : Program} {l : Launch} {e : Env} {R : Room} {s : State} {m : MethodId} {args : Array Value} {below : List Frame} {meth : Method} {c : Code} {D : va_G} {cy : Nat → ClassId} {wa : Nat → Nat} {N : Nat} {A : Nat → Prop} {n : Nat} {ad : Nat → Nat} {cells slots : Nat} {Q : State → Prop} {σ : zS}
variable {cc : ByteArray} {nL : Nat} {own : String} {pc : Nat} {L : List (Option Value)} {st : List Value}
theorem zw_run (X : zX p l s m args meth c cc nL own D cy wa A) {is : List (Nat × Instr × Nat)} {t t' : zT} (hd : zds cc is) (h : zgo cc is t = some t') (k : zW p l e R s m args below meth c D cy N A n ad cells slots Q t' σ) : zW p l e R s m args below meth c D cy N A n ad cells slots Q t σ :=
  fun H locs hP hS => zV_go X.1 X.2.1 is t t' hd h (k H locs hP hS)
theorem zw_widen {t : zT} {k w : Nat} (h1 : cells ≤ k) (h2 : slots ≤ w) (kk : zW p l e R s m args below meth c D cy N A n ad k w Q t σ) : zW p l e R s m args below meth c D cy N A n ad cells slots Q t σ :=
  fun H locs hP hS ls hl => W.widen h1 h2 (kk H locs hP hS ls hl)
theorem zw_getf (X : zX p l s m args meth c cc nL own D cy wa A) {i : Nat} (hi : i < n) {ci : Nat} {fs : List Value} (he : zc cy N ad i (σ i) = .inr (ci, fs)) {C : String} {T : u_T} {Nf : Nat} (hc : vwCl[ci]? = some (C, T, Nf)) (hin : ∀ w ∈ u_ws C T Nf, w ∈ zB) (k : Nat) (hk : k < Nf) (hT : (T k).1 = C) {index : Nat} (hl : Cond.fieldLink own index C (T k).2.1 (T k).2.2.1 ∈ zB) {v : Value} (hv : fs[k]? = some v) (hdg : decode cc pc = .ok (.getfield index, 3))
    (kk : zW p l e R s m args below meth c D cy N A n ad cells slots Q (pc + 3, L, v :: st) σ) : zW p l e R s m args below meth c D cy N A n ad cells slots Q (pc, L, .ref (ad i) :: st) σ := by
  obtain ⟨hx, hb, hml, hown, hts, hlk, hK, hA, hE, hM, hls⟩ := X
  intro H locs hP hS ls hl'
  exact va_get hx hb hts hin hown hK hP i (by rw [zw_get hi]; show some (ad i, zc cy N ad i (σ i)) = _; rw [he]) hc k hk (hts _ hl) (fun x h => by rw [hT] at h; exact h) hv hdg (kk H locs hP hS ls hl')
theorem zw_put (X : zX p l s m args meth c cc nL own D cy wa A) (hD : zD n ad) (hAd : ∀ i, i < n → A (ad i)) {i : Nat} (hi : i < n) {ci : Nat} {fs : List Value} (he : zc cy N ad i (σ i) = .inr (ci, fs)) {C : String} {T : u_T} {Nf : Nat} (hc : vwCl[ci]? = some (C, T, Nf)) (hin : ∀ w ∈ u_ws C T Nf, w ∈ zB) (ty0 : Nat → FieldType) (hty : ∀ k, k < Nf → parseFieldDescriptor (T k).2.2.1 = some (ty0 k)) (hnm : ∀ a, a < Nf → ∀ b, b < Nf → a ≠ b → (T a).2.1 ≠ (T b).2.1) (k : Nat) (hk : k < Nf) (hT : (T k).1 = C) (hfin : (T k).2.2.2 = false) {index : Nat} (hl : Cond.fieldLink own index C (T k).2.1 (T k).2.2.1 ∈ zB) {x : Int32} {ty : FieldType} (hd : parseFieldDescriptor (T k).2.2.1 = some ty) (hn : narrow ty (.int x) = .int x) (hfit : fits ty (.int x) = true) (hlen : k < fs.length) (he2 : zc cy N ad i (upd (σ i) k x) = .inr (ci, fs.set k (.int x))) (hdg : decode cc pc = .ok (.putfield index, 3))
    (kk : zW p l e R s m args below meth c D cy N A n ad cells slots Q (pc + 3, L, st) (zu σ i k x)) : zW p l e R s m args below meth c D cy N A n ad cells slots Q (pc, L, .int x :: .ref (ad i) :: st) σ := by
  obtain ⟨hx, hb, hml, hown, hts, hlk, hK, hA, hE, hM, hls⟩ := X
  intro H locs hP hS ls hl'
  refine va_put hx hb hts hin ty0 hty hnm hown hK hP (zw_D hD hAd) hS i (by rw [zw_get hi]; show some (ad i, zc cy N ad i (σ i)) = _; rw [he]) hc k hk (hts _ hl) (fun x h => by rw [hT] at h; exact h) hfin hd hn hfit hlen hdg (fun H1 locs1 hP1 _ hS1 => ?_)
  rw [zw_set hi, zf_put he2] at hP1
  exact kk H1 locs1 hP1 hS1 ls hl'
theorem zt_at {cy : Nat → ClassId} : (zt cy)[0]? = some (cy 0, .int) ∧ (zt cy)[1]? = some (cy 1, .boolean) ∧ (zt cy)[2]? = some (cy 2, .char) ∧ (zt cy)[3]? = some (cy 3, .object "Wagonplay$Guild") := ⟨rfl, rfl, rfl, rfl⟩
theorem zw_iald (X : zX p l s m args meth c cc nL own D cy wa A) {i : Nat} (hi : i < n) {len : Nat} (he : zc cy N ad i (σ i) = .inl (cy 0, len, .inl (σ i))) {x : Int32} {j : Nat} (hx0 : x = nI j) (hj : j < len) (hlen : len < 2 ^ 31) (hdg : decode cc pc = .ok (.iaload, 1))
    (kk : zW p l e R s m args below meth c D cy N A n ad cells slots Q (pc + 1, L, .int (σ i j) :: st) σ) : zW p l e R s m args below meth c D cy N A n ad cells slots Q (pc, L, .int x :: .ref (ad i) :: st) σ := by
  obtain ⟨hx, hb, hml, hown, hts, hlk, hK, hA, hE, hM, hls⟩ := X
  intro H locs hP hS ls hl'
  subst hx0
  refine va_iald hx hb hK hP i 0 (by rw [zw_get hi]; show some (ad i, zc cy N ad i (σ i)) = _; rw [he]) rfl (vp_in_nI hj hlen) hdg ?_
  rw [nI_clamp (Nat.lt_trans hj hlen)]
  exact kk H locs hP hS ls hl'
theorem zw_zald (X : zX p l s m args meth c cc nL own D cy wa A) {i : Nat} (hi : i < n) {len : Nat} (he : zc cy N ad i (σ i) = .inl (cy 1, len, .inl (σ i))) {x : Int32} {j : Nat} (hx0 : x = nI j) (hj : j < len) (hlen : len < 2 ^ 31) (hdg : decode cc pc = .ok (.baload, 1))
    (kk : zW p l e R s m args below meth c D cy N A n ad cells slots Q (pc + 1, L, .int (σ i j) :: st) σ) : zW p l e R s m args below meth c D cy N A n ad cells slots Q (pc, L, .int x :: .ref (ad i) :: st) σ := by
  obtain ⟨hx, hb, hml, hown, hts, hlk, hK, hA, hE, hM, hls⟩ := X
  intro H locs hP hS ls hl'
  subst hx0
  refine va_zald hx hb hK hP i 1 (by rw [zw_get hi]; show some (ad i, zc cy N ad i (σ i)) = _; rw [he]) rfl (vp_in_nI hj hlen) hdg ?_
  rw [nI_clamp (Nat.lt_trans hj hlen)]
  exact kk H locs hP hS ls hl'
theorem zw_cald (X : zX p l s m args meth c cc nL own D cy wa A) {i : Nat} (hi : i < n) {len : Nat} (he : zc cy N ad i (σ i) = .inl (cy 2, len, .inl (σ i))) {x : Int32} {j : Nat} (hx0 : x = nI j) (hj : j < len) (hlen : len < 2 ^ 31) (hdg : decode cc pc = .ok (.caload, 1))
    (kk : zW p l e R s m args below meth c D cy N A n ad cells slots Q (pc + 1, L, .int (σ i j) :: st) σ) : zW p l e R s m args below meth c D cy N A n ad cells slots Q (pc, L, .int x :: .ref (ad i) :: st) σ := by
  obtain ⟨hx, hb, hml, hown, hts, hlk, hK, hA, hE, hM, hls⟩ := X
  intro H locs hP hS ls hl'
  subst hx0
  refine va_cald hx hb hK hP i 2 (by rw [zw_get hi]; show some (ad i, zc cy N ad i (σ i)) = _; rw [he]) rfl (vp_in_nI hj hlen) hdg ?_
  rw [nI_clamp (Nat.lt_trans hj hlen)]
  exact kk H locs hP hS ls hl'
theorem zw_iast (X : zX p l s m args meth c cc nL own D cy wa A) (hD : zD n ad) (hAd : ∀ i, i < n → A (ad i)) {i : Nat} (hi : i < n) {len : Nat} (he : ∀ r, zc cy N ad i r = .inl (cy 0, len, .inl r)) {x v : Int32} {j : Nat} (hx0 : x = nI j) (hj : j < len) (hlen : len < 2 ^ 31) (hdg : decode cc pc = .ok (.iastore, 1))
    (kk : zW p l e R s m args below meth c D cy N A n ad cells slots Q (pc + 1, L, st) (zu σ i j v)) : zW p l e R s m args below meth c D cy N A n ad cells slots Q (pc, L, .int v :: .int x :: .ref (ad i) :: st) σ := by
  obtain ⟨hx, hb, hml, hown, hts, hlk, hK, hA, hE, hM, hls⟩ := X
  intro H locs hP hS ls hl'
  subst hx0
  refine va_iast hx hb hK hP (zw_D hD hAd) hS i 0 (f := σ i) (by rw [zw_get hi]; show some (ad i, zc cy N ad i (σ i)) = _; rw [he]) rfl (vp_in_nI hj hlen) hdg (fun H1 locs1 hP1 _ hS1 => ?_)
  rw [nI_clamp (Nat.lt_trans hj hlen), zw_set hi, zf_put (he _)] at hP1
  exact kk H1 locs1 hP1 hS1 ls hl'
theorem zw_zast (X : zX p l s m args meth c cc nL own D cy wa A) (hD : zD n ad) (hAd : ∀ i, i < n → A (ad i)) {i : Nat} (hi : i < n) {len : Nat} (he : ∀ r, zc cy N ad i r = .inl (cy 1, len, .inl r)) {x v : Int32} {j : Nat} (hx0 : x = nI j) (hj : j < len) (hlen : len < 2 ^ 31) (hv : vp_nar .boolean v = v) (hdg : decode cc pc = .ok (.bastore, 1))
    (kk : zW p l e R s m args below meth c D cy N A n ad cells slots Q (pc + 1, L, st) (zu σ i j v)) : zW p l e R s m args below meth c D cy N A n ad cells slots Q (pc, L, .int v :: .int x :: .ref (ad i) :: st) σ := by
  obtain ⟨hx, hb, hml, hown, hts, hlk, hK, hA, hE, hM, hls⟩ := X
  intro H locs hP hS ls hl'
  subst hx0
  refine va_zast hx hb hK hP (zw_D hD hAd) hS i 1 (f := σ i) (by rw [zw_get hi]; show some (ad i, zc cy N ad i (σ i)) = _; rw [he]) rfl (vp_in_nI hj hlen) hdg (fun H1 locs1 hP1 _ hS1 => ?_)
  rw [nI_clamp (Nat.lt_trans hj hlen), hv, zw_set hi, zf_put (he _)] at hP1
  exact kk H1 locs1 hP1 hS1 ls hl'
theorem zw_cast (X : zX p l s m args meth c cc nL own D cy wa A) (hD : zD n ad) (hAd : ∀ i, i < n → A (ad i)) {i : Nat} (hi : i < n) {len : Nat} (he : ∀ r, zc cy N ad i r = .inl (cy 2, len, .inl r)) {x v : Int32} {j : Nat} (hx0 : x = nI j) (hj : j < len) (hlen : len < 2 ^ 31) (hv : vp_nar .char v = v) (hdg : decode cc pc = .ok (.castore, 1))
    (kk : zW p l e R s m args below meth c D cy N A n ad cells slots Q (pc + 1, L, st) (zu σ i j v)) : zW p l e R s m args below meth c D cy N A n ad cells slots Q (pc, L, .int v :: .int x :: .ref (ad i) :: st) σ := by
  obtain ⟨hx, hb, hml, hown, hts, hlk, hK, hA, hE, hM, hls⟩ := X
  intro H locs hP hS ls hl'
  subst hx0
  refine va_cast hx hb hK hP (zw_D hD hAd) hS i 2 (f := σ i) (by rw [zw_get hi]; show some (ad i, zc cy N ad i (σ i)) = _; rw [he]) rfl (vp_in_nI hj hlen) hdg (fun H1 locs1 hP1 _ hS1 => ?_)
  rw [nI_clamp (Nat.lt_trans hj hlen), hv, zw_set hi, zf_put (he _)] at hP1
  exact kk H1 locs1 hP1 hS1 ls hl'
/-- guilds[x] -/
theorem zw_guild (X : zX p l s m args meth c cc nL own D cy wa A) (h1 : 1 < n) {x : Int32} {g : Nat} (hx0 : x = nI g) (hg : g < 8) (hdg : decode cc pc = .ok (.aaload, 1))
    (kk : zW p l e R s m args below meth c D cy N A n ad cells slots Q (pc + 1, L, .ref (ad (8 + g)) :: st) σ) : zW p l e R s m args below meth c D cy N A n ad cells slots Q (pc, L, .int x :: .ref (ad 1) :: st) σ := by
  obtain ⟨hx, hb, hml, hown, hts, hlk, hK, hA, hE, hM, hls⟩ := X
  intro H locs hP hS ls hl'
  subst hx0
  refine va_aldq hx hb hK hP 1 3 (n := 8) (f := fun j => some (ad (8 + j))) (by rw [zw_get h1]; rfl) rfl (vp_in_nI hg (by decide)) hdg ?_
  rw [nI_clamp (Nat.lt_trans hg (by decide))]
  exact kk H locs hP hS ls hl'
/-- if_icmp, if: to the side that holds -/
theorem zw_go (X : zX p l s m args meth c cc nL own D cy wa A) {off : Int} {tgt : Nat} (hdg : decode cc pc = .ok (.goto off, 3)) (ht : (pc : Int) + off = (tgt : Int)) (k : zW p l e R s m args below meth c D cy N A n ad cells slots Q (tgt, L, st) σ) : zW p l e R s m args below meth c D cy N A n ad cells slots Q (pc, L, st) σ :=
  fun H locs hP hS ls hl => lv_goto X.1 X.2.1 hdg ht (k H locs hP hS ls hl)
theorem zw_ldc (X : zX p l s m args meth c cc nL own D cy wa A) {index : Nat} {v : Int32} (hw : Cond.constant own index v ∈ zB) (hdg : decode cc pc = .ok (.ldc index, 2)) (k : zW p l e R s m args below meth c D cy N A n ad cells slots Q (pc + 2, L, .int v :: st) σ) : zW p l e R s m args below meth c D cy N A n ad cells slots Q (pc, L, st) σ :=
  fun H locs hP hS ls hl => lv_ldc X.1 X.2.1 X.2.2.2.1 (X.2.2.2.2.1 _ hw) hdg (k H locs hP hS ls hl)
theorem zw_icmp_eq (X : zX p l s m args meth c cc nL own D cy wa A) {x y : Int32} {off : Int} {tgt : Nat} (hdg : decode cc pc = .ok (.if_icmp .eq off, 3)) (ht : (pc : Int) + off = (tgt : Int)) (kt : x = y → zW p l e R s m args below meth c D cy N A n ad cells slots Q (tgt, L, st) σ) (kf : ¬ x = y → zW p l e R s m args below meth c D cy N A n ad cells slots Q (pc + 3, L, st) σ) : zW p l e R s m args below meth c D cy N A n ad cells slots Q (pc, L, .int y :: .int x :: st) σ :=
  fun H locs hP hS ls hl => lv_icmp_eq X.1 X.2.1 hdg ht (fun h => kt h H locs hP hS ls hl) (fun h => kf h H locs hP hS ls hl)
theorem zw_if_eq (X : zX p l s m args meth c cc nL own D cy wa A) {x : Int32} {off : Int} {tgt : Nat} (hdg : decode cc pc = .ok (.ifCond .eq off, 3)) (ht : (pc : Int) + off = (tgt : Int)) (kt : x = 0 → zW p l e R s m args below meth c D cy N A n ad cells slots Q (tgt, L, st) σ) (kf : ¬ x = 0 → zW p l e R s m args below meth c D cy N A n ad cells slots Q (pc + 3, L, st) σ) : zW p l e R s m args below meth c D cy N A n ad cells slots Q (pc, L, .int x :: st) σ :=
  fun H locs hP hS ls hl => lv_if_eq X.1 X.2.1 hdg ht (fun h => kt h H locs hP hS ls hl) (fun h => kf h H locs hP hS ls hl)
theorem zw_icmp_ne (X : zX p l s m args meth c cc nL own D cy wa A) {x y : Int32} {off : Int} {tgt : Nat} (hdg : decode cc pc = .ok (.if_icmp .ne off, 3)) (ht : (pc : Int) + off = (tgt : Int)) (kt : ¬ x = y → zW p l e R s m args below meth c D cy N A n ad cells slots Q (tgt, L, st) σ) (kf : x = y → zW p l e R s m args below meth c D cy N A n ad cells slots Q (pc + 3, L, st) σ) : zW p l e R s m args below meth c D cy N A n ad cells slots Q (pc, L, .int y :: .int x :: st) σ :=
  fun H locs hP hS ls hl => lv_icmp_ne X.1 X.2.1 hdg ht (fun h => kt h H locs hP hS ls hl) (fun h => kf h H locs hP hS ls hl)
theorem zw_if_ne (X : zX p l s m args meth c cc nL own D cy wa A) {x : Int32} {off : Int} {tgt : Nat} (hdg : decode cc pc = .ok (.ifCond .ne off, 3)) (ht : (pc : Int) + off = (tgt : Int)) (kt : ¬ x = 0 → zW p l e R s m args below meth c D cy N A n ad cells slots Q (tgt, L, st) σ) (kf : x = 0 → zW p l e R s m args below meth c D cy N A n ad cells slots Q (pc + 3, L, st) σ) : zW p l e R s m args below meth c D cy N A n ad cells slots Q (pc, L, .int x :: st) σ :=
  fun H locs hP hS ls hl => lv_if_ne X.1 X.2.1 hdg ht (fun h => kt h H locs hP hS ls hl) (fun h => kf h H locs hP hS ls hl)
theorem zw_icmp_lt (X : zX p l s m args meth c cc nL own D cy wa A) {x y : Int32} {off : Int} {tgt : Nat} (hdg : decode cc pc = .ok (.if_icmp .lt off, 3)) (ht : (pc : Int) + off = (tgt : Int)) (kt : x < y → zW p l e R s m args below meth c D cy N A n ad cells slots Q (tgt, L, st) σ) (kf : ¬ x < y → zW p l e R s m args below meth c D cy N A n ad cells slots Q (pc + 3, L, st) σ) : zW p l e R s m args below meth c D cy N A n ad cells slots Q (pc, L, .int y :: .int x :: st) σ :=
  fun H locs hP hS ls hl => lv_icmp_lt X.1 X.2.1 hdg ht (fun h => kt h H locs hP hS ls hl) (fun h => kf h H locs hP hS ls hl)
theorem zw_if_lt (X : zX p l s m args meth c cc nL own D cy wa A) {x : Int32} {off : Int} {tgt : Nat} (hdg : decode cc pc = .ok (.ifCond .lt off, 3)) (ht : (pc : Int) + off = (tgt : Int)) (kt : x < 0 → zW p l e R s m args below meth c D cy N A n ad cells slots Q (tgt, L, st) σ) (kf : ¬ x < 0 → zW p l e R s m args below meth c D cy N A n ad cells slots Q (pc + 3, L, st) σ) : zW p l e R s m args below meth c D cy N A n ad cells slots Q (pc, L, .int x :: st) σ :=
  fun H locs hP hS ls hl => lv_if_lt X.1 X.2.1 hdg ht (fun h => kt h H locs hP hS ls hl) (fun h => kf h H locs hP hS ls hl)
theorem zw_icmp_ge (X : zX p l s m args meth c cc nL own D cy wa A) {x y : Int32} {off : Int} {tgt : Nat} (hdg : decode cc pc = .ok (.if_icmp .ge off, 3)) (ht : (pc : Int) + off = (tgt : Int)) (kt : y ≤ x → zW p l e R s m args below meth c D cy N A n ad cells slots Q (tgt, L, st) σ) (kf : ¬ y ≤ x → zW p l e R s m args below meth c D cy N A n ad cells slots Q (pc + 3, L, st) σ) : zW p l e R s m args below meth c D cy N A n ad cells slots Q (pc, L, .int y :: .int x :: st) σ :=
  fun H locs hP hS ls hl => lv_icmp_ge X.1 X.2.1 hdg ht (fun h => kt h H locs hP hS ls hl) (fun h => kf h H locs hP hS ls hl)
theorem zw_if_ge (X : zX p l s m args meth c cc nL own D cy wa A) {x : Int32} {off : Int} {tgt : Nat} (hdg : decode cc pc = .ok (.ifCond .ge off, 3)) (ht : (pc : Int) + off = (tgt : Int)) (kt : 0 ≤ x → zW p l e R s m args below meth c D cy N A n ad cells slots Q (tgt, L, st) σ) (kf : ¬ 0 ≤ x → zW p l e R s m args below meth c D cy N A n ad cells slots Q (pc + 3, L, st) σ) : zW p l e R s m args below meth c D cy N A n ad cells slots Q (pc, L, .int x :: st) σ :=
  fun H locs hP hS ls hl => lv_if_ge X.1 X.2.1 hdg ht (fun h => kt h H locs hP hS ls hl) (fun h => kf h H locs hP hS ls hl)
theorem zw_icmp_gt (X : zX p l s m args meth c cc nL own D cy wa A) {x y : Int32} {off : Int} {tgt : Nat} (hdg : decode cc pc = .ok (.if_icmp .gt off, 3)) (ht : (pc : Int) + off = (tgt : Int)) (kt : y < x → zW p l e R s m args below meth c D cy N A n ad cells slots Q (tgt, L, st) σ) (kf : ¬ y < x → zW p l e R s m args below meth c D cy N A n ad cells slots Q (pc + 3, L, st) σ) : zW p l e R s m args below meth c D cy N A n ad cells slots Q (pc, L, .int y :: .int x :: st) σ :=
  fun H locs hP hS ls hl => lv_icmp_gt X.1 X.2.1 hdg ht (fun h => kt h H locs hP hS ls hl) (fun h => kf h H locs hP hS ls hl)
theorem zw_if_gt (X : zX p l s m args meth c cc nL own D cy wa A) {x : Int32} {off : Int} {tgt : Nat} (hdg : decode cc pc = .ok (.ifCond .gt off, 3)) (ht : (pc : Int) + off = (tgt : Int)) (kt : 0 < x → zW p l e R s m args below meth c D cy N A n ad cells slots Q (tgt, L, st) σ) (kf : ¬ 0 < x → zW p l e R s m args below meth c D cy N A n ad cells slots Q (pc + 3, L, st) σ) : zW p l e R s m args below meth c D cy N A n ad cells slots Q (pc, L, .int x :: st) σ :=
  fun H locs hP hS ls hl => lv_if_gt X.1 X.2.1 hdg ht (fun h => kt h H locs hP hS ls hl) (fun h => kf h H locs hP hS ls hl)
theorem zw_icmp_le (X : zX p l s m args meth c cc nL own D cy wa A) {x y : Int32} {off : Int} {tgt : Nat} (hdg : decode cc pc = .ok (.if_icmp .le off, 3)) (ht : (pc : Int) + off = (tgt : Int)) (kt : x ≤ y → zW p l e R s m args below meth c D cy N A n ad cells slots Q (tgt, L, st) σ) (kf : ¬ x ≤ y → zW p l e R s m args below meth c D cy N A n ad cells slots Q (pc + 3, L, st) σ) : zW p l e R s m args below meth c D cy N A n ad cells slots Q (pc, L, .int y :: .int x :: st) σ :=
  fun H locs hP hS ls hl => lv_icmp_le X.1 X.2.1 hdg ht (fun h => kt h H locs hP hS ls hl) (fun h => kf h H locs hP hS ls hl)
theorem zw_if_le (X : zX p l s m args meth c cc nL own D cy wa A) {x : Int32} {off : Int} {tgt : Nat} (hdg : decode cc pc = .ok (.ifCond .le off, 3)) (ht : (pc : Int) + off = (tgt : Int)) (kt : x ≤ 0 → zW p l e R s m args below meth c D cy N A n ad cells slots Q (tgt, L, st) σ) (kf : ¬ x ≤ 0 → zW p l e R s m args below meth c D cy N A n ad cells slots Q (pc + 3, L, st) σ) : zW p l e R s m args below meth c D cy N A n ad cells slots Q (pc, L, .int x :: st) σ :=
  fun H locs hP hS ls hl => lv_if_le X.1 X.2.1 hdg ht (fun h => kt h H locs hP hS ls hl) (fun h => kf h H locs hP hS ls hl)
/-- a method's ends -/
theorem zw_iret (X : zX p l s m args meth c cc nL own D cy wa A) (hr : meth.sig.returnType = some .int) (hdg : decode cc pc = .ok (.ireturn, 1)) {ans v : Int32} {σ' : zS} {sz : Nat} (hA0 : A = zA n ad sz) (hv : v = ans) (hσ : σ = σ') :
    zW p l e R s m args below meth c D cy N A n ad cells slots (MQ below (zQi ans D cy N n ad σ' sz) args s cells slots A) (pc, L, [.int v]) σ := by
  subst hv; subst hσ; subst hA0
  obtain ⟨hx, hb, hml, hown, hts, hlk, hK, hA, hE, hM, hls⟩ := X
  intro H locs hP hS ls hl'
  exact W.iret hx hb hr (fun t ht hW => ⟨⟨v, (), rfl, rfl, by show va_P _ _ _ t.heap; rw [ht]; exact hP⟩, hS.F ht⟩) hS.2.2 hdg hlk
theorem zw_zret (X : zX p l s m args meth c cc nL own D cy wa A) {ty : FieldType} (hr : meth.sig.returnType = some ty) (hdg : decode cc pc = .ok (.ireturn, 1)) {ans v : Int32} {σ' : zS} {sz : Nat} (hn : narrow ty (.int v) = .int v) (hA0 : A = zA n ad sz) (hv : v = ans) (hσ : σ = σ') :
    zW p l e R s m args below meth c D cy N A n ad cells slots (MQ below (zQi ans D cy N n ad σ' sz) args s cells slots A) (pc, L, [.int v]) σ := by
  subst hv; subst hσ; subst hA0
  obtain ⟨hx, hb, hml, hown, hts, hlk, hK, hA, hE, hM, hls⟩ := X
  intro H locs hP hS ls hl'
  exact W.zret hx hb hr hn (fun t ht hW => ⟨⟨v, (), rfl, rfl, by show va_P _ _ _ t.heap; rw [ht]; exact hP⟩, hS.F ht⟩) hS.2.2 hdg hlk
theorem zw_vret (X : zX p l s m args meth c cc nL own D cy wa A) (hr : meth.sig.returnType = none) (hdg : decode cc pc = .ok (.return_, 1)) {σ' : zS} {sz : Nat} (hA0 : A = zA n ad sz) (hσ : σ = σ') :
    zW p l e R s m args below meth c D cy N A n ad cells slots (MQ below (zQv D cy N n ad σ' sz) args s cells slots A) (pc, L, []) σ := by
  subst hσ; subst hA0
  obtain ⟨hx, hb, hml, hown, hts, hlk, hK, hA, hE, hM, hls⟩ := X
  intro H locs hP hS ls hl'
  exact W.vret hx hb hr (fun t ht hW => ⟨⟨(), rfl, trivial, by show va_P _ _ _ t.heap; rw [ht]; exact hP⟩, hS.F ht⟩) hS.2.2 hdg hlk
/-- what a callee may change is the caller's to change -/
theorem zA_in (X : zX p l s m args meth c cc nL own D cy wa A) (hAd : ∀ i, i < n → A (ad i)) {H : Heap} {locs : List Loc} (hS : va_S A s.heap H locs) : ∀ q, zA n ad H.size q → A q := by
  intro q h
  rcases h with ⟨i, hi, rfl⟩ | h
  · exact hAd i hi
  · exact X.2.2.2.2.2.2.2.1 q (Nat.le_trans hS.1 h)
theorem zPc_of (X : zX p l s m args meth c cc nL own D cy wa A) (hAd : ∀ i, i < n → A (ad i)) {H : Heap} {locs : List Loc} (hS : va_S A s.heap H locs) (hP : va_P D vwCl (zw n ad (zf cy N ad σ)) H) (av : List Value) : ∀ U : State, U.heap = H → s.WarmedH U.vm → zPc av D cy wa N n ad σ H.size av.toArray U := by
  have hz := zA_in X hAd hS
  obtain ⟨hx, hb, hml, hown, hts, hlk, hK, hA, hE, hM, hls⟩ := X
  intro U hU hW
  refine ⟨rfl, by rw [hU], by rw [hU]; exact hP, va_K.moved hW.alike hK, ?_, zM.warm hW hM⟩
  rw [hU]
  exact ((zE.moved hW.alike hE).kept hS.2.1).narrow hz
theorem zw_recv (X : zX p l s m args meth c cc nL own D cy wa A) {H : Heap} (hP : va_P D vwCl (zw n ad (zf cy N ad σ)) H) {i : Nat} (hi : i < n) {ci : Nat} {fs : List Value} (he : zc cy N ad i (σ i) = .inr (ci, fs)) {q : vw_C} (hc : vwCl[ci]? = some q) : ∃ cell : Cell, H[ad i]? = some cell ∧ cell.vm.isStatics = false ∧ s.vm.findClass q.1 = some cell.cls :=
  va_recv X.2.2.2.2.2.2.1 hP hc (q0 := i) (by rw [zw_get hi]; show some (ad i, zc cy N ad i (σ i)) = _; rw [he])
theorem zw_calli (X : zX p l s m args meth c cc nL own D cy wa A) (hAd : ∀ i, i < n → A (ad i)) {y : MethodName} {ws : List Cond} {rm : Room} {mc ms : Nat} {av rest : List Value} {st0 : List Value} {ans : Int32} {σ' : zS} (hr : ∀ (H : Heap) (locs : List Loc) (ls : Array Slot), va_P D vwCl (zw n ad (zf cy N ad σ)) H → va_S A s.heap H locs → zl ls L → va_Run p l e R s m args below meth c H locs cells slots mc ms (F0 m pc ls st0) rest (zQi ans D cy N n ad σ' H.size av.toArray) (zA n ad H.size))
    (kk : zW p l e R s m args below meth c D cy N A n ad (cells + mc) (slots + ms) Q (pc + 3, L, .int ans :: rest) σ') : zW p l e R s m args below meth c D cy N A n ad cells slots Q (pc, L, st0) σ := by
  intro H locs hP hS ls hl'
  have hz := zA_in X hAd hS
  refine va_calli (hr H locs ls hP hS hl') hS (fun q _ h => hz q h) hz (fun r u t H1 locs1 ht hvm hp hB hz1 hk1 hS1 => ?_)
  subst hp
  rw [ht] at hB
  exact kk H1 locs1 hB hS1 ls hl'
theorem zw_callv (X : zX p l s m args meth c cc nL own D cy wa A) (hAd : ∀ i, i < n → A (ad i)) {mc ms : Nat} {av rest : List Value} {st0 : List Value} {σ' : zS} (hr : ∀ (H : Heap) (locs : List Loc) (ls : Array Slot), va_P D vwCl (zw n ad (zf cy N ad σ)) H → va_S A s.heap H locs → zl ls L → va_Run p l e R s m args below meth c H locs cells slots mc ms (F0 m pc ls st0) rest (zQv D cy N n ad σ' H.size av.toArray) (zA n ad H.size))
    (kk : zW p l e R s m args below meth c D cy N A n ad (cells + mc) (slots + ms) Q (pc + 3, L, rest) σ') : zW p l e R s m args below meth c D cy N A n ad cells slots Q (pc, L, st0) σ := by
  intro H locs hP hS ls hl'
  have hz := zA_in X hAd hS
  refine va_callv (hr H locs ls hP hS hl') hS (fun q _ h => hz q h) hz (fun u t H1 locs1 ht hvm hp hB hz1 hk1 hS1 => ?_)
  rw [ht] at hB
  exact kk H1 locs1 hB hS1 ls hl'
end ZW
end
section
/-! Throws: of the method's own, through a method, and caught. -/
abbrev zNames : List String := ["java/lang/RuntimeException", "java/lang/Exception"]
def zNg (E : String) : List Cond := [.declares ⟨"java/lang/RuntimeException", "<init>", "(Ljava/lang/String;)V"⟩, .declares ⟨"java/lang/Exception", "<init>", "(Ljava/lang/String;)V"⟩, .declares ⟨"java/lang/Throwable", "<init>", "(Ljava/lang/String;)V"⟩, .castable E E]
def zTh (ik ic : Nat) (E : String) : Prop := Bundle.fit E = true ∧ E ∈ zCs ∧ Cond.classLink RX7 ik E ∈ zB ∧ Cond.initialized E ∈ zB ∧ (∀ w ∈ (vx_atS RX7 ic E zNames).filter goodWord, w ∈ zB) ∧ (∀ w ∈ (vx_atS RX7 ic E zNames).filter (fun w => !goodWord w), w ∈ zNg E) ∧ ∀ w ∈ Cond.classLink RX7 ik E :: Cond.initialized E :: vx_atS RX7 ic E zNames, vx_ot w = true
theorem zTh_ise : zTh 65 69 "java/lang/IllegalStateException" := ⟨by decide +kernel, by decide +kernel, zm_108, zm_109, zi_t69, by decide +kernel, by decide +kernel⟩
theorem zTh_iae : zTh 92 96 "java/lang/IllegalArgumentException" := ⟨by decide +kernel, by decide +kernel, zm_117, zm_118, zi_t96, by decide +kernel, by decide +kernel⟩
theorem zTh_ioobe : zTh 158 162 "java/lang/IndexOutOfBoundsException" := ⟨by decide +kernel, by decide +kernel, zm_139, zm_140, zi_t162, by decide +kernel, by decide +kernel⟩
theorem zTh_uoe : zTh 172 176 "java/lang/UnsupportedOperationException" := ⟨by decide +kernel, by decide +kernel, zm_153, zm_154, zi_t176, by decide +kernel, by decide +kernel⟩
def zNo : Array Value → State → Outcome → State → Prop := fun _ _ _ _ => False
section ZT
variable {p : Program} {l : Launch} {e : Env} {R : Room} {s : State} {m : MethodId} {args : Array Value} {below : List Frame} {meth : Method} {c : Code} {D : va_G} {cy : Nat → ClassId} {wa : Nat → Nat} {N : Nat} {A : Nat → Prop} {n : Nat} {ad : Nat → Nat} {cells slots : Nat} {Q : State → Prop} {σ : zS}
variable {cc : ByteArray} {nL : Nat} {pc : Nat} {L : List (Option Value)} {st : List Value}
theorem zTh_at {ik ic : Nat} {E : String} (h : zTh ik ic E) (hts : ∀ w ∈ zB, w.before args s = true) (hM : zM wa s) : ∀ w ∈ vx_atS RX7 ic E zNames, w.before args s = true := by
  obtain ⟨h1, h2, h3, h4, h5, h6, h7⟩ := h
  refine vx_hat (B := zNg E) (fun w hw => hts w (h5 w hw)) h6 ?_
  have hd := hM.2.2.2.2
  exact vx_c (va_Nw.use rfl (hd _ (by simp [zDs]))) (vx_c (va_Nw.use rfl (hd _ (by simp [zDs]))) (vx_c (va_Nw.use rfl (hd _ (by simp [zDs]))) (vx_c (va_Nw.use rfl (hM.2.2.2.1 E h2)) vx_n)))
theorem zXC_of {E : String} {sz : Nat} (hA0 : A = zA n ad sz) {H : Heap} {locs : List Loc} (hP : va_P D vwCl (zw n ad (zf cy N ad σ)) H) (hS : va_S A s.heap H locs) : ∀ t : State, s.vm.Alike t.vm → H.size ≤ t.heap.size → (∀ q : Nat, q < H.size → t.heap[q]? = H[q]?) → zXC E D cy N n ad σ sz E s t := by
  intro t _ h1 h2
  subst hA0
  refine ⟨(), trivial, ⟨rfl, hP.kept (fun k q hk => h2 q.1 ((hP k q hk).lt))⟩, Nat.le_trans hS.1 h1, fun q hq hn => ?_⟩
  rw [h2 q (Nat.lt_of_lt_of_le hq hS.1)]
  exact hS.2.1 q hq hn
theorem zw_throw (X : zX p l s m args meth c cc nL RX7 D cy wa A) (hno : ∀ x ∈ c.exceptionTable.toList, False) {ik ic is : Nat} {E text : String} (hT : zTh ik ic E) (hm : ("Wagonplay", is, text) ∈ zMs) (hnL : L.length = nL) {sz : Nat} (hA0 : A = zA n ad sz) {Qc : Array Value → State → Outcome → State → Prop}
    (d0 : decode cc pc = .ok (.new ik, 3)) (d3 : decode cc (pc + 3) = .ok (.dup, 1)) (d4 : decode cc (pc + 4) = .ok (.ldc is, 2)) (d6 : decode cc (pc + 6) = .ok (.invokespecial ic, 3)) (d9 : decode cc (pc + 9) = .ok (.athrow, 1))
    (hR : 5 < R.frames ∧ (st.map fun v => v.category).sum + 82 ≤ R.locals ∧ cells + 1 ≤ R.cells ∧ slots + 6 ≤ R.slots) (hc : cells = 0 ∧ slots = 0) :
    zW p l e R s m args below meth c D cy N A n ad cells slots (vx_MQ below Qc (zXC E D cy N n ad σ sz) args s 1 6 A) (pc, L, st) σ := by
  have hat := zTh_at hT X.2.2.2.2.1 X.2.2.2.2.2.2.2.2.2.1 (args := args)
  obtain ⟨hx, hb, hml, hown, hts, hlk, hK, hA, hE, hM, hls⟩ := X
  obtain ⟨sa, hsa⟩ := hM.1 _ hm
  obtain ⟨rfl, rfl⟩ := hc
  obtain ⟨h1, h2, h3, h4, h5, h6, h7⟩ := hT
  intro H locs hP hS ls hl'
  exact vx_throwS hx hb hls hown h1 (by decide +kernel) (hts _ h3) (hts _ h4) hsa hat h7 hE.1 hE.2.1 hS (by rw [hl'.1, hml]; exact hnL) d0 d3 d4 d6 d9 (fun x hx => (hno x hx).elim) hR.1 hR.2.1 hR.2.2.1 hR.2.2.2 hlk (zXC_of hA0 hP hS) hS.2.2 (Nat.le_refl _) (Nat.le_refl _)
theorem zw_throwW (X : zX p l s m args meth c cc nL RX7 D cy wa A) (hno : ∀ x ∈ c.exceptionTable.toList, False) {ik ic is : Nat} {E text : String} (hT : zTh ik ic E) (hm : ("Wagonplay", is, text) ∈ zMs) (hnL : L.length = nL) {sz : Nat} (hA0 : A = zA n ad sz) {Qc : Array Value → State → Outcome → State → Prop}
    (d0 : decode cc pc = .ok (.new ik, 3)) (d3 : decode cc (pc + 3) = .ok (.dup, 1)) (d4 : decode cc (pc + 4) = .ok (.ldc_w is, 3)) (d7 : decode cc (pc + 7) = .ok (.invokespecial ic, 3)) (d10 : decode cc (pc + 10) = .ok (.athrow, 1))
    (hR : 5 < R.frames ∧ (st.map fun v => v.category).sum + 82 ≤ R.locals ∧ cells + 1 ≤ R.cells ∧ slots + 6 ≤ R.slots) (hc : cells = 0 ∧ slots = 0) :
    zW p l e R s m args below meth c D cy N A n ad cells slots (vx_MQ below Qc (zXC E D cy N n ad σ sz) args s 1 6 A) (pc, L, st) σ := by
  have hat := zTh_at hT X.2.2.2.2.1 X.2.2.2.2.2.2.2.2.2.1 (args := args)
  obtain ⟨hx, hb, hml, hown, hts, hlk, hK, hA, hE, hM, hls⟩ := X
  obtain ⟨sa, hsa⟩ := hM.1 _ hm
  obtain ⟨rfl, rfl⟩ := hc
  obtain ⟨h1, h2, h3, h4, h5, h6, h7⟩ := hT
  intro H locs hP hS ls hl'
  exact vx_throwSW hx hb hls hown h1 (by decide +kernel) (hts _ h3) (hts _ h4) hsa hat h7 hE.1 hE.2.1 hS (by rw [hl'.1, hml]; exact hnL) d0 d3 d4 d7 d10 (fun x hx => (hno x hx).elim) hR.1 hR.2.1 hR.2.2.1 hR.2.2.2 hlk (zXC_of hA0 hP hS) hS.2.2 (Nat.le_refl _) (Nat.le_refl _)
/-- a call that always throws -/
theorem zw_callx {own : String} (X : zX p l s m args meth c cc nL own D cy wa A) (hAd : ∀ i, i < n → A (ad i)) {E : String} {mc ms : Nat} {rest st0 : List Value} (hr : ∀ (H : Heap) (locs : List Loc) (ls : Array Slot), va_P D vwCl (zw n ad (zf cy N ad σ)) H → va_S A s.heap H locs → zl ls L → vx_Run p l e R s m args below meth c H locs cells slots mc ms (F0 m pc ls st0) rest (fun _ _ _ => False) (zXC E D cy N n ad σ H.size) (zA n ad H.size))
    (kx : ∀ (H1 : Heap) (locs1 : List Loc) (ls : Array Slot) (ce : Cell) (q : Addr), va_P D vwCl (zw n ad (zf cy N ad σ)) H1 → va_S A s.heap H1 locs1 → zl ls L → H1[q]? = some ce → ce.vm = .none → s.vm.findClass E = some ce.cls → vx_W p l e R s m args below meth c H1 locs1 (cells + mc) (slots + ms) Q (F0 m pc ls rest) q) :
    zW p l e R s m args below meth c D cy N A n ad cells slots Q (pc, L, st0) σ := by
  intro H locs hP hS ls hl' T hT Xs
  have hz := zA_in X hAd hS
  rcases hr H locs ls hP hS hl' T hT Xs with ⟨v, st₀, t, T', L', h0, X', hL, e1, e2, hq, st⟩ | ⟨q, st₀, t, T', L', E', ce, h0, X', hL, e1, e2, ⟨u, -, ⟨rfl, hB⟩, hF⟩, hce, hcv, hcl, st⟩
  · exact hq.elim
  · obtain ⟨k1, k2, k3⟩ := vx_keep h0 e1 hS (fun q _ h => hz q h) hz hL hF
    obtain ⟨t2, a1, b1⟩ := kx T'.heap (locs ++ L') ls ce q (by rw [e1]; exact hB) k3 hl' (by rw [e1]; exact hce) hcv hcl T' rfl X'
    exact ⟨t2, st.trans a1, b1⟩
/-- .. and goes on to the caller -/
theorem zw_outx {own : String} (X : zX p l s m args meth c cc nL own D cy wa A) (hno : ∀ x ∈ c.exceptionTable.toList, False) (hAd : ∀ i, i < n → A (ad i)) {E : String} {rest st0 : List Value} {sz : Nat} (hA0 : A = zA n ad sz) {Qc : Array Value → State → Outcome → State → Prop} (hr : ∀ (H : Heap) (locs : List Loc) (ls : Array Slot), va_P D vwCl (zw n ad (zf cy N ad σ)) H → va_S A s.heap H locs → zl ls L → vx_Run p l e R s m args below meth c H locs 0 0 1 6 (F0 m pc ls st0) rest (fun _ _ _ => False) (zXC E D cy N n ad σ H.size) (zA n ad H.size)) :
    zW p l e R s m args below meth c D cy N A n ad 0 0 (vx_MQ below Qc (zXC E D cy N n ad σ sz) args s 1 6 A) (pc, L, st0) σ := by
  refine zw_callx X hAd hr (fun H1 locs1 ls ce q hP hS hl hce hcv hcl => ?_)
  refine vx_out (fun x hx => (hno x hx).elim) X.2.2.2.2.2.1 hce hcv hcl (fun t ht hal => ?_) hS.2.2 (Nat.le_refl _) (Nat.le_refl _)
  exact zXC_of hA0 hP hS t hal (by rw [ht]; exact Nat.le_refl _) (fun q _ => by rw [ht])
end ZT
end
section
/-! Calls over the world by place. -/
section ZK
variable {p : Program} {l : Launch} {e : Env} {R : Room} {s : State} {m : MethodId} {args : Array Value} {below : List Frame} {meth : Method} {c : Code} {D : va_G} {cy : Nat → ClassId} {wa : Nat → Nat} {N : Nat} {A : Nat → Prop} {n : Nat} {ad : Nat → Nat} {cells slots : Nat} {Q : State → Prop} {σ σ' : zS}
variable {cc : ByteArray} {nL : Nat} {own : String} {pc : Nat} {L : List (Option Value)} {rest st0 : List Value}
variable {y : MethodName} {bytes : ByteArray} {maxL index d : Nat} {ret : Option FieldType} {As : List Value} {ans : Int32}
/-- the words of a virtual call; of a static one -/
def zV5 (own C : String) (index : Nat) (y : MethodName) (bytes : ByteArray) (maxL : Nat) (ret : Option FieldType) (k : Nat) : Prop := Cond.methodLink own index y ∈ zB ∧ Cond.instanceMethod y ∈ zB ∧ Cond.selects C y y ∈ zB ∧ Cond.initialized C ∈ zB ∧ Cond.code y bytes maxL ret ∈ zB ∧ y.cls = C ∧ y.cls ≠ "java/lang/invoke/MethodHandle" ∧ y.cls ≠ "java/lang/invoke/VarHandle" ∧ (parseMethodDescriptor y.desc).map (fun d => d.parameters.length) = some k
def zS5 (own : String) (index : Nat) (y : MethodName) (bytes : ByteArray) (maxL : Nat) (ret : Option FieldType) (k : Nat) : Prop := Cond.methodLink own index y ∈ zB ∧ Cond.static y ∈ zB ∧ Cond.initialized y.cls ∈ zB ∧ Cond.code y bytes maxL ret ∈ zB ∧ y.cls ≠ "java/lang/invoke/MethodHandle" ∧ y.cls ≠ "java/lang/invoke/VarHandle" ∧ (parseMethodDescriptor y.desc).map (fun d => d.parameters.length) = some k
theorem zw_Vi (X : zX p l s m args meth c cc nL own D cy wa A) (hAd : ∀ i, i < n → A (ad i)) {i : Nat} (hi : i < n) {ci : Nat} {fs : List Value} (he : zc cy N ad i (σ i) = .inr (ci, fs)) {q : vw_C} (hc : vwCl[ci]? = some q) (h5 : zV5 own q.1 index y bytes maxL ret As.length)
    (hM : ∀ sz, Met l y (.code y bytes maxL ret :: zB) (zRm d) (zPc (.ref (ad i) :: As) D cy wa N n ad σ sz) (zQi ans D cy N n ad σ' sz) 0 0 (zA n ad sz)) (hst : st0 = As.reverse ++ .ref (ad i) :: rest) (hnL : L.length = nL) (hrm : (rest.map fun v => v.category).sum ≤ 8) (hR : d + 1 ≤ R.frames ∧ 8 + (maxL + 11) + 40 * d ≤ R.locals) (hf : cells ≤ R.cells ∧ slots ≤ R.slots) (hdg : decode cc pc = .ok (.invokevirtual index, 3))
    (kk : zW p l e R s m args below meth c D cy N A n ad cells slots Q (pc + 3, L, .int ans :: rest) σ') : zW p l e R s m args below meth c D cy N A n ad cells slots Q (pc, L, st0) σ := by
  subst hst
  obtain ⟨w1, w2, w3, w4, w5, w6, w7, w8, w9⟩ := h5
  exact zw_calli X hAd (mc := 0) (ms := 0) (ws := []) (y := y) (rm := zRm d) (av := .ref (ad i) :: As) (rest := rest) (fun H locs ls hP hS hl => va_runV ⟨X.1, X.2.1, X.2.2.1, X.2.2.2.1, X.2.2.2.2.1⟩ (hM H.size) (cwV As.length X.2.2.2.2.1 (z_gV w1 w2 w3 w4 w5) rfl rfl rfl ⟨w6, w7, w8, w9⟩ hR) ⟨zPc_blind, zw_recv X hP hi he hc, zPc_of X hAd hS hP _⟩ rfl rfl (hl.1.trans hnL) rfl (lv_room hrm) hdg hf) kk
theorem zw_Vv (X : zX p l s m args meth c cc nL own D cy wa A) (hAd : ∀ i, i < n → A (ad i)) {i : Nat} (hi : i < n) {ci : Nat} {fs : List Value} (he : zc cy N ad i (σ i) = .inr (ci, fs)) {q : vw_C} (hc : vwCl[ci]? = some q) (h5 : zV5 own q.1 index y bytes maxL ret As.length)
    (hM : ∀ sz, Met l y (.code y bytes maxL ret :: zB) (zRm d) (zPc (.ref (ad i) :: As) D cy wa N n ad σ sz) (zQv D cy N n ad σ' sz) 0 0 (zA n ad sz)) (hst : st0 = As.reverse ++ .ref (ad i) :: rest) (hnL : L.length = nL) (hrm : (rest.map fun v => v.category).sum ≤ 8) (hR : d + 1 ≤ R.frames ∧ 8 + (maxL + 11) + 40 * d ≤ R.locals) (hf : cells ≤ R.cells ∧ slots ≤ R.slots) (hdg : decode cc pc = .ok (.invokevirtual index, 3))
    (kk : zW p l e R s m args below meth c D cy N A n ad cells slots Q (pc + 3, L, rest) σ') : zW p l e R s m args below meth c D cy N A n ad cells slots Q (pc, L, st0) σ := by
  subst hst
  obtain ⟨w1, w2, w3, w4, w5, w6, w7, w8, w9⟩ := h5
  exact zw_callv X hAd (mc := 0) (ms := 0) (av := .ref (ad i) :: As) (rest := rest) (fun H locs ls hP hS hl => va_runV ⟨X.1, X.2.1, X.2.2.1, X.2.2.2.1, X.2.2.2.2.1⟩ (hM H.size) (cwV As.length X.2.2.2.2.1 (z_gV w1 w2 w3 w4 w5) rfl rfl rfl ⟨w6, w7, w8, w9⟩ hR) ⟨zPc_blind, zw_recv X hP hi he hc, zPc_of X hAd hS hP _⟩ rfl rfl (hl.1.trans hnL) rfl (lv_room hrm) hdg hf) kk
theorem zw_Si (X : zX p l s m args meth c cc nL own D cy wa A) (hAd : ∀ i, i < n → A (ad i)) (h5 : zS5 own index y bytes maxL ret As.length)
    (hM : ∀ sz, Met l y (.code y bytes maxL ret :: zB) (zRm d) (zPc As D cy wa N n ad σ sz) (zQi ans D cy N n ad σ' sz) 0 0 (zA n ad sz)) (hst : st0 = As.reverse ++ rest) (hnL : L.length = nL) (hrm : (rest.map fun v => v.category).sum ≤ 8) (hR : d + 1 ≤ R.frames ∧ 8 + (maxL + 11) + 40 * d ≤ R.locals) (hf : cells ≤ R.cells ∧ slots ≤ R.slots) (hdg : decode cc pc = .ok (.invokestatic index, 3))
    (kk : zW p l e R s m args below meth c D cy N A n ad cells slots Q (pc + 3, L, .int ans :: rest) σ') : zW p l e R s m args below meth c D cy N A n ad cells slots Q (pc, L, st0) σ := by
  subst hst
  obtain ⟨w1, w2, w4, w5, w7, w8, w9⟩ := h5
  exact zw_calli X hAd (mc := 0) (ms := 0) (ws := []) (y := y) (rm := zRm d) (av := As) (rest := rest) (fun H locs ls hP hS hl => va_runS ⟨X.1, X.2.1, X.2.2.1, X.2.2.2.1, X.2.2.2.2.1⟩ (hM H.size) (va_cwS As.length X.2.2.2.2.1 (z_gS w1 w2 w4 w5) rfl rfl rfl ⟨w7, w8, w9⟩ hR) ⟨zPc_blind, zPc_of X hAd hS hP _⟩ rfl rfl (hl.1.trans hnL) rfl (lv_room hrm) hdg hf) kk
theorem zw_Sv (X : zX p l s m args meth c cc nL own D cy wa A) (hAd : ∀ i, i < n → A (ad i)) (h5 : zS5 own index y bytes maxL ret As.length)
    (hM : ∀ sz, Met l y (.code y bytes maxL ret :: zB) (zRm d) (zPc As D cy wa N n ad σ sz) (zQv D cy N n ad σ' sz) 0 0 (zA n ad sz)) (hst : st0 = As.reverse ++ rest) (hnL : L.length = nL) (hrm : (rest.map fun v => v.category).sum ≤ 8) (hR : d + 1 ≤ R.frames ∧ 8 + (maxL + 11) + 40 * d ≤ R.locals) (hf : cells ≤ R.cells ∧ slots ≤ R.slots) (hdg : decode cc pc = .ok (.invokestatic index, 3))
    (kk : zW p l e R s m args below meth c D cy N A n ad cells slots Q (pc + 3, L, rest) σ') : zW p l e R s m args below meth c D cy N A n ad cells slots Q (pc, L, st0) σ := by
  subst hst
  obtain ⟨w1, w2, w4, w5, w7, w8, w9⟩ := h5
  exact zw_callv X hAd (mc := 0) (ms := 0) (av := As) (rest := rest) (fun H locs ls hP hS hl => va_runS ⟨X.1, X.2.1, X.2.2.1, X.2.2.2.1, X.2.2.2.2.1⟩ (hM H.size) (va_cwS As.length X.2.2.2.2.1 (z_gS w1 w2 w4 w5) rfl rfl rfl ⟨w7, w8, w9⟩ hR) ⟨zPc_blind, zPc_of X hAd hS hP _⟩ rfl rfl (hl.1.trans hnL) rfl (lv_room hrm) hdg hf) kk
/-- a virtual call that throws, uncaught here; a static one -/
theorem zw_Vo (X : zX p l s m args meth c cc nL own D cy wa A) (hno : ∀ x ∈ c.exceptionTable.toList, False) (hAd : ∀ i, i < n → A (ad i)) {E : String} {sz0 : Nat} (hA0 : A = zA n ad sz0) {Qc : Array Value → State → Outcome → State → Prop} {i : Nat} (hi : i < n) {ci : Nat} {fs : List Value} (he : zc cy N ad i (σ i) = .inr (ci, fs)) {q : vw_C} (hc : vwCl[ci]? = some q) (h5 : zV5 own q.1 index y bytes maxL ret As.length)
    (hM : ∀ sz, vx_Met l y (.code y bytes maxL ret :: zB) (zRx d) (zPc (.ref (ad i) :: As) D cy wa N n ad σ sz) zNo (zXC E D cy N n ad σ sz) 1 6 (zA n ad sz)) (hst : st0 = As.reverse ++ .ref (ad i) :: rest) (hnL : L.length = nL) (hrm : (rest.map fun v => v.category).sum ≤ 8) (hR : 6 + d + 1 ≤ R.frames ∧ 8 + (maxL + 11) + (120 + 40 * d) ≤ R.locals) (hf : 0 + 1 ≤ R.cells ∧ 0 + 6 ≤ R.slots) (hdg : decode cc pc = .ok (.invokevirtual index, 3)) :
    zW p l e R s m args below meth c D cy N A n ad 0 0 (vx_MQ below Qc (zXC E D cy N n ad σ sz0) args s 1 6 A) (pc, L, st0) σ := by
  subst hst
  obtain ⟨w1, w2, w3, w4, w5, w6, w7, w8, w9⟩ := h5
  exact zw_outx X hno hAd hA0 (rest := rest) (fun H locs ls hP hS hl => vx_runV ⟨X.1, X.2.1, X.2.2.1, X.2.2.2.1, X.2.2.2.2.1⟩ (hM H.size) (cwV As.length X.2.2.2.2.1 (z_gV w1 w2 w3 w4 w5) rfl rfl rfl ⟨w6, w7, w8, w9⟩ hR) ⟨zPc_blind, zw_recv X hP hi he hc, zPc_of X hAd hS hP _⟩ rfl rfl (hl.1.trans hnL) rfl (lv_room hrm) hdg hf)
theorem zw_So (X : zX p l s m args meth c cc nL own D cy wa A) (hno : ∀ x ∈ c.exceptionTable.toList, False) (hAd : ∀ i, i < n → A (ad i)) {E : String} {sz0 : Nat} (hA0 : A = zA n ad sz0) {Qc : Array Value → State → Outcome → State → Prop} (h5 : zS5 own index y bytes maxL ret As.length)
    (hM : ∀ sz, vx_Met l y (.code y bytes maxL ret :: zB) (zRx d) (zPc As D cy wa N n ad σ sz) zNo (zXC E D cy N n ad σ sz) 1 6 (zA n ad sz)) (hst : st0 = As.reverse ++ rest) (hnL : L.length = nL) (hrm : (rest.map fun v => v.category).sum ≤ 8) (hR : 6 + d + 1 ≤ R.frames ∧ 8 + (maxL + 11) + (120 + 40 * d) ≤ R.locals) (hf : 0 + 1 ≤ R.cells ∧ 0 + 6 ≤ R.slots) (hdg : decode cc pc = .ok (.invokestatic index, 3)) :
    zW p l e R s m args below meth c D cy N A n ad 0 0 (vx_MQ below Qc (zXC E D cy N n ad σ sz0) args s 1 6 A) (pc, L, st0) σ := by
  subst hst
  obtain ⟨w1, w2, w4, w5, w7, w8, w9⟩ := h5
  exact zw_outx X hno hAd hA0 (rest := rest) (fun H locs ls hP hS hl => vx_runS ⟨X.1, X.2.1, X.2.2.1, X.2.2.2.1, X.2.2.2.2.1⟩ (hM H.size) (va_cwS As.length X.2.2.2.2.1 (z_gS w1 w2 w4 w5) rfl rfl rfl ⟨w7, w8, w9⟩ hR) ⟨zPc_blind, zPc_of X hAd hS hP _⟩ rfl rfl (hl.1.trans hnL) rfl (lv_room hrm) hdg hf)
theorem zw_min (X : zX p l s m args meth c cc nL own D cy wa A) (h1 : Cond.methodLink own index Lib.Math.min.name ∈ zB) (h2 : Cond.static Lib.Math.min.name ∈ zB) (h3 : Cond.initialized "java/lang/Math" ∈ zB) (h4 : Cond.code Lib.Math.min.name Lib.Math.min.code 2 (some .int) ∈ zB) (hnL : L.length = nL) (hR : 1 ≤ R.frames ∧ (rest.map fun v => v.category).sum + 13 ≤ R.locals) (hf : cells ≤ R.cells ∧ slots ≤ R.slots) {a b v : Int32} (hv : (if b < a then b else a) = v) (hdg : decode cc pc = .ok (.invokestatic index, 3))
    (kk : zW p l e R s m args below meth c D cy N A n ad cells slots Q (pc + 3, L, .int v :: rest) σ) : zW p l e R s m args below meth c D cy N A n ad cells slots Q (pc, L, .int b :: .int a :: rest) σ := by
  obtain ⟨hx, hb, hml, hown, hts, hlk, hK, hA, hE, hM, hls⟩ := X
  intro H locs hP hS ls hl'
  subst hv
  exact va_mmin hx hb (by rw [hml, hl'.1]; exact hnL.symm) hown (hts _ h1) (hts _ h2) (hts _ h3) (hts _ h4) hR.1 hR.2 hf.1 hf.2 hdg (kk H locs hP hS ls hl')
theorem zw_max (X : zX p l s m args meth c cc nL own D cy wa A) (h1 : Cond.methodLink own index Lib.Math.max.name ∈ zB) (h2 : Cond.static Lib.Math.max.name ∈ zB) (h3 : Cond.initialized "java/lang/Math" ∈ zB) (h4 : Cond.code Lib.Math.max.name Lib.Math.max.code 2 (some .int) ∈ zB) (hnL : L.length = nL) (hR : 1 ≤ R.frames ∧ (rest.map fun v => v.category).sum + 13 ≤ R.locals) (hf : cells ≤ R.cells ∧ slots ≤ R.slots) {a b v : Int32} (hv : (if a < b then b else a) = v) (hdg : decode cc pc = .ok (.invokestatic index, 3))
    (kk : zW p l e R s m args below meth c D cy N A n ad cells slots Q (pc + 3, L, .int v :: rest) σ) : zW p l e R s m args below meth c D cy N A n ad cells slots Q (pc, L, .int b :: .int a :: rest) σ := by
  obtain ⟨hx, hb, hml, hown, hts, hlk, hK, hA, hE, hM, hls⟩ := X
  intro H locs hP hS ls hl'
  subst hv
  exact va_mmax hx hb (by rw [hml, hl'.1]; exact hnL.symm) hown (hts _ h1) (hts _ h2) (hts _ h3) (hts _ h4) hR.1 hR.2 hf.1 hf.2 hdg (kk H locs hP hS ls hl')
theorem zw_div (X : zX p l s m args meth c cc nL own D cy wa A) {a b : Int32} (h0 : ¬ b = 0) (hdg : decode cc pc = .ok (.idiv, 1))
    (kk : zW p l e R s m args below meth c D cy N A n ad cells slots Q (pc + 1, L, .int (a / b) :: rest) σ) : zW p l e R s m args below meth c D cy N A n ad cells slots Q (pc, L, .int b :: .int a :: rest) σ :=
  fun H locs hP hS ls hl => lv_idiv X.1 X.2.1 hdg h0 (kk H locs hP hS ls hl)
theorem zw_rem (X : zX p l s m args meth c cc nL own D cy wa A) {a b v : Int32} (h0 : ¬ b = 0) (hv : a - a / b * b = v) (hdg : decode cc pc = .ok (.irem, 1))
    (kk : zW p l e R s m args below meth c D cy N A n ad cells slots Q (pc + 1, L, .int v :: rest) σ) : zW p l e R s m args below meth c D cy N A n ad cells slots Q (pc, L, .int b :: .int a :: rest) σ := by
  subst hv
  exact fun H locs hP hS ls hl => lv_irem X.1 X.2.1 hdg h0 (kk H locs hP hS ls hl)
theorem zw_shl (X : zX p l s m args meth c cc nL own D cy wa A) {a b : Int32} (hdg : decode cc pc = .ok (.ishl, 1))
    (kk : zW p l e R s m args below meth c D cy N A n ad cells slots Q (pc + 1, L, .int (a <<< (b &&& 31)) :: rest) σ) : zW p l e R s m args below meth c D cy N A n ad cells slots Q (pc, L, .int b :: .int a :: rest) σ :=
  fun H locs hP hS ls hl => lv_ishl X.1 X.2.1 hdg (kk H locs hP hS ls hl)
theorem zw_tabIn (X : zX p l s m args meth c cc nL own D cy wa A) {dflt lo hi : Int} {offs : Array Int} {len : Nat} {x : Int32} {off : Int} {tgt : Nat} (hdg : decode cc pc = .ok (.tableswitch dflt lo hi offs, len)) (h1 : ¬ x.toInt < lo) (h2 : ¬ hi < x.toInt) (ho : offs[(x.toInt - lo).toNat]? = some off) (ht : (pc : Int) + off = (tgt : Int))
    (kk : zW p l e R s m args below meth c D cy N A n ad cells slots Q (tgt, L, rest) σ) : zW p l e R s m args below meth c D cy N A n ad cells slots Q (pc, L, .int x :: rest) σ :=
  fun H locs hP hS ls hl => lv_tableIn X.1 X.2.1 hdg h1 h2 ho ht (kk H locs hP hS ls hl)
theorem zw_tabOut (X : zX p l s m args meth c cc nL own D cy wa A) {dflt lo hi : Int} {offs : Array Int} {len : Nat} {x : Int32} {tgt : Nat} (hdg : decode cc pc = .ok (.tableswitch dflt lo hi offs, len)) (h : x.toInt < lo ∨ hi < x.toInt) (ht : (pc : Int) + dflt = (tgt : Int))
    (kk : zW p l e R s m args below meth c D cy N A n ad cells slots Q (tgt, L, rest) σ) : zW p l e R s m args below meth c D cy N A n ad cells slots Q (pc, L, .int x :: rest) σ :=
  fun H locs hP hS ls hl => lv_tableOut X.1 X.2.1 hdg h ht (kk H locs hP hS ls hl)
end ZK
end
section
set_option maxHeartbeats 4000000 in
set_option maxRecDepth 100000 in
theorem c_needRange {l : Launch} (hls : l.stackTraces = false) {D : va_G} {cy : Nat → ClassId} {wa : Nat → Nat} {N n : Nat} {ad : Nat → Nat} (hD : zD n ad) (hn : 40 ≤ n) (σ : zS) (a b c : Int32) (h1 : ¬ a < b) (h2 : a ≤ c) (sz : Nat) : Met l yX7_needRange (.code yX7_needRange cX7_needRange 3 none :: zB) (zRm 0) (zPc [.int a, .int b, .int c] D cy wa N n ad σ sz) (zQv D cy N n ad (σ) sz) 0 0 (zA n ad sz) := by
  refine z_met (by decide) hls (List.forall_mem_cons.mpr ⟨rfl, (List.forall_mem_cons.mpr ⟨rfl, (List.forall_mem_cons.mpr ⟨rfl, (fun _ h => nomatch h)⟩)⟩)⟩) (Nat.le_of_ble_eq_true rfl) (fun p_ e_ s_ m_ below_ meth_ c_ hsz hr X => ?_)
  have X : zX p_ l s_ m_ [.int a, .int b, .int c].toArray meth_ c_ cX7_needRange 3 RX7 D cy wa (zA n ad sz) := X
  have hAd : ∀ i, i < n → zA n ad sz (ad i) := fun i hi => Or.inl ⟨i, hi, rfl⟩
  refine zw_run X (is := [(0, .iload_n 0, 1), (1, .iload_n 1, 1)]) (t' := (2, [some (.int a), some (.int b), some (.int c)], [.int b, .int a])) ⟨dX7_needRange_0, dX7_needRange_1, trivial⟩ rfl ?_
  refine zw_icmp_lt X (tgt := 10) dX7_needRange_2 (by decide) (fun h_ => absurd h_ h1) (fun _ => ?_)
  refine zw_run X (is := [(5, .iload_n 0, 1), (6, .iload_n 2, 1)]) (t' := (7, [some (.int a), some (.int b), some (.int c)], [.int c, .int a])) ⟨dX7_needRange_5, dX7_needRange_6, trivial⟩ rfl ?_
  refine zw_icmp_le X (tgt := 21) dX7_needRange_7 (by decide) (fun _ => ?_) (fun h_ => absurd h2 h_)
  exact zw_vret X hr dX7_needRange_21 rfl rfl

set_option maxHeartbeats 4000000 in
set_option maxRecDepth 100000 in
theorem c_needRange_lo {l : Launch} (hls : l.stackTraces = false) {D : va_G} {cy : Nat → ClassId} {wa : Nat → Nat} {N n : Nat} {ad : Nat → Nat} (hD : zD n ad) (hn : 40 ≤ n) (σ : zS) (a b c : Int32) (h1 : a < b) (sz : Nat) : vx_Met l yX7_needRange (.code yX7_needRange cX7_needRange 3 none :: zB) (zRx 0) (zPc [.int a, .int b, .int c] D cy wa N n ad σ sz) zNo (zXC "java/lang/IllegalArgumentException" D cy N n ad (σ) sz) 1 6 (zA n ad sz) := by
  refine z_metx (by decide) hls (List.forall_mem_cons.mpr ⟨rfl, (List.forall_mem_cons.mpr ⟨rfl, (List.forall_mem_cons.mpr ⟨rfl, (fun _ h => nomatch h)⟩)⟩)⟩) (Nat.le_of_ble_eq_true rfl) (fun p_ e_ s_ m_ below_ meth_ c_ hsz hr hno X => ?_)
  have X : zX p_ l s_ m_ [.int a, .int b, .int c].toArray meth_ c_ cX7_needRange 3 RX7 D cy wa (zA n ad sz) := X
  have hAd : ∀ i, i < n → zA n ad sz (ad i) := fun i hi => Or.inl ⟨i, hi, rfl⟩
  refine zw_run X (is := [(0, .iload_n 0, 1), (1, .iload_n 1, 1)]) (t' := (2, [some (.int a), some (.int b), some (.int c)], [.int b, .int a])) ⟨dX7_needRange_0, dX7_needRange_1, trivial⟩ rfl ?_
  refine zw_icmp_lt X (tgt := 10) dX7_needRange_2 (by decide) (fun _ => ?_) (fun h_ => absurd h1 h_)
  exact zw_throwW X hno zTh_iae (is := 354) (text := "out of range") (by decide +kernel) rfl rfl dX7_needRange_10 dX7_needRange_13 dX7_needRange_14 dX7_needRange_17 dX7_needRange_20 ⟨Nat.le_of_ble_eq_true rfl, Nat.le_of_ble_eq_true rfl, Nat.le_of_ble_eq_true rfl, Nat.le_of_ble_eq_true rfl⟩ ⟨rfl, rfl⟩

set_option maxHeartbeats 4000000 in
set_option maxRecDepth 100000 in
theorem c_needRange_hi {l : Launch} (hls : l.stackTraces = false) {D : va_G} {cy : Nat → ClassId} {wa : Nat → Nat} {N n : Nat} {ad : Nat → Nat} (hD : zD n ad) (hn : 40 ≤ n) (σ : zS) (a b c : Int32) (h1 : ¬ a < b) (h2 : ¬ a ≤ c) (sz : Nat) : vx_Met l yX7_needRange (.code yX7_needRange cX7_needRange 3 none :: zB) (zRx 0) (zPc [.int a, .int b, .int c] D cy wa N n ad σ sz) zNo (zXC "java/lang/IllegalArgumentException" D cy N n ad (σ) sz) 1 6 (zA n ad sz) := by
  refine z_metx (by decide) hls (List.forall_mem_cons.mpr ⟨rfl, (List.forall_mem_cons.mpr ⟨rfl, (List.forall_mem_cons.mpr ⟨rfl, (fun _ h => nomatch h)⟩)⟩)⟩) (Nat.le_of_ble_eq_true rfl) (fun p_ e_ s_ m_ below_ meth_ c_ hsz hr hno X => ?_)
  have X : zX p_ l s_ m_ [.int a, .int b, .int c].toArray meth_ c_ cX7_needRange 3 RX7 D cy wa (zA n ad sz) := X
  have hAd : ∀ i, i < n → zA n ad sz (ad i) := fun i hi => Or.inl ⟨i, hi, rfl⟩
  refine zw_run X (is := [(0, .iload_n 0, 1), (1, .iload_n 1, 1)]) (t' := (2, [some (.int a), some (.int b), some (.int c)], [.int b, .int a])) ⟨dX7_needRange_0, dX7_needRange_1, trivial⟩ rfl ?_
  refine zw_icmp_lt X (tgt := 10) dX7_needRange_2 (by decide) (fun h_ => absurd h_ h1) (fun _ => ?_)
  refine zw_run X (is := [(5, .iload_n 0, 1), (6, .iload_n 2, 1)]) (t' := (7, [some (.int a), some (.int b), some (.int c)], [.int c, .int a])) ⟨dX7_needRange_5, dX7_needRange_6, trivial⟩ rfl ?_
  refine zw_icmp_le X (tgt := 21) dX7_needRange_7 (by decide) (fun h_ => absurd h_ h2) (fun _ => ?_)
  exact zw_throwW X hno zTh_iae (is := 354) (text := "out of range") (by decide +kernel) rfl rfl dX7_needRange_10 dX7_needRange_13 dX7_needRange_14 dX7_needRange_17 dX7_needRange_20 ⟨Nat.le_of_ble_eq_true rfl, Nat.le_of_ble_eq_true rfl, Nat.le_of_ble_eq_true rfl, Nat.le_of_ble_eq_true rfl⟩ ⟨rfl, rfl⟩

set_option maxHeartbeats 4000000 in
set_option maxRecDepth 100000 in
theorem c_needGuild {l : Launch} (hls : l.stackTraces = false) {D : va_G} {cy : Nat → ClassId} {wa : Nat → Nat} {N n : Nat} {ad : Nat → Nat} (hD : zD n ad) (hn : 40 ≤ n) (σ : zS) (gc : Nat) (hgc : gc ≤ 8) (e0 : σ 0 11 = nI gc) (g : Nat) (hg : g < gc) (sz : Nat) : Met l yX7_needGuild (.code yX7_needGuild cX7_needGuild 2 none :: zB) (zRm 0) (zPc [.ref (ad 0), .int (nI g)] D cy wa N n ad σ sz) (zQv D cy N n ad (σ) sz) 0 0 (zA n ad sz) := by
  refine z_met (by decide) hls (List.forall_mem_cons.mpr ⟨rfl, (List.forall_mem_cons.mpr ⟨rfl, (fun _ h => nomatch h)⟩)⟩) (Nat.le_of_ble_eq_true rfl) (fun p_ e_ s_ m_ below_ meth_ c_ hsz hr X => ?_)
  have X : zX p_ l s_ m_ [.ref (ad 0), .int (nI g)].toArray meth_ c_ cX7_needGuild 2 RX7 D cy wa (zA n ad sz) := X
  have hAd : ∀ i, i < n → zA n ad sz (ad i) := fun i hi => Or.inl ⟨i, hi, rfl⟩
  refine zw_run X (is := [(0, .iload_n 1, 1)]) (t' := (1, [some (.ref (ad 0)), some (.int (nI g))], [.int (nI g)])) ⟨dX7_needGuild_0, trivial⟩ rfl ?_
  refine zw_if_lt X (tgt := 12) dX7_needGuild_1 (by decide) (fun h_ => absurd h_ (nI_pos (by omega))) (fun _ => ?_)
  refine zw_run X (is := [(4, .iload_n 1, 1), (5, .aload_n 0, 1)]) (t' := (6, [some (.ref (ad 0)), some (.int (nI g))], [.ref (ad 0), .int (nI g)])) ⟨dX7_needGuild_4, dX7_needGuild_5, trivial⟩ rfl ?_
  refine zw_getf X (i := 0) (by omega) zc_0 (C := RX7) (T := TX7) (Nf := 16) rfl zi_X7 11 (by decide) rfl zm_110 rfl dX7_needGuild_6 ?_
  refine zw_icmp_lt X (tgt := 23) dX7_needGuild_9 (by decide) (fun _ => ?_) (fun h_ => absurd (by rw [e0]; exact nI_lt hg (by omega)) h_)
  exact zw_vret X hr dX7_needGuild_23 rfl rfl

set_option maxHeartbeats 4000000 in
set_option maxRecDepth 100000 in
theorem c_needGuild_x {l : Launch} (hls : l.stackTraces = false) {D : va_G} {cy : Nat → ClassId} {wa : Nat → Nat} {N n : Nat} {ad : Nat → Nat} (hD : zD n ad) (hn : 40 ≤ n) (σ : zS) (gc : Nat) (hgc : gc ≤ 8) (e0 : σ 0 11 = nI gc) (g : Nat) (hg : gc ≤ g) (hg2 : g < 100) (sz : Nat) : vx_Met l yX7_needGuild (.code yX7_needGuild cX7_needGuild 2 none :: zB) (zRx 0) (zPc [.ref (ad 0), .int (nI g)] D cy wa N n ad σ sz) zNo (zXC "java/lang/IndexOutOfBoundsException" D cy N n ad (σ) sz) 1 6 (zA n ad sz) := by
  refine z_metx (by decide) hls (List.forall_mem_cons.mpr ⟨rfl, (List.forall_mem_cons.mpr ⟨rfl, (fun _ h => nomatch h)⟩)⟩) (Nat.le_of_ble_eq_true rfl) (fun p_ e_ s_ m_ below_ meth_ c_ hsz hr hno X => ?_)
  have X : zX p_ l s_ m_ [.ref (ad 0), .int (nI g)].toArray meth_ c_ cX7_needGuild 2 RX7 D cy wa (zA n ad sz) := X
  have hAd : ∀ i, i < n → zA n ad sz (ad i) := fun i hi => Or.inl ⟨i, hi, rfl⟩
  refine zw_run X (is := [(0, .iload_n 1, 1)]) (t' := (1, [some (.ref (ad 0)), some (.int (nI g))], [.int (nI g)])) ⟨dX7_needGuild_0, trivial⟩ rfl ?_
  refine zw_if_lt X (tgt := 12) dX7_needGuild_1 (by decide) (fun h_ => absurd h_ (nI_pos (by omega))) (fun _ => ?_)
  refine zw_run X (is := [(4, .iload_n 1, 1), (5, .aload_n 0, 1)]) (t' := (6, [some (.ref (ad 0)), some (.int (nI g))], [.ref (ad 0), .int (nI g)])) ⟨dX7_needGuild_4, dX7_needGuild_5, trivial⟩ rfl ?_
  refine zw_getf X (i := 0) (by omega) zc_0 (C := RX7) (T := TX7) (Nf := 16) rfl zi_X7 11 (by decide) rfl zm_110 rfl dX7_needGuild_6 ?_
  refine zw_icmp_lt X (tgt := 23) dX7_needGuild_9 (by decide) (fun h_ => absurd h_ (by rw [e0]; exact nI_nlt hg (by omega))) (fun _ => ?_)
  exact zw_throwW X hno zTh_ioobe (is := 356) (text := "no such guild") (by decide +kernel) rfl rfl dX7_needGuild_12 dX7_needGuild_15 dX7_needGuild_16 dX7_needGuild_19 dX7_needGuild_22 ⟨Nat.le_of_ble_eq_true rfl, Nat.le_of_ble_eq_true rfl, Nat.le_of_ble_eq_true rfl, Nat.le_of_ble_eq_true rfl⟩ ⟨rfl, rfl⟩

set_option maxHeartbeats 4000000 in
set_option maxRecDepth 100000 in
theorem c_needNotOver {l : Launch} (hls : l.stackTraces = false) {D : va_G} {cy : Nat → ClassId} {wa : Nat → Nat} {N n : Nat} {ad : Nat → Nat} (hD : zD n ad) (hn : 40 ≤ n) (σ : zS) (g : Nat) (hg : g < 8) (ho : σ (8 + g) 2 = 0) (sz : Nat) : Met l yX7_needNotOver (.code yX7_needNotOver cX7_needNotOver 2 none :: zB) (zRm 0) (zPc [.ref (ad 0), .int (nI g)] D cy wa N n ad σ sz) (zQv D cy N n ad (σ) sz) 0 0 (zA n ad sz) := by
  refine z_met (by decide) hls (List.forall_mem_cons.mpr ⟨rfl, (List.forall_mem_cons.mpr ⟨rfl, (fun _ h => nomatch h)⟩)⟩) (Nat.le_of_ble_eq_true rfl) (fun p_ e_ s_ m_ below_ meth_ c_ hsz hr X => ?_)
  have X : zX p_ l s_ m_ [.ref (ad 0), .int (nI g)].toArray meth_ c_ cX7_needNotOver 2 RX7 D cy wa (zA n ad sz) := X
  have hAd : ∀ i, i < n → zA n ad sz (ad i) := fun i hi => Or.inl ⟨i, hi, rfl⟩
  refine zw_run X (is := [(0, .aload_n 0, 1)]) (t' := (1, [some (.ref (ad 0)), some (.int (nI g))], [.ref (ad 0)])) ⟨dX7_needNotOver_0, trivial⟩ rfl ?_
  refine zw_getf X (i := 0) (by omega) zc_0 (C := RX7) (T := TX7) (Nf := 16) rfl zi_X7 0 (by decide) rfl zm_18 rfl dX7_needNotOver_1 ?_
  refine zw_run X (is := [(4, .iload_n 1, 1)]) (t' := (5, [some (.ref (ad 0)), some (.int (nI g))], [.int (nI g), .ref (ad 1)])) ⟨dX7_needNotOver_4, trivial⟩ rfl ?_
  refine zw_guild X (by omega) (g := g) rfl hg dX7_needNotOver_5 ?_
  refine zw_getf X (i := 8 + g) (by omega) (zc_G hg) (C := RX1) (T := TX1) (Nf := 7) rfl zi_X1 2 (by decide) rfl zm_134 rfl dX7_needNotOver_6 ?_
  refine zw_if_eq X (tgt := 23) dX7_needNotOver_9 (by decide) (fun _ => ?_) (fun h_ => absurd ho h_)
  exact zw_vret X hr dX7_needNotOver_23 rfl rfl

set_option maxHeartbeats 4000000 in
set_option maxRecDepth 100000 in
theorem c_needNotOver_x {l : Launch} (hls : l.stackTraces = false) {D : va_G} {cy : Nat → ClassId} {wa : Nat → Nat} {N n : Nat} {ad : Nat → Nat} (hD : zD n ad) (hn : 40 ≤ n) (σ : zS) (g : Nat) (hg : g < 8) (ho : ¬ σ (8 + g) 2 = 0) (sz : Nat) : vx_Met l yX7_needNotOver (.code yX7_needNotOver cX7_needNotOver 2 none :: zB) (zRx 0) (zPc [.ref (ad 0), .int (nI g)] D cy wa N n ad σ sz) zNo (zXC "java/lang/UnsupportedOperationException" D cy N n ad (σ) sz) 1 6 (zA n ad sz) := by
  refine z_metx (by decide) hls (List.forall_mem_cons.mpr ⟨rfl, (List.forall_mem_cons.mpr ⟨rfl, (fun _ h => nomatch h)⟩)⟩) (Nat.le_of_ble_eq_true rfl) (fun p_ e_ s_ m_ below_ meth_ c_ hsz hr hno X => ?_)
  have X : zX p_ l s_ m_ [.ref (ad 0), .int (nI g)].toArray meth_ c_ cX7_needNotOver 2 RX7 D cy wa (zA n ad sz) := X
  have hAd : ∀ i, i < n → zA n ad sz (ad i) := fun i hi => Or.inl ⟨i, hi, rfl⟩
  refine zw_run X (is := [(0, .aload_n 0, 1)]) (t' := (1, [some (.ref (ad 0)), some (.int (nI g))], [.ref (ad 0)])) ⟨dX7_needNotOver_0, trivial⟩ rfl ?_
  refine zw_getf X (i := 0) (by omega) zc_0 (C := RX7) (T := TX7) (Nf := 16) rfl zi_X7 0 (by decide) rfl zm_18 rfl dX7_needNotOver_1 ?_
  refine zw_run X (is := [(4, .iload_n 1, 1)]) (t' := (5, [some (.ref (ad 0)), some (.int (nI g))], [.int (nI g), .ref (ad 1)])) ⟨dX7_needNotOver_4, trivial⟩ rfl ?_
  refine zw_guild X (by omega) (g := g) rfl hg dX7_needNotOver_5 ?_
  refine zw_getf X (i := 8 + g) (by omega) (zc_G hg) (C := RX1) (T := TX1) (Nf := 7) rfl zi_X1 2 (by decide) rfl zm_134 rfl dX7_needNotOver_6 ?_
  refine zw_if_eq X (tgt := 23) dX7_needNotOver_9 (by decide) (fun h_ => absurd h_ ho) (fun _ => ?_)
  exact zw_throwW X hno zTh_uoe (is := 358) (text := "the guild is over") (by decide +kernel) rfl rfl dX7_needNotOver_12 dX7_needNotOver_15 dX7_needNotOver_16 dX7_needNotOver_19 dX7_needNotOver_22 ⟨Nat.le_of_ble_eq_true rfl, Nat.le_of_ble_eq_true rfl, Nat.le_of_ble_eq_true rfl, Nat.le_of_ble_eq_true rfl⟩ ⟨rfl, rfl⟩

set_option maxHeartbeats 4000000 in
set_option maxRecDepth 100000 in
theorem c_write {l : Launch} (hls : l.stackTraces = false) {D : va_G} {cy : Nat → ClassId} {wa : Nat → Nat} {N n : Nat} {ad : Nat → Nat} (hD : zD n ad) (hn : 40 ≤ n) (σ : zS) (g : Nat) (hg : g < 8) (a b : Int32) (sz : Nat) : Met l yX4_write (.code yX4_write cX4_write 3 none :: zB) (zRm 0) (zPc [.ref (ad (16 + g)), .int a, .int b] D cy wa N n ad σ sz) (zQv D cy N n ad (zu (zu (zu σ (16 + g) 0 a) (16 + g) 4 a) (16 + g) 1 b) sz) 0 0 (zA n ad sz) := by
  refine z_met (by decide) hls (List.forall_mem_cons.mpr ⟨rfl, (List.forall_mem_cons.mpr ⟨rfl, (List.forall_mem_cons.mpr ⟨rfl, (fun _ h => nomatch h)⟩)⟩)⟩) (Nat.le_of_ble_eq_true rfl) (fun p_ e_ s_ m_ below_ meth_ c_ hsz hr X => ?_)
  have X : zX p_ l s_ m_ [.ref (ad (16 + g)), .int a, .int b].toArray meth_ c_ cX4_write 3 RX4 D cy wa (zA n ad sz) := X
  have hAd : ∀ i, i < n → zA n ad sz (ad i) := fun i hi => Or.inl ⟨i, hi, rfl⟩
  refine zw_run X (is := [(0, .aload_n 0, 1), (1, .iload_n 1, 1)]) (t' := (2, [some (.ref (ad (16 + g))), some (.int a), some (.int b)], [.int a, .ref (ad (16 + g))])) ⟨dX4_write_0, dX4_write_1, trivial⟩ rfl ?_
  refine zw_put X hD hAd (i := 16 + g) (by omega) (zc_P hg) (C := RX4) (T := TX4) (Nf := 7) rfl zi_X4 tyX4 tyX4_ok nmX4 0 (by decide) rfl rfl zm_123 (ty := .int) (by decide +kernel) rfl rfl (Nat.le_of_ble_eq_true rfl) (zc_P hg) dX4_write_2 ?_
  refine zw_run X (is := [(5, .aload_n 0, 1), (6, .iload_n 1, 1)]) (t' := (7, [some (.ref (ad (16 + g))), some (.int a), some (.int b)], [.int a, .ref (ad (16 + g))])) ⟨dX4_write_5, dX4_write_6, trivial⟩ rfl ?_
  refine zw_put X hD hAd (i := 16 + g) (by omega) (zc_P hg) (C := RX4) (T := TX4) (Nf := 7) rfl zi_X4 tyX4 tyX4_ok nmX4 4 (by decide) rfl rfl zm_124 (ty := .int) (by decide +kernel) rfl rfl (Nat.le_of_ble_eq_true rfl) (zc_P hg) dX4_write_7 ?_
  refine zw_run X (is := [(10, .aload_n 0, 1), (11, .iload_n 2, 1)]) (t' := (12, [some (.ref (ad (16 + g))), some (.int a), some (.int b)], [.int b, .ref (ad (16 + g))])) ⟨dX4_write_10, dX4_write_11, trivial⟩ rfl ?_
  refine zw_put X hD hAd (i := 16 + g) (by omega) (zc_P hg) (C := RX4) (T := TX4) (Nf := 7) rfl zi_X4 tyX4 tyX4_ok nmX4 1 (by decide) rfl rfl zm_125 (ty := .int) (by decide +kernel) rfl rfl (Nat.le_of_ble_eq_true rfl) (zc_P hg) dX4_write_12 ?_
  exact zw_vret X hr dX4_write_15 rfl rfl

set_option maxHeartbeats 4000000 in
set_option maxRecDepth 100000 in
theorem c_lnib {l : Launch} (hls : l.stackTraces = false) {D : va_G} {cy : Nat → ClassId} {wa : Nat → Nat} {N n : Nat} {ad : Nat → Nat} (hD : zD n ad) (hn : 40 ≤ n) (σ : zS) (g : Nat) (hg : g < 8) (sz : Nat) : Met l yX4_linesNotInBook (.code yX4_linesNotInBook cX4_linesNotInBook 1 (some .int) :: zB) (zRm 0) (zPc [.ref (ad (16 + g))] D cy wa N n ad σ sz) (zQi (σ (16 + g) 0 - σ (16 + g) 4) D cy N n ad (σ) sz) 0 0 (zA n ad sz) := by
  refine z_met (by decide) hls (List.forall_mem_cons.mpr ⟨rfl, (fun _ h => nomatch h)⟩) (Nat.le_of_ble_eq_true rfl) (fun p_ e_ s_ m_ below_ meth_ c_ hsz hr X => ?_)
  have X : zX p_ l s_ m_ [.ref (ad (16 + g))].toArray meth_ c_ cX4_linesNotInBook 1 RX4 D cy wa (zA n ad sz) := X
  have hAd : ∀ i, i < n → zA n ad sz (ad i) := fun i hi => Or.inl ⟨i, hi, rfl⟩
  refine zw_run X (is := [(0, .aload_n 0, 1)]) (t' := (1, [some (.ref (ad (16 + g)))], [.ref (ad (16 + g))])) ⟨dX4_linesNotInBook_0, trivial⟩ rfl ?_
  refine zw_getf X (i := 16 + g) (by omega) (zc_P hg) (C := RX4) (T := TX4) (Nf := 7) rfl zi_X4 0 (by decide) rfl zm_123 rfl dX4_linesNotInBook_1 ?_
  refine zw_run X (is := [(4, .aload_n 0, 1)]) (t' := (5, [some (.ref (ad (16 + g)))], [.ref (ad (16 + g)), .int (σ (16 + g) 0)])) ⟨dX4_linesNotInBook_4, trivial⟩ rfl ?_
  refine zw_getf X (i := 16 + g) (by omega) (zc_P hg) (C := RX4) (T := TX4) (Nf := 7) rfl zi_X4 4 (by decide) rfl zm_124 rfl dX4_linesNotInBook_5 ?_
  refine zw_run X (is := [(8, .isub, 1)]) (t' := (9, [some (.ref (ad (16 + g)))], [.int ((σ (16 + g) 0) - (σ (16 + g) 4))])) ⟨dX4_linesNotInBook_8, trivial⟩ rfl ?_
  exact zw_iret X hr dX4_linesNotInBook_9 rfl rfl rfl

set_option maxHeartbeats 4000000 in
set_option maxRecDepth 100000 in
theorem c_leafCount {l : Launch} (hls : l.stackTraces = false) {D : va_G} {cy : Nat → ClassId} {wa : Nat → Nat} {N n : Nat} {ad : Nat → Nat} (hD : zD n ad) (hn : 40 ≤ n) (σ : zS) (g : Nat) (hg : g < 8) (sz : Nat) : Met l yX4_leafCount (.code yX4_leafCount cX4_leafCount 1 (some .int) :: zB) (zRm 0) (zPc [.ref (ad (16 + g))] D cy wa N n ad σ sz) (zQi ((σ (16 + g) 4 + 40 - 1) / 40) D cy N n ad (σ) sz) 0 0 (zA n ad sz) := by
  refine z_met (by decide) hls (List.forall_mem_cons.mpr ⟨rfl, (fun _ h => nomatch h)⟩) (Nat.le_of_ble_eq_true rfl) (fun p_ e_ s_ m_ below_ meth_ c_ hsz hr X => ?_)
  have X : zX p_ l s_ m_ [.ref (ad (16 + g))].toArray meth_ c_ cX4_leafCount 1 RX4 D cy wa (zA n ad sz) := X
  have hAd : ∀ i, i < n → zA n ad sz (ad i) := fun i hi => Or.inl ⟨i, hi, rfl⟩
  refine zw_run X (is := [(0, .aload_n 0, 1)]) (t' := (1, [some (.ref (ad (16 + g)))], [.ref (ad (16 + g))])) ⟨dX4_leafCount_0, trivial⟩ rfl ?_
  refine zw_getf X (i := 16 + g) (by omega) (zc_P hg) (C := RX4) (T := TX4) (Nf := 7) rfl zi_X4 4 (by decide) rfl zm_124 rfl dX4_leafCount_1 ?_
  refine zw_run X (is := [(4, .bipush 40, 2), (6, .iadd, 1), (7, .iconst 1, 1), (8, .isub, 1), (9, .bipush 40, 2)]) (t' := (11, [some (.ref (ad (16 + g)))], [.int 40, .int (((σ (16 + g) 4) + 40) - 1)])) ⟨dX4_leafCount_4, dX4_leafCount_6, dX4_leafCount_7, dX4_leafCount_8, dX4_leafCount_9, trivial⟩ rfl ?_
  refine zw_div X (by decide) dX4_leafCount_11 ?_
  exact zw_iret X hr dX4_leafCount_12 rfl rfl rfl
end
section
set_option maxHeartbeats 4000000 in
set_option maxRecDepth 100000 in
theorem c_isOver {l : Launch} (hls : l.stackTraces = false) {D : va_G} {cy : Nat → ClassId} {wa : Nat → Nat} {N n : Nat} {ad : Nat → Nat} (hD : zD n ad) (hn : 40 ≤ n) (σ : zS) (gc : Nat) (hgc : gc ≤ 8) (e0 : σ 0 11 = nI gc) (g : Nat) (hg : g < gc) (ho : σ (8 + g) 2 = 0 ∨ σ (8 + g) 2 = 1) (sz : Nat) : Met l yX7_isOver (.code yX7_isOver cX7_isOver 2 (some .boolean) :: zB) (zRm 2) (zPc [.ref (ad 0), .int (nI g)] D cy wa N n ad σ sz) (zQi (σ (8 + g) 2) D cy N n ad (σ) sz) 0 0 (zA n ad sz) := by
  refine z_met (by decide) hls (List.forall_mem_cons.mpr ⟨rfl, (List.forall_mem_cons.mpr ⟨rfl, (fun _ h => nomatch h)⟩)⟩) (Nat.le_of_ble_eq_true rfl) (fun p_ e_ s_ m_ below_ meth_ c_ hsz hr X => ?_)
  have X : zX p_ l s_ m_ [.ref (ad 0), .int (nI g)].toArray meth_ c_ cX7_isOver 2 RX7 D cy wa (zA n ad sz) := X
  have hAd : ∀ i, i < n → zA n ad sz (ad i) := fun i hi => Or.inl ⟨i, hi, rfl⟩
  have hg8 : g < 8 := by omega
  refine zw_run X (is := [(0, .aload_n 0, 1), (1, .iload_n 1, 1)]) (t' := (2, [some (.ref (ad 0)), some (.int (nI g))], [.int (nI g), .ref (ad 0)])) ⟨dX7_isOver_0, dX7_isOver_1, trivial⟩ rfl ?_
  refine zw_Vv X hAd (As := [.int (nI g)]) (rest := []) (d := 0) (i := 0) (by omega) zc_0 (q := (RX7, TX7, 16)) rfl ⟨zm_135, zm_136, zm_137, zm_2, zm_138, rfl, by decide, by decide, (show (parseMethodDescriptor yX7_needGuild.desc).map (fun d => d.parameters.length) = some 1 by decide +kernel)⟩ (fun sz => c_needGuild hls hD hn σ gc hgc e0 g hg sz) rfl rfl (Nat.le_of_ble_eq_true rfl) ⟨Nat.le_of_ble_eq_true rfl, Nat.le_of_ble_eq_true rfl⟩ ⟨Nat.zero_le _, Nat.zero_le _⟩ dX7_isOver_2 ?_
  refine zw_run X (is := [(5, .aload_n 0, 1)]) (t' := (6, [some (.ref (ad 0)), some (.int (nI g))], [.ref (ad 0)])) ⟨dX7_isOver_5, trivial⟩ rfl ?_
  refine zw_getf X (i := 0) (by omega) zc_0 (C := RX7) (T := TX7) (Nf := 16) rfl zi_X7 0 (by decide) rfl zm_18 rfl dX7_isOver_6 ?_
  refine zw_run X (is := [(9, .iload_n 1, 1)]) (t' := (10, [some (.ref (ad 0)), some (.int (nI g))], [.int (nI g), .ref (ad 1)])) ⟨dX7_isOver_9, trivial⟩ rfl ?_
  refine zw_guild X (by omega) (g := g) rfl hg8 dX7_isOver_10 ?_
  refine zw_getf X (i := 8 + g) (by omega) (zc_G hg8) (C := RX1) (T := TX1) (Nf := 7) rfl zi_X1 2 (by decide) rfl zm_134 rfl dX7_isOver_11 ?_
  exact zw_zret X hr dX7_isOver_14 (by rcases ho with h | h <;> rw [h] <;> rfl) rfl rfl rfl

set_option maxHeartbeats 4000000 in
set_option maxRecDepth 100000 in
theorem c_isOver_x {l : Launch} (hls : l.stackTraces = false) {D : va_G} {cy : Nat → ClassId} {wa : Nat → Nat} {N n : Nat} {ad : Nat → Nat} (hD : zD n ad) (hn : 40 ≤ n) (σ : zS) (gc : Nat) (hgc : gc ≤ 8) (e0 : σ 0 11 = nI gc) (g : Nat) (hg : gc ≤ g) (hg2 : g < 100)  (sz : Nat) : vx_Met l yX7_isOver (.code yX7_isOver cX7_isOver 2 (some .boolean) :: zB) (zRx 2) (zPc [.ref (ad 0), .int (nI g)] D cy wa N n ad σ sz) zNo (zXC "java/lang/IndexOutOfBoundsException" D cy N n ad (σ) sz) 1 6 (zA n ad sz) := by
  refine z_metx (by decide) hls (List.forall_mem_cons.mpr ⟨rfl, (List.forall_mem_cons.mpr ⟨rfl, (fun _ h => nomatch h)⟩)⟩) (Nat.le_of_ble_eq_true rfl) (fun p_ e_ s_ m_ below_ meth_ c_ hsz hr hno X => ?_)
  have X : zX p_ l s_ m_ [.ref (ad 0), .int (nI g)].toArray meth_ c_ cX7_isOver 2 RX7 D cy wa (zA n ad sz) := X
  have hAd : ∀ i, i < n → zA n ad sz (ad i) := fun i hi => Or.inl ⟨i, hi, rfl⟩
  refine zw_run X (is := [(0, .aload_n 0, 1), (1, .iload_n 1, 1)]) (t' := (2, [some (.ref (ad 0)), some (.int (nI g))], [.int (nI g), .ref (ad 0)])) ⟨dX7_isOver_0, dX7_isOver_1, trivial⟩ rfl ?_
  exact zw_Vo X hno hAd rfl (As := [.int (nI g)]) (rest := []) (d := 0) (i := 0) (by omega) zc_0 (q := (RX7, TX7, 16)) rfl ⟨zm_135, zm_136, zm_137, zm_2, zm_138, rfl, by decide, by decide, (show (parseMethodDescriptor yX7_needGuild.desc).map (fun d => d.parameters.length) = some 1 by decide +kernel)⟩ (fun sz => c_needGuild_x hls hD hn σ gc hgc e0 g hg hg2 sz) rfl rfl (Nat.le_of_ble_eq_true rfl) ⟨Nat.le_of_ble_eq_true rfl, Nat.le_of_ble_eq_true rfl⟩ ⟨Nat.le_of_ble_eq_true rfl, Nat.le_of_ble_eq_true rfl⟩ dX7_isOver_2

set_option maxHeartbeats 4000000 in
set_option maxRecDepth 100000 in
theorem c_of_m {l : Launch} (hls : l.stackTraces = false) {D : va_G} {cy : Nat → ClassId} {wa : Nat → Nat} {N n : Nat} {ad : Nat → Nat} (hD : zD n ad) (hn : 40 ≤ n) (σ : zS) (gc : Nat) (hgc : gc ≤ 8) (e0 : σ 0 11 = nI gc) (g : Nat) (hg : g < gc)  (sz : Nat) : Met l yX7_of (.code yX7_of cX7_of 4 (some .int) :: zB) (zRm 2) (zPc [.ref (ad 0), .int (nI g), .int 109] D cy wa N n ad σ sz) (zQi (σ (8 + g) 0) D cy N n ad (σ) sz) 0 0 (zA n ad sz) := by
  refine z_met (by decide) hls (List.forall_mem_cons.mpr ⟨rfl, (List.forall_mem_cons.mpr ⟨rfl, (List.forall_mem_cons.mpr ⟨rfl, (fun _ h => nomatch h)⟩)⟩)⟩) (Nat.le_of_ble_eq_true rfl) (fun p_ e_ s_ m_ below_ meth_ c_ hsz hr X => ?_)
  have X : zX p_ l s_ m_ [.ref (ad 0), .int (nI g), .int 109].toArray meth_ c_ cX7_of 4 RX7 D cy wa (zA n ad sz) := X
  have hAd : ∀ i, i < n → zA n ad sz (ad i) := fun i hi => Or.inl ⟨i, hi, rfl⟩
  have hg8 : g < 8 := by omega
  refine zw_run X (is := [(0, .aload_n 0, 1), (1, .iload_n 1, 1)]) (t' := (2, [some (.ref (ad 0)), some (.int (nI g)), some (.int 109), none], [.int (nI g), .ref (ad 0)])) ⟨dX7_of_0, dX7_of_1, trivial⟩ rfl ?_
  refine zw_Vv X hAd (As := [.int (nI g)]) (rest := []) (d := 0) (i := 0) (by omega) zc_0 (q := (RX7, TX7, 16)) rfl ⟨zm_135, zm_136, zm_137, zm_2, zm_138, rfl, by decide, by decide, (show (parseMethodDescriptor yX7_needGuild.desc).map (fun d => d.parameters.length) = some 1 by decide +kernel)⟩ (fun sz => c_needGuild hls hD hn σ gc hgc e0 g hg sz) rfl rfl (Nat.le_of_ble_eq_true rfl) ⟨Nat.le_of_ble_eq_true rfl, Nat.le_of_ble_eq_true rfl⟩ ⟨Nat.zero_le _, Nat.zero_le _⟩ dX7_of_2 ?_
  refine zw_run X (is := [(5, .aload_n 0, 1)]) (t' := (6, [some (.ref (ad 0)), some (.int (nI g)), some (.int 109), none], [.ref (ad 0)])) ⟨dX7_of_5, trivial⟩ rfl ?_
  refine zw_getf X (i := 0) (by omega) zc_0 (C := RX7) (T := TX7) (Nf := 16) rfl zi_X7 0 (by decide) rfl zm_18 rfl dX7_of_6 ?_
  refine zw_run X (is := [(9, .iload_n 1, 1)]) (t' := (10, [some (.ref (ad 0)), some (.int (nI g)), some (.int 109), none], [.int (nI g), .ref (ad 1)])) ⟨dX7_of_9, trivial⟩ rfl ?_
  refine zw_guild X (by omega) (g := g) rfl hg8 dX7_of_10 ?_
  refine zw_run X (is := [(11, .astore_n 3, 1), (12, .iload_n 2, 1)]) (t' := (13, [some (.ref (ad 0)), some (.int (nI g)), some (.int 109), some (.ref (ad (8 + g)))], [.int 109])) ⟨dX7_of_11, dX7_of_12, trivial⟩ rfl ?_
  refine zw_tabIn X (off := 107) (tgt := 120) dX7_of_13 (by decide) (by decide) (by decide) (by decide) ?_
  refine zw_run X (is := [(120, .aload_n 3, 1)]) (t' := (121, [some (.ref (ad 0)), some (.int (nI g)), some (.int 109), some (.ref (ad (8 + g)))], [.ref (ad (8 + g))])) ⟨dX7_of_120, trivial⟩ rfl ?_
  refine zw_getf X (i := 8 + g) (by omega) (zc_G hg8) (C := RX1) (T := TX1) (Nf := 7) rfl zi_X1 0 (by decide) rfl zm_111 rfl dX7_of_121 ?_
  exact zw_iret X hr dX7_of_124 rfl rfl rfl

set_option maxHeartbeats 4000000 in
set_option maxRecDepth 100000 in
theorem c_of_l {l : Launch} (hls : l.stackTraces = false) {D : va_G} {cy : Nat → ClassId} {wa : Nat → Nat} {N n : Nat} {ad : Nat → Nat} (hD : zD n ad) (hn : 40 ≤ n) (σ : zS) (gc : Nat) (hgc : gc ≤ 8) (e0 : σ 0 11 = nI gc) (g : Nat) (hg : g < gc)  (sz : Nat) : Met l yX7_of (.code yX7_of cX7_of 4 (some .int) :: zB) (zRm 2) (zPc [.ref (ad 0), .int (nI g), .int 108] D cy wa N n ad σ sz) (zQi (σ (16 + g) 0) D cy N n ad (σ) sz) 0 0 (zA n ad sz) := by
  refine z_met (by decide) hls (List.forall_mem_cons.mpr ⟨rfl, (List.forall_mem_cons.mpr ⟨rfl, (List.forall_mem_cons.mpr ⟨rfl, (fun _ h => nomatch h)⟩)⟩)⟩) (Nat.le_of_ble_eq_true rfl) (fun p_ e_ s_ m_ below_ meth_ c_ hsz hr X => ?_)
  have X : zX p_ l s_ m_ [.ref (ad 0), .int (nI g), .int 108].toArray meth_ c_ cX7_of 4 RX7 D cy wa (zA n ad sz) := X
  have hAd : ∀ i, i < n → zA n ad sz (ad i) := fun i hi => Or.inl ⟨i, hi, rfl⟩
  have hg8 : g < 8 := by omega
  refine zw_run X (is := [(0, .aload_n 0, 1), (1, .iload_n 1, 1)]) (t' := (2, [some (.ref (ad 0)), some (.int (nI g)), some (.int 108), none], [.int (nI g), .ref (ad 0)])) ⟨dX7_of_0, dX7_of_1, trivial⟩ rfl ?_
  refine zw_Vv X hAd (As := [.int (nI g)]) (rest := []) (d := 0) (i := 0) (by omega) zc_0 (q := (RX7, TX7, 16)) rfl ⟨zm_135, zm_136, zm_137, zm_2, zm_138, rfl, by decide, by decide, (show (parseMethodDescriptor yX7_needGuild.desc).map (fun d => d.parameters.length) = some 1 by decide +kernel)⟩ (fun sz => c_needGuild hls hD hn σ gc hgc e0 g hg sz) rfl rfl (Nat.le_of_ble_eq_true rfl) ⟨Nat.le_of_ble_eq_true rfl, Nat.le_of_ble_eq_true rfl⟩ ⟨Nat.zero_le _, Nat.zero_le _⟩ dX7_of_2 ?_
  refine zw_run X (is := [(5, .aload_n 0, 1)]) (t' := (6, [some (.ref (ad 0)), some (.int (nI g)), some (.int 108), none], [.ref (ad 0)])) ⟨dX7_of_5, trivial⟩ rfl ?_
  refine zw_getf X (i := 0) (by omega) zc_0 (C := RX7) (T := TX7) (Nf := 16) rfl zi_X7 0 (by decide) rfl zm_18 rfl dX7_of_6 ?_
  refine zw_run X (is := [(9, .iload_n 1, 1)]) (t' := (10, [some (.ref (ad 0)), some (.int (nI g)), some (.int 108), none], [.int (nI g), .ref (ad 1)])) ⟨dX7_of_9, trivial⟩ rfl ?_
  refine zw_guild X (by omega) (g := g) rfl hg8 dX7_of_10 ?_
  refine zw_run X (is := [(11, .astore_n 3, 1), (12, .iload_n 2, 1)]) (t' := (13, [some (.ref (ad 0)), some (.int (nI g)), some (.int 108), some (.ref (ad (8 + g)))], [.int 108])) ⟨dX7_of_11, dX7_of_12, trivial⟩ rfl ?_
  refine zw_tabIn X (off := 112) (tgt := 125) dX7_of_13 (by decide) (by decide) (by decide) (by decide) ?_
  refine zw_run X (is := [(125, .aload_n 3, 1)]) (t' := (126, [some (.ref (ad 0)), some (.int (nI g)), some (.int 108), some (.ref (ad (8 + g)))], [.ref (ad (8 + g))])) ⟨dX7_of_125, trivial⟩ rfl ?_
  refine zw_getf X (i := 8 + g) (by omega) (zc_G hg8) (C := RX1) (T := TX1) (Nf := 7) rfl zi_X1 6 (by decide) rfl zm_112 rfl dX7_of_126 ?_
  refine zw_getf X (i := 16 + g) (by omega) (zc_P hg8) (C := RX4) (T := TX4) (Nf := 7) rfl zi_X4 0 (by decide) rfl zm_280 rfl dX7_of_129 ?_
  exact zw_iret X hr dX7_of_132 rfl rfl rfl

set_option maxHeartbeats 4000000 in
set_option maxRecDepth 100000 in
theorem c_of_p {l : Launch} (hls : l.stackTraces = false) {D : va_G} {cy : Nat → ClassId} {wa : Nat → Nat} {N n : Nat} {ad : Nat → Nat} (hD : zD n ad) (hn : 40 ≤ n) (σ : zS) (gc : Nat) (hgc : gc ≤ 8) (e0 : σ 0 11 = nI gc) (g : Nat) (hg : g < gc)  (sz : Nat) : Met l yX7_of (.code yX7_of cX7_of 4 (some .int) :: zB) (zRm 2) (zPc [.ref (ad 0), .int (nI g), .int 112] D cy wa N n ad σ sz) (zQi (σ (16 + g) 1) D cy N n ad (σ) sz) 0 0 (zA n ad sz) := by
  refine z_met (by decide) hls (List.forall_mem_cons.mpr ⟨rfl, (List.forall_mem_cons.mpr ⟨rfl, (List.forall_mem_cons.mpr ⟨rfl, (fun _ h => nomatch h)⟩)⟩)⟩) (Nat.le_of_ble_eq_true rfl) (fun p_ e_ s_ m_ below_ meth_ c_ hsz hr X => ?_)
  have X : zX p_ l s_ m_ [.ref (ad 0), .int (nI g), .int 112].toArray meth_ c_ cX7_of 4 RX7 D cy wa (zA n ad sz) := X
  have hAd : ∀ i, i < n → zA n ad sz (ad i) := fun i hi => Or.inl ⟨i, hi, rfl⟩
  have hg8 : g < 8 := by omega
  refine zw_run X (is := [(0, .aload_n 0, 1), (1, .iload_n 1, 1)]) (t' := (2, [some (.ref (ad 0)), some (.int (nI g)), some (.int 112), none], [.int (nI g), .ref (ad 0)])) ⟨dX7_of_0, dX7_of_1, trivial⟩ rfl ?_
  refine zw_Vv X hAd (As := [.int (nI g)]) (rest := []) (d := 0) (i := 0) (by omega) zc_0 (q := (RX7, TX7, 16)) rfl ⟨zm_135, zm_136, zm_137, zm_2, zm_138, rfl, by decide, by decide, (show (parseMethodDescriptor yX7_needGuild.desc).map (fun d => d.parameters.length) = some 1 by decide +kernel)⟩ (fun sz => c_needGuild hls hD hn σ gc hgc e0 g hg sz) rfl rfl (Nat.le_of_ble_eq_true rfl) ⟨Nat.le_of_ble_eq_true rfl, Nat.le_of_ble_eq_true rfl⟩ ⟨Nat.zero_le _, Nat.zero_le _⟩ dX7_of_2 ?_
  refine zw_run X (is := [(5, .aload_n 0, 1)]) (t' := (6, [some (.ref (ad 0)), some (.int (nI g)), some (.int 112), none], [.ref (ad 0)])) ⟨dX7_of_5, trivial⟩ rfl ?_
  refine zw_getf X (i := 0) (by omega) zc_0 (C := RX7) (T := TX7) (Nf := 16) rfl zi_X7 0 (by decide) rfl zm_18 rfl dX7_of_6 ?_
  refine zw_run X (is := [(9, .iload_n 1, 1)]) (t' := (10, [some (.ref (ad 0)), some (.int (nI g)), some (.int 112), none], [.int (nI g), .ref (ad 1)])) ⟨dX7_of_9, trivial⟩ rfl ?_
  refine zw_guild X (by omega) (g := g) rfl hg8 dX7_of_10 ?_
  refine zw_run X (is := [(11, .astore_n 3, 1), (12, .iload_n 2, 1)]) (t' := (13, [some (.ref (ad 0)), some (.int (nI g)), some (.int 112), some (.ref (ad (8 + g)))], [.int 112])) ⟨dX7_of_11, dX7_of_12, trivial⟩ rfl ?_
  refine zw_tabIn X (off := 120) (tgt := 133) dX7_of_13 (by decide) (by decide) (by decide) (by decide) ?_
  refine zw_run X (is := [(133, .aload_n 3, 1)]) (t' := (134, [some (.ref (ad 0)), some (.int (nI g)), some (.int 112), some (.ref (ad (8 + g)))], [.ref (ad (8 + g))])) ⟨dX7_of_133, trivial⟩ rfl ?_
  refine zw_getf X (i := 8 + g) (by omega) (zc_G hg8) (C := RX1) (T := TX1) (Nf := 7) rfl zi_X1 6 (by decide) rfl zm_112 rfl dX7_of_134 ?_
  refine zw_getf X (i := 16 + g) (by omega) (zc_P hg8) (C := RX4) (T := TX4) (Nf := 7) rfl zi_X4 1 (by decide) rfl zm_251 rfl dX7_of_137 ?_
  exact zw_iret X hr dX7_of_140 rfl rfl rfl

set_option maxHeartbeats 4000000 in
set_option maxRecDepth 100000 in
theorem c_of_e {l : Launch} (hls : l.stackTraces = false) {D : va_G} {cy : Nat → ClassId} {wa : Nat → Nat} {N n : Nat} {ad : Nat → Nat} (hD : zD n ad) (hn : 40 ≤ n) (σ : zS) (gc : Nat) (hgc : gc ≤ 8) (e0 : σ 0 11 = nI gc) (g : Nat) (hg : g < gc)  (sz : Nat) : Met l yX7_of (.code yX7_of cX7_of 4 (some .int) :: zB) (zRm 2) (zPc [.ref (ad 0), .int (nI g), .int 101] D cy wa N n ad σ sz) (zQi (σ (16 + g) 3) D cy N n ad (σ) sz) 0 0 (zA n ad sz) := by
  refine z_met (by decide) hls (List.forall_mem_cons.mpr ⟨rfl, (List.forall_mem_cons.mpr ⟨rfl, (List.forall_mem_cons.mpr ⟨rfl, (fun _ h => nomatch h)⟩)⟩)⟩) (Nat.le_of_ble_eq_true rfl) (fun p_ e_ s_ m_ below_ meth_ c_ hsz hr X => ?_)
  have X : zX p_ l s_ m_ [.ref (ad 0), .int (nI g), .int 101].toArray meth_ c_ cX7_of 4 RX7 D cy wa (zA n ad sz) := X
  have hAd : ∀ i, i < n → zA n ad sz (ad i) := fun i hi => Or.inl ⟨i, hi, rfl⟩
  have hg8 : g < 8 := by omega
  refine zw_run X (is := [(0, .aload_n 0, 1), (1, .iload_n 1, 1)]) (t' := (2, [some (.ref (ad 0)), some (.int (nI g)), some (.int 101), none], [.int (nI g), .ref (ad 0)])) ⟨dX7_of_0, dX7_of_1, trivial⟩ rfl ?_
  refine zw_Vv X hAd (As := [.int (nI g)]) (rest := []) (d := 0) (i := 0) (by omega) zc_0 (q := (RX7, TX7, 16)) rfl ⟨zm_135, zm_136, zm_137, zm_2, zm_138, rfl, by decide, by decide, (show (parseMethodDescriptor yX7_needGuild.desc).map (fun d => d.parameters.length) = some 1 by decide +kernel)⟩ (fun sz => c_needGuild hls hD hn σ gc hgc e0 g hg sz) rfl rfl (Nat.le_of_ble_eq_true rfl) ⟨Nat.le_of_ble_eq_true rfl, Nat.le_of_ble_eq_true rfl⟩ ⟨Nat.zero_le _, Nat.zero_le _⟩ dX7_of_2 ?_
  refine zw_run X (is := [(5, .aload_n 0, 1)]) (t' := (6, [some (.ref (ad 0)), some (.int (nI g)), some (.int 101), none], [.ref (ad 0)])) ⟨dX7_of_5, trivial⟩ rfl ?_
  refine zw_getf X (i := 0) (by omega) zc_0 (C := RX7) (T := TX7) (Nf := 16) rfl zi_X7 0 (by decide) rfl zm_18 rfl dX7_of_6 ?_
  refine zw_run X (is := [(9, .iload_n 1, 1)]) (t' := (10, [some (.ref (ad 0)), some (.int (nI g)), some (.int 101), none], [.int (nI g), .ref (ad 1)])) ⟨dX7_of_9, trivial⟩ rfl ?_
  refine zw_guild X (by omega) (g := g) rfl hg8 dX7_of_10 ?_
  refine zw_run X (is := [(11, .astore_n 3, 1), (12, .iload_n 2, 1)]) (t' := (13, [some (.ref (ad 0)), some (.int (nI g)), some (.int 101), some (.ref (ad (8 + g)))], [.int 101])) ⟨dX7_of_11, dX7_of_12, trivial⟩ rfl ?_
  refine zw_tabIn X (off := 128) (tgt := 141) dX7_of_13 (by decide) (by decide) (by decide) (by decide) ?_
  refine zw_run X (is := [(141, .aload_n 3, 1)]) (t' := (142, [some (.ref (ad 0)), some (.int (nI g)), some (.int 101), some (.ref (ad (8 + g)))], [.ref (ad (8 + g))])) ⟨dX7_of_141, trivial⟩ rfl ?_
  refine zw_getf X (i := 8 + g) (by omega) (zc_G hg8) (C := RX1) (T := TX1) (Nf := 7) rfl zi_X1 6 (by decide) rfl zm_112 rfl dX7_of_142 ?_
  refine zw_getf X (i := 16 + g) (by omega) (zc_P hg8) (C := RX4) (T := TX4) (Nf := 7) rfl zi_X4 3 (by decide) rfl zm_235 rfl dX7_of_145 ?_
  exact zw_iret X hr dX7_of_148 rfl rfl rfl

set_option maxHeartbeats 4000000 in
set_option maxRecDepth 100000 in
theorem c_of_w {l : Launch} (hls : l.stackTraces = false) {D : va_G} {cy : Nat → ClassId} {wa : Nat → Nat} {N n : Nat} {ad : Nat → Nat} (hD : zD n ad) (hn : 40 ≤ n) (σ : zS) (gc : Nat) (hgc : gc ≤ 8) (e0 : σ 0 11 = nI gc) (g : Nat) (hg : g < gc)  (sz : Nat) : Met l yX7_of (.code yX7_of cX7_of 4 (some .int) :: zB) (zRm 2) (zPc [.ref (ad 0), .int (nI g), .int 119] D cy wa N n ad σ sz) (zQi (σ (8 + g) 5) D cy N n ad (σ) sz) 0 0 (zA n ad sz) := by
  refine z_met (by decide) hls (List.forall_mem_cons.mpr ⟨rfl, (List.forall_mem_cons.mpr ⟨rfl, (List.forall_mem_cons.mpr ⟨rfl, (fun _ h => nomatch h)⟩)⟩)⟩) (Nat.le_of_ble_eq_true rfl) (fun p_ e_ s_ m_ below_ meth_ c_ hsz hr X => ?_)
  have X : zX p_ l s_ m_ [.ref (ad 0), .int (nI g), .int 119].toArray meth_ c_ cX7_of 4 RX7 D cy wa (zA n ad sz) := X
  have hAd : ∀ i, i < n → zA n ad sz (ad i) := fun i hi => Or.inl ⟨i, hi, rfl⟩
  have hg8 : g < 8 := by omega
  refine zw_run X (is := [(0, .aload_n 0, 1), (1, .iload_n 1, 1)]) (t' := (2, [some (.ref (ad 0)), some (.int (nI g)), some (.int 119), none], [.int (nI g), .ref (ad 0)])) ⟨dX7_of_0, dX7_of_1, trivial⟩ rfl ?_
  refine zw_Vv X hAd (As := [.int (nI g)]) (rest := []) (d := 0) (i := 0) (by omega) zc_0 (q := (RX7, TX7, 16)) rfl ⟨zm_135, zm_136, zm_137, zm_2, zm_138, rfl, by decide, by decide, (show (parseMethodDescriptor yX7_needGuild.desc).map (fun d => d.parameters.length) = some 1 by decide +kernel)⟩ (fun sz => c_needGuild hls hD hn σ gc hgc e0 g hg sz) rfl rfl (Nat.le_of_ble_eq_true rfl) ⟨Nat.le_of_ble_eq_true rfl, Nat.le_of_ble_eq_true rfl⟩ ⟨Nat.zero_le _, Nat.zero_le _⟩ dX7_of_2 ?_
  refine zw_run X (is := [(5, .aload_n 0, 1)]) (t' := (6, [some (.ref (ad 0)), some (.int (nI g)), some (.int 119), none], [.ref (ad 0)])) ⟨dX7_of_5, trivial⟩ rfl ?_
  refine zw_getf X (i := 0) (by omega) zc_0 (C := RX7) (T := TX7) (Nf := 16) rfl zi_X7 0 (by decide) rfl zm_18 rfl dX7_of_6 ?_
  refine zw_run X (is := [(9, .iload_n 1, 1)]) (t' := (10, [some (.ref (ad 0)), some (.int (nI g)), some (.int 119), none], [.int (nI g), .ref (ad 1)])) ⟨dX7_of_9, trivial⟩ rfl ?_
  refine zw_guild X (by omega) (g := g) rfl hg8 dX7_of_10 ?_
  refine zw_run X (is := [(11, .astore_n 3, 1), (12, .iload_n 2, 1)]) (t' := (13, [some (.ref (ad 0)), some (.int (nI g)), some (.int 119), some (.ref (ad (8 + g)))], [.int 119])) ⟨dX7_of_11, dX7_of_12, trivial⟩ rfl ?_
  refine zw_tabIn X (off := 136) (tgt := 149) dX7_of_13 (by decide) (by decide) (by decide) (by decide) ?_
  refine zw_run X (is := [(149, .aload_n 3, 1)]) (t' := (150, [some (.ref (ad 0)), some (.int (nI g)), some (.int 119), some (.ref (ad (8 + g)))], [.ref (ad (8 + g))])) ⟨dX7_of_149, trivial⟩ rfl ?_
  refine zw_getf X (i := 8 + g) (by omega) (zc_G hg8) (C := RX1) (T := TX1) (Nf := 7) rfl zi_X1 5 (by decide) rfl zm_260 rfl dX7_of_150 ?_
  exact zw_iret X hr dX7_of_153 rfl rfl rfl

set_option maxHeartbeats 4000000 in
set_option maxRecDepth 100000 in
theorem c_of_f {l : Launch} (hls : l.stackTraces = false) {D : va_G} {cy : Nat → ClassId} {wa : Nat → Nat} {N n : Nat} {ad : Nat → Nat} (hD : zD n ad) (hn : 40 ≤ n) (σ : zS) (gc : Nat) (hgc : gc ≤ 8) (e0 : σ 0 11 = nI gc) (g : Nat) (hg : g < gc)  (sz : Nat) : Met l yX7_of (.code yX7_of cX7_of 4 (some .int) :: zB) (zRm 2) (zPc [.ref (ad 0), .int (nI g), .int 102] D cy wa N n ad σ sz) (zQi (σ (8 + g) 1) D cy N n ad (σ) sz) 0 0 (zA n ad sz) := by
  refine z_met (by decide) hls (List.forall_mem_cons.mpr ⟨rfl, (List.forall_mem_cons.mpr ⟨rfl, (List.forall_mem_cons.mpr ⟨rfl, (fun _ h => nomatch h)⟩)⟩)⟩) (Nat.le_of_ble_eq_true rfl) (fun p_ e_ s_ m_ below_ meth_ c_ hsz hr X => ?_)
  have X : zX p_ l s_ m_ [.ref (ad 0), .int (nI g), .int 102].toArray meth_ c_ cX7_of 4 RX7 D cy wa (zA n ad sz) := X
  have hAd : ∀ i, i < n → zA n ad sz (ad i) := fun i hi => Or.inl ⟨i, hi, rfl⟩
  have hg8 : g < 8 := by omega
  refine zw_run X (is := [(0, .aload_n 0, 1), (1, .iload_n 1, 1)]) (t' := (2, [some (.ref (ad 0)), some (.int (nI g)), some (.int 102), none], [.int (nI g), .ref (ad 0)])) ⟨dX7_of_0, dX7_of_1, trivial⟩ rfl ?_
  refine zw_Vv X hAd (As := [.int (nI g)]) (rest := []) (d := 0) (i := 0) (by omega) zc_0 (q := (RX7, TX7, 16)) rfl ⟨zm_135, zm_136, zm_137, zm_2, zm_138, rfl, by decide, by decide, (show (parseMethodDescriptor yX7_needGuild.desc).map (fun d => d.parameters.length) = some 1 by decide +kernel)⟩ (fun sz => c_needGuild hls hD hn σ gc hgc e0 g hg sz) rfl rfl (Nat.le_of_ble_eq_true rfl) ⟨Nat.le_of_ble_eq_true rfl, Nat.le_of_ble_eq_true rfl⟩ ⟨Nat.zero_le _, Nat.zero_le _⟩ dX7_of_2 ?_
  refine zw_run X (is := [(5, .aload_n 0, 1)]) (t' := (6, [some (.ref (ad 0)), some (.int (nI g)), some (.int 102), none], [.ref (ad 0)])) ⟨dX7_of_5, trivial⟩ rfl ?_
  refine zw_getf X (i := 0) (by omega) zc_0 (C := RX7) (T := TX7) (Nf := 16) rfl zi_X7 0 (by decide) rfl zm_18 rfl dX7_of_6 ?_
  refine zw_run X (is := [(9, .iload_n 1, 1)]) (t' := (10, [some (.ref (ad 0)), some (.int (nI g)), some (.int 102), none], [.int (nI g), .ref (ad 1)])) ⟨dX7_of_9, trivial⟩ rfl ?_
  refine zw_guild X (by omega) (g := g) rfl hg8 dX7_of_10 ?_
  refine zw_run X (is := [(11, .astore_n 3, 1), (12, .iload_n 2, 1)]) (t' := (13, [some (.ref (ad 0)), some (.int (nI g)), some (.int 102), some (.ref (ad (8 + g)))], [.int 102])) ⟨dX7_of_11, dX7_of_12, trivial⟩ rfl ?_
  refine zw_tabIn X (off := 141) (tgt := 154) dX7_of_13 (by decide) (by decide) (by decide) (by decide) ?_
  refine zw_run X (is := [(154, .aload_n 3, 1)]) (t' := (155, [some (.ref (ad 0)), some (.int (nI g)), some (.int 102), some (.ref (ad (8 + g)))], [.ref (ad (8 + g))])) ⟨dX7_of_154, trivial⟩ rfl ?_
  refine zw_getf X (i := 8 + g) (by omega) (zc_G hg8) (C := RX1) (T := TX1) (Nf := 7) rfl zi_X1 1 (by decide) rfl zm_390 rfl dX7_of_155 ?_
  exact zw_iret X hr dX7_of_158 rfl rfl rfl

set_option maxHeartbeats 4000000 in
set_option maxRecDepth 100000 in
theorem c_of_a {l : Launch} (hls : l.stackTraces = false) {D : va_G} {cy : Nat → ClassId} {wa : Nat → Nat} {N n : Nat} {ad : Nat → Nat} (hD : zD n ad) (hn : 40 ≤ n) (σ : zS) (gc : Nat) (hgc : gc ≤ 8) (e0 : σ 0 11 = nI gc) (g : Nat) (hg : g < gc)  (sz : Nat) : Met l yX7_of (.code yX7_of cX7_of 4 (some .int) :: zB) (zRm 2) (zPc [.ref (ad 0), .int (nI g), .int 97] D cy wa N n ad σ sz) (zQi (σ (16 + g) 0 - σ (16 + g) 4) D cy N n ad (σ) sz) 0 0 (zA n ad sz) := by
  refine z_met (by decide) hls (List.forall_mem_cons.mpr ⟨rfl, (List.forall_mem_cons.mpr ⟨rfl, (List.forall_mem_cons.mpr ⟨rfl, (fun _ h => nomatch h)⟩)⟩)⟩) (Nat.le_of_ble_eq_true rfl) (fun p_ e_ s_ m_ below_ meth_ c_ hsz hr X => ?_)
  have X : zX p_ l s_ m_ [.ref (ad 0), .int (nI g), .int 97].toArray meth_ c_ cX7_of 4 RX7 D cy wa (zA n ad sz) := X
  have hAd : ∀ i, i < n → zA n ad sz (ad i) := fun i hi => Or.inl ⟨i, hi, rfl⟩
  have hg8 : g < 8 := by omega
  refine zw_run X (is := [(0, .aload_n 0, 1), (1, .iload_n 1, 1)]) (t' := (2, [some (.ref (ad 0)), some (.int (nI g)), some (.int 97), none], [.int (nI g), .ref (ad 0)])) ⟨dX7_of_0, dX7_of_1, trivial⟩ rfl ?_
  refine zw_Vv X hAd (As := [.int (nI g)]) (rest := []) (d := 0) (i := 0) (by omega) zc_0 (q := (RX7, TX7, 16)) rfl ⟨zm_135, zm_136, zm_137, zm_2, zm_138, rfl, by decide, by decide, (show (parseMethodDescriptor yX7_needGuild.desc).map (fun d => d.parameters.length) = some 1 by decide +kernel)⟩ (fun sz => c_needGuild hls hD hn σ gc hgc e0 g hg sz) rfl rfl (Nat.le_of_ble_eq_true rfl) ⟨Nat.le_of_ble_eq_true rfl, Nat.le_of_ble_eq_true rfl⟩ ⟨Nat.zero_le _, Nat.zero_le _⟩ dX7_of_2 ?_
  refine zw_run X (is := [(5, .aload_n 0, 1)]) (t' := (6, [some (.ref (ad 0)), some (.int (nI g)), some (.int 97), none], [.ref (ad 0)])) ⟨dX7_of_5, trivial⟩ rfl ?_
  refine zw_getf X (i := 0) (by omega) zc_0 (C := RX7) (T := TX7) (Nf := 16) rfl zi_X7 0 (by decide) rfl zm_18 rfl dX7_of_6 ?_
  refine zw_run X (is := [(9, .iload_n 1, 1)]) (t' := (10, [some (.ref (ad 0)), some (.int (nI g)), some (.int 97), none], [.int (nI g), .ref (ad 1)])) ⟨dX7_of_9, trivial⟩ rfl ?_
  refine zw_guild X (by omega) (g := g) rfl hg8 dX7_of_10 ?_
  refine zw_run X (is := [(11, .astore_n 3, 1), (12, .iload_n 2, 1)]) (t' := (13, [some (.ref (ad 0)), some (.int (nI g)), some (.int 97), some (.ref (ad (8 + g)))], [.int 97])) ⟨dX7_of_11, dX7_of_12, trivial⟩ rfl ?_
  refine zw_tabIn X (off := 146) (tgt := 159) dX7_of_13 (by decide) (by decide) (by decide) (by decide) ?_
  refine zw_run X (is := [(159, .aload_n 3, 1)]) (t' := (160, [some (.ref (ad 0)), some (.int (nI g)), some (.int 97), some (.ref (ad (8 + g)))], [.ref (ad (8 + g))])) ⟨dX7_of_159, trivial⟩ rfl ?_
  refine zw_getf X (i := 8 + g) (by omega) (zc_G hg8) (C := RX1) (T := TX1) (Nf := 7) rfl zi_X1 6 (by decide) rfl zm_112 rfl dX7_of_160 ?_
  refine zw_Vi X hAd (As := []) (rest := []) (d := 0) (i := 16 + g) (by omega) (zc_P hg8) (q := (RX4, TX4, 7)) rfl ⟨zm_281, zm_282, zm_283, zm_81, zm_284, rfl, by decide, by decide, (show (parseMethodDescriptor yX4_linesNotInBook.desc).map (fun d => d.parameters.length) = some 0 by decide +kernel)⟩ (fun sz => c_lnib hls hD hn σ g hg8 sz) rfl rfl (Nat.le_of_ble_eq_true rfl) ⟨Nat.le_of_ble_eq_true rfl, Nat.le_of_ble_eq_true rfl⟩ ⟨Nat.zero_le _, Nat.zero_le _⟩ dX7_of_163 ?_
  exact zw_iret X hr dX7_of_166 rfl rfl rfl

set_option maxHeartbeats 4000000 in
set_option maxRecDepth 100000 in
theorem c_of_bad {l : Launch} (hls : l.stackTraces = false) {D : va_G} {cy : Nat → ClassId} {wa : Nat → Nat} {N n : Nat} {ad : Nat → Nat} (hD : zD n ad) (hn : 40 ≤ n) (σ : zS) (gc : Nat) (hgc : gc ≤ 8) (e0 : σ 0 11 = nI gc) (g : Nat) (hg : g < gc)  (sz : Nat) : vx_Met l yX7_of (.code yX7_of cX7_of 4 (some .int) :: zB) (zRx 2) (zPc [.ref (ad 0), .int (nI g), .int 120] D cy wa N n ad σ sz) zNo (zXC "java/lang/IllegalArgumentException" D cy N n ad (σ) sz) 1 6 (zA n ad sz) := by
  refine z_metx (by decide) hls (List.forall_mem_cons.mpr ⟨rfl, (List.forall_mem_cons.mpr ⟨rfl, (List.forall_mem_cons.mpr ⟨rfl, (fun _ h => nomatch h)⟩)⟩)⟩) (Nat.le_of_ble_eq_true rfl) (fun p_ e_ s_ m_ below_ meth_ c_ hsz hr hno X => ?_)
  have X : zX p_ l s_ m_ [.ref (ad 0), .int (nI g), .int 120].toArray meth_ c_ cX7_of 4 RX7 D cy wa (zA n ad sz) := X
  have hAd : ∀ i, i < n → zA n ad sz (ad i) := fun i hi => Or.inl ⟨i, hi, rfl⟩
  have hg8 : g < 8 := by omega
  refine zw_run X (is := [(0, .aload_n 0, 1), (1, .iload_n 1, 1)]) (t' := (2, [some (.ref (ad 0)), some (.int (nI g)), some (.int 120), none], [.int (nI g), .ref (ad 0)])) ⟨dX7_of_0, dX7_of_1, trivial⟩ rfl ?_
  refine zw_Vv X hAd (As := [.int (nI g)]) (rest := []) (d := 0) (i := 0) (by omega) zc_0 (q := (RX7, TX7, 16)) rfl ⟨zm_135, zm_136, zm_137, zm_2, zm_138, rfl, by decide, by decide, (show (parseMethodDescriptor yX7_needGuild.desc).map (fun d => d.parameters.length) = some 1 by decide +kernel)⟩ (fun sz => c_needGuild hls hD hn σ gc hgc e0 g hg sz) rfl rfl (Nat.le_of_ble_eq_true rfl) ⟨Nat.le_of_ble_eq_true rfl, Nat.le_of_ble_eq_true rfl⟩ ⟨Nat.zero_le _, Nat.zero_le _⟩ dX7_of_2 ?_
  refine zw_run X (is := [(5, .aload_n 0, 1)]) (t' := (6, [some (.ref (ad 0)), some (.int (nI g)), some (.int 120), none], [.ref (ad 0)])) ⟨dX7_of_5, trivial⟩ rfl ?_
  refine zw_getf X (i := 0) (by omega) zc_0 (C := RX7) (T := TX7) (Nf := 16) rfl zi_X7 0 (by decide) rfl zm_18 rfl dX7_of_6 ?_
  refine zw_run X (is := [(9, .iload_n 1, 1)]) (t' := (10, [some (.ref (ad 0)), some (.int (nI g)), some (.int 120), none], [.int (nI g), .ref (ad 1)])) ⟨dX7_of_9, trivial⟩ rfl ?_
  refine zw_guild X (by omega) (g := g) rfl hg8 dX7_of_10 ?_
  refine zw_run X (is := [(11, .astore_n 3, 1), (12, .iload_n 2, 1)]) (t' := (13, [some (.ref (ad 0)), some (.int (nI g)), some (.int 120), some (.ref (ad (8 + g)))], [.int 120])) ⟨dX7_of_11, dX7_of_12, trivial⟩ rfl ?_
  refine zw_tabOut X (tgt := 167) dX7_of_13 (Or.inr (by decide)) (by decide) ?_
  exact zw_throw X hno zTh_iae (is := 123) (text := "no such thing of a guild") (by decide +kernel) rfl rfl dX7_of_167 dX7_of_170 dX7_of_171 dX7_of_173 dX7_of_176 ⟨Nat.le_of_ble_eq_true rfl, Nat.le_of_ble_eq_true rfl, Nat.le_of_ble_eq_true rfl, Nat.le_of_ble_eq_true rfl⟩ ⟨rfl, rfl⟩

set_option maxHeartbeats 4000000 in
set_option maxRecDepth 100000 in
theorem c_of_x {l : Launch} (hls : l.stackTraces = false) {D : va_G} {cy : Nat → ClassId} {wa : Nat → Nat} {N n : Nat} {ad : Nat → Nat} (hD : zD n ad) (hn : 40 ≤ n) (σ : zS) (gc : Nat) (hgc : gc ≤ 8) (e0 : σ 0 11 = nI gc) (g : Nat) (hg : gc ≤ g) (hg2 : g < 100) (w : Int32) (sz : Nat) : vx_Met l yX7_of (.code yX7_of cX7_of 4 (some .int) :: zB) (zRx 2) (zPc [.ref (ad 0), .int (nI g), .int w] D cy wa N n ad σ sz) zNo (zXC "java/lang/IndexOutOfBoundsException" D cy N n ad (σ) sz) 1 6 (zA n ad sz) := by
  refine z_metx (by decide) hls (List.forall_mem_cons.mpr ⟨rfl, (List.forall_mem_cons.mpr ⟨rfl, (List.forall_mem_cons.mpr ⟨rfl, (fun _ h => nomatch h)⟩)⟩)⟩) (Nat.le_of_ble_eq_true rfl) (fun p_ e_ s_ m_ below_ meth_ c_ hsz hr hno X => ?_)
  have X : zX p_ l s_ m_ [.ref (ad 0), .int (nI g), .int w].toArray meth_ c_ cX7_of 4 RX7 D cy wa (zA n ad sz) := X
  have hAd : ∀ i, i < n → zA n ad sz (ad i) := fun i hi => Or.inl ⟨i, hi, rfl⟩
  refine zw_run X (is := [(0, .aload_n 0, 1), (1, .iload_n 1, 1)]) (t' := (2, [some (.ref (ad 0)), some (.int (nI g)), some (.int w), none], [.int (nI g), .ref (ad 0)])) ⟨dX7_of_0, dX7_of_1, trivial⟩ rfl ?_
  exact zw_Vo X hno hAd rfl (As := [.int (nI g)]) (rest := []) (d := 0) (i := 0) (by omega) zc_0 (q := (RX7, TX7, 16)) rfl ⟨zm_135, zm_136, zm_137, zm_2, zm_138, rfl, by decide, by decide, (show (parseMethodDescriptor yX7_needGuild.desc).map (fun d => d.parameters.length) = some 1 by decide +kernel)⟩ (fun sz => c_needGuild_x hls hD hn σ gc hgc e0 g hg hg2 sz) rfl rfl (Nat.le_of_ble_eq_true rfl) ⟨Nat.le_of_ble_eq_true rfl, Nat.le_of_ble_eq_true rfl⟩ ⟨Nat.le_of_ble_eq_true rfl, Nat.le_of_ble_eq_true rfl⟩ dX7_of_2

set_option maxHeartbeats 4000000 in
set_option maxRecDepth 100000 in
theorem c_learn {l : Launch} (hls : l.stackTraces = false) {D : va_G} {cy : Nat → ClassId} {wa : Nat → Nat} {N n : Nat} {ad : Nat → Nat} (hD : zD n ad) (hn : 40 ≤ n) (σ : zS) (gc : Nat) (hgc : gc ≤ 8) (e0 : σ 0 11 = nI gc) (g : Nat) (hg : g < gc) (x : Int32) (h1 : ¬ x < 1) (h2 : x ≤ 30) (ho : σ (8 + g) 2 = 0) (sz : Nat) : Met l yX7_learn (.code yX7_learn cX7_learn 4 (some .int) :: zB) (zRm 2) (zPc [.ref (ad 0), .int (nI g), .int x] D cy wa N n ad σ sz) (zQi (if σ (16 + g) 3 + 5 * x < 100 then σ (16 + g) 3 + 5 * x else 100) D cy N n ad (zu σ (16 + g) 3 (if σ (16 + g) 3 + 5 * x < 100 then σ (16 + g) 3 + 5 * x else 100)) sz) 0 0 (zA n ad sz) := by
  refine z_met (by decide) hls (List.forall_mem_cons.mpr ⟨rfl, (List.forall_mem_cons.mpr ⟨rfl, (List.forall_mem_cons.mpr ⟨rfl, (fun _ h => nomatch h)⟩)⟩)⟩) (Nat.le_of_ble_eq_true rfl) (fun p_ e_ s_ m_ below_ meth_ c_ hsz hr X => ?_)
  have X : zX p_ l s_ m_ [.ref (ad 0), .int (nI g), .int x].toArray meth_ c_ cX7_learn 4 RX7 D cy wa (zA n ad sz) := X
  have hAd : ∀ i, i < n → zA n ad sz (ad i) := fun i hi => Or.inl ⟨i, hi, rfl⟩
  have hg8 : g < 8 := by omega
  refine zw_run X (is := [(0, .aload_n 0, 1), (1, .iload_n 1, 1)]) (t' := (2, [some (.ref (ad 0)), some (.int (nI g)), some (.int x), none], [.int (nI g), .ref (ad 0)])) ⟨dX7_learn_0, dX7_learn_1, trivial⟩ rfl ?_
  refine zw_Vv X hAd (As := [.int (nI g)]) (rest := []) (d := 0) (i := 0) (by omega) zc_0 (q := (RX7, TX7, 16)) rfl ⟨zm_135, zm_136, zm_137, zm_2, zm_138, rfl, by decide, by decide, (show (parseMethodDescriptor yX7_needGuild.desc).map (fun d => d.parameters.length) = some 1 by decide +kernel)⟩ (fun sz => c_needGuild hls hD hn σ gc hgc e0 g hg sz) rfl rfl (Nat.le_of_ble_eq_true rfl) ⟨Nat.le_of_ble_eq_true rfl, Nat.le_of_ble_eq_true rfl⟩ ⟨Nat.zero_le _, Nat.zero_le _⟩ dX7_learn_2 ?_
  refine zw_run X (is := [(5, .iload_n 2, 1), (6, .iconst 1, 1), (7, .bipush 30, 2)]) (t' := (9, [some (.ref (ad 0)), some (.int (nI g)), some (.int x), none], [.int 30, .int 1, .int x])) ⟨dX7_learn_5, dX7_learn_6, dX7_learn_7, trivial⟩ rfl ?_
  refine zw_Sv X hAd (As := [.int x, .int 1, .int 30]) (rest := []) (d := 0) ⟨zm_114, zm_115, zm_2, zm_116, by decide, by decide, (show (parseMethodDescriptor yX7_needRange.desc).map (fun d => d.parameters.length) = some 3 by decide +kernel)⟩ (fun sz => c_needRange hls hD hn σ x 1 30 h1 h2 sz) rfl rfl (Nat.le_of_ble_eq_true rfl) ⟨Nat.le_of_ble_eq_true rfl, Nat.le_of_ble_eq_true rfl⟩ ⟨Nat.zero_le _, Nat.zero_le _⟩ dX7_learn_9 ?_
  refine zw_run X (is := [(12, .aload_n 0, 1), (13, .iload_n 1, 1)]) (t' := (14, [some (.ref (ad 0)), some (.int (nI g)), some (.int x), none], [.int (nI g), .ref (ad 0)])) ⟨dX7_learn_12, dX7_learn_13, trivial⟩ rfl ?_
  refine zw_Vv X hAd (As := [.int (nI g)]) (rest := []) (d := 0) (i := 0) (by omega) zc_0 (q := (RX7, TX7, 16)) rfl ⟨zm_240, zm_241, zm_242, zm_2, zm_243, rfl, by decide, by decide, (show (parseMethodDescriptor yX7_needNotOver.desc).map (fun d => d.parameters.length) = some 1 by decide +kernel)⟩ (fun sz => c_needNotOver hls hD hn σ g hg8 ho sz) rfl rfl (Nat.le_of_ble_eq_true rfl) ⟨Nat.le_of_ble_eq_true rfl, Nat.le_of_ble_eq_true rfl⟩ ⟨Nat.zero_le _, Nat.zero_le _⟩ dX7_learn_14 ?_
  refine zw_run X (is := [(17, .aload_n 0, 1)]) (t' := (18, [some (.ref (ad 0)), some (.int (nI g)), some (.int x), none], [.ref (ad 0)])) ⟨dX7_learn_17, trivial⟩ rfl ?_
  refine zw_getf X (i := 0) (by omega) zc_0 (C := RX7) (T := TX7) (Nf := 16) rfl zi_X7 0 (by decide) rfl zm_18 rfl dX7_learn_18 ?_
  refine zw_run X (is := [(21, .iload_n 1, 1)]) (t' := (22, [some (.ref (ad 0)), some (.int (nI g)), some (.int x), none], [.int (nI g), .ref (ad 1)])) ⟨dX7_learn_21, trivial⟩ rfl ?_
  refine zw_guild X (by omega) (g := g) rfl hg8 dX7_learn_22 ?_
  refine zw_getf X (i := 8 + g) (by omega) (zc_G hg8) (C := RX1) (T := TX1) (Nf := 7) rfl zi_X1 6 (by decide) rfl zm_112 rfl dX7_learn_23 ?_
  refine zw_run X (is := [(26, .astore_n 3, 1), (27, .aload_n 3, 1), (28, .bipush 100, 2), (30, .aload_n 3, 1)]) (t' := (31, [some (.ref (ad 0)), some (.int (nI g)), some (.int x), some (.ref (ad (16 + g)))], [.ref (ad (16 + g)), .int 100, .ref (ad (16 + g))])) ⟨dX7_learn_26, dX7_learn_27, dX7_learn_28, dX7_learn_30, trivial⟩ rfl ?_
  refine zw_getf X (i := 16 + g) (by omega) (zc_P hg8) (C := RX4) (T := TX4) (Nf := 7) rfl zi_X4 3 (by decide) rfl zm_235 rfl dX7_learn_31 ?_
  refine zw_run X (is := [(34, .iconst 5, 1), (35, .iload_n 2, 1), (36, .imul, 1), (37, .iadd, 1)]) (t' := (38, [some (.ref (ad 0)), some (.int (nI g)), some (.int x), some (.ref (ad (16 + g)))], [.int ((σ (16 + g) 3) + (5 * x)), .int 100, .ref (ad (16 + g))])) ⟨dX7_learn_34, dX7_learn_35, dX7_learn_36, dX7_learn_37, trivial⟩ rfl ?_
  refine zw_min X zm_236 zm_237 zm_238 zm_239 rfl ⟨Nat.le_of_ble_eq_true rfl, Nat.le_of_ble_eq_true rfl⟩ ⟨Nat.zero_le _, Nat.zero_le _⟩ (v := if σ (16 + g) 3 + 5 * x < 100 then σ (16 + g) 3 + 5 * x else 100) rfl dX7_learn_38 ?_
  refine zw_put X hD hAd (i := 16 + g) (by omega) (zc_P hg8) (C := RX4) (T := TX4) (Nf := 7) rfl zi_X4 tyX4 tyX4_ok nmX4 3 (by decide) rfl rfl zm_235 (ty := .int) (by decide +kernel) rfl rfl (Nat.le_of_ble_eq_true rfl) (zc_P hg8) dX7_learn_41 ?_
  refine zw_run X (is := [(44, .aload_n 3, 1)]) (t' := (45, [some (.ref (ad 0)), some (.int (nI g)), some (.int x), some (.ref (ad (16 + g)))], [.ref (ad (16 + g))])) ⟨dX7_learn_44, trivial⟩ rfl ?_
  refine zw_getf X (i := 16 + g) (by omega) (zc_P hg8) (C := RX4) (T := TX4) (Nf := 7) rfl zi_X4 3 (by decide) rfl zm_235 rfl dX7_learn_45 ?_
  exact zw_iret X hr dX7_learn_48 rfl zu_s rfl

set_option maxHeartbeats 4000000 in
set_option maxRecDepth 100000 in
theorem c_learn_over {l : Launch} (hls : l.stackTraces = false) {D : va_G} {cy : Nat → ClassId} {wa : Nat → Nat} {N n : Nat} {ad : Nat → Nat} (hD : zD n ad) (hn : 40 ≤ n) (σ : zS) (gc : Nat) (hgc : gc ≤ 8) (e0 : σ 0 11 = nI gc) (g : Nat) (hg : g < gc) (x : Int32) (h1 : ¬ x < 1) (h2 : x ≤ 30) (ho : ¬ σ (8 + g) 2 = 0) (sz : Nat) : vx_Met l yX7_learn (.code yX7_learn cX7_learn 4 (some .int) :: zB) (zRx 2) (zPc [.ref (ad 0), .int (nI g), .int x] D cy wa N n ad σ sz) zNo (zXC "java/lang/UnsupportedOperationException" D cy N n ad (σ) sz) 1 6 (zA n ad sz) := by
  refine z_metx (by decide) hls (List.forall_mem_cons.mpr ⟨rfl, (List.forall_mem_cons.mpr ⟨rfl, (List.forall_mem_cons.mpr ⟨rfl, (fun _ h => nomatch h)⟩)⟩)⟩) (Nat.le_of_ble_eq_true rfl) (fun p_ e_ s_ m_ below_ meth_ c_ hsz hr hno X => ?_)
  have X : zX p_ l s_ m_ [.ref (ad 0), .int (nI g), .int x].toArray meth_ c_ cX7_learn 4 RX7 D cy wa (zA n ad sz) := X
  have hAd : ∀ i, i < n → zA n ad sz (ad i) := fun i hi => Or.inl ⟨i, hi, rfl⟩
  have hg8 : g < 8 := by omega
  refine zw_run X (is := [(0, .aload_n 0, 1), (1, .iload_n 1, 1)]) (t' := (2, [some (.ref (ad 0)), some (.int (nI g)), some (.int x), none], [.int (nI g), .ref (ad 0)])) ⟨dX7_learn_0, dX7_learn_1, trivial⟩ rfl ?_
  refine zw_Vv X hAd (As := [.int (nI g)]) (rest := []) (d := 0) (i := 0) (by omega) zc_0 (q := (RX7, TX7, 16)) rfl ⟨zm_135, zm_136, zm_137, zm_2, zm_138, rfl, by decide, by decide, (show (parseMethodDescriptor yX7_needGuild.desc).map (fun d => d.parameters.length) = some 1 by decide +kernel)⟩ (fun sz => c_needGuild hls hD hn σ gc hgc e0 g hg sz) rfl rfl (Nat.le_of_ble_eq_true rfl) ⟨Nat.le_of_ble_eq_true rfl, Nat.le_of_ble_eq_true rfl⟩ ⟨Nat.zero_le _, Nat.zero_le _⟩ dX7_learn_2 ?_
  refine zw_run X (is := [(5, .iload_n 2, 1), (6, .iconst 1, 1), (7, .bipush 30, 2)]) (t' := (9, [some (.ref (ad 0)), some (.int (nI g)), some (.int x), none], [.int 30, .int 1, .int x])) ⟨dX7_learn_5, dX7_learn_6, dX7_learn_7, trivial⟩ rfl ?_
  refine zw_Sv X hAd (As := [.int x, .int 1, .int 30]) (rest := []) (d := 0) ⟨zm_114, zm_115, zm_2, zm_116, by decide, by decide, (show (parseMethodDescriptor yX7_needRange.desc).map (fun d => d.parameters.length) = some 3 by decide +kernel)⟩ (fun sz => c_needRange hls hD hn σ x 1 30 h1 h2 sz) rfl rfl (Nat.le_of_ble_eq_true rfl) ⟨Nat.le_of_ble_eq_true rfl, Nat.le_of_ble_eq_true rfl⟩ ⟨Nat.zero_le _, Nat.zero_le _⟩ dX7_learn_9 ?_
  refine zw_run X (is := [(12, .aload_n 0, 1), (13, .iload_n 1, 1)]) (t' := (14, [some (.ref (ad 0)), some (.int (nI g)), some (.int x), none], [.int (nI g), .ref (ad 0)])) ⟨dX7_learn_12, dX7_learn_13, trivial⟩ rfl ?_
  exact zw_Vo X hno hAd rfl (As := [.int (nI g)]) (rest := []) (d := 0) (i := 0) (by omega) zc_0 (q := (RX7, TX7, 16)) rfl ⟨zm_240, zm_241, zm_242, zm_2, zm_243, rfl, by decide, by decide, (show (parseMethodDescriptor yX7_needNotOver.desc).map (fun d => d.parameters.length) = some 1 by decide +kernel)⟩ (fun sz => c_needNotOver_x hls hD hn σ g hg8 ho sz) rfl rfl (Nat.le_of_ble_eq_true rfl) ⟨Nat.le_of_ble_eq_true rfl, Nat.le_of_ble_eq_true rfl⟩ ⟨Nat.le_of_ble_eq_true rfl, Nat.le_of_ble_eq_true rfl⟩ dX7_learn_14

set_option maxHeartbeats 4000000 in
set_option maxRecDepth 100000 in
theorem c_learn_bad {l : Launch} (hls : l.stackTraces = false) {D : va_G} {cy : Nat → ClassId} {wa : Nat → Nat} {N n : Nat} {ad : Nat → Nat} (hD : zD n ad) (hn : 40 ≤ n) (σ : zS) (gc : Nat) (hgc : gc ≤ 8) (e0 : σ 0 11 = nI gc) (g : Nat) (hg : g < gc)  (sz : Nat) : vx_Met l yX7_learn (.code yX7_learn cX7_learn 4 (some .int) :: zB) (zRx 2) (zPc [.ref (ad 0), .int (nI g), .int 31] D cy wa N n ad σ sz) zNo (zXC "java/lang/IllegalArgumentException" D cy N n ad (σ) sz) 1 6 (zA n ad sz) := by
  refine z_metx (by decide) hls (List.forall_mem_cons.mpr ⟨rfl, (List.forall_mem_cons.mpr ⟨rfl, (List.forall_mem_cons.mpr ⟨rfl, (fun _ h => nomatch h)⟩)⟩)⟩) (Nat.le_of_ble_eq_true rfl) (fun p_ e_ s_ m_ below_ meth_ c_ hsz hr hno X => ?_)
  have X : zX p_ l s_ m_ [.ref (ad 0), .int (nI g), .int 31].toArray meth_ c_ cX7_learn 4 RX7 D cy wa (zA n ad sz) := X
  have hAd : ∀ i, i < n → zA n ad sz (ad i) := fun i hi => Or.inl ⟨i, hi, rfl⟩
  have hg8 : g < 8 := by omega
  refine zw_run X (is := [(0, .aload_n 0, 1), (1, .iload_n 1, 1)]) (t' := (2, [some (.ref (ad 0)), some (.int (nI g)), some (.int 31), none], [.int (nI g), .ref (ad 0)])) ⟨dX7_learn_0, dX7_learn_1, trivial⟩ rfl ?_
  refine zw_Vv X hAd (As := [.int (nI g)]) (rest := []) (d := 0) (i := 0) (by omega) zc_0 (q := (RX7, TX7, 16)) rfl ⟨zm_135, zm_136, zm_137, zm_2, zm_138, rfl, by decide, by decide, (show (parseMethodDescriptor yX7_needGuild.desc).map (fun d => d.parameters.length) = some 1 by decide +kernel)⟩ (fun sz => c_needGuild hls hD hn σ gc hgc e0 g hg sz) rfl rfl (Nat.le_of_ble_eq_true rfl) ⟨Nat.le_of_ble_eq_true rfl, Nat.le_of_ble_eq_true rfl⟩ ⟨Nat.zero_le _, Nat.zero_le _⟩ dX7_learn_2 ?_
  refine zw_run X (is := [(5, .iload_n 2, 1), (6, .iconst 1, 1), (7, .bipush 30, 2)]) (t' := (9, [some (.ref (ad 0)), some (.int (nI g)), some (.int 31), none], [.int 30, .int 1, .int 31])) ⟨dX7_learn_5, dX7_learn_6, dX7_learn_7, trivial⟩ rfl ?_
  exact zw_So X hno hAd rfl (As := [.int 31, .int 1, .int 30]) (rest := []) (d := 0) ⟨zm_114, zm_115, zm_2, zm_116, by decide, by decide, (show (parseMethodDescriptor yX7_needRange.desc).map (fun d => d.parameters.length) = some 3 by decide +kernel)⟩ (fun sz => c_needRange_hi hls hD hn σ 31 1 30 (by decide) (by decide) sz) rfl rfl (Nat.le_of_ble_eq_true rfl) ⟨Nat.le_of_ble_eq_true rfl, Nat.le_of_ble_eq_true rfl⟩ ⟨Nat.le_of_ble_eq_true rfl, Nat.le_of_ble_eq_true rfl⟩ dX7_learn_9

set_option maxHeartbeats 4000000 in
set_option maxRecDepth 100000 in
theorem c_cast {l : Launch} (hls : l.stackTraces = false) {D : va_G} {cy : Nat → ClassId} {wa : Nat → Nat} {N n : Nat} {ad : Nat → Nat} (hD : zD n ad) (hn : 40 ≤ n) (σ : zS) (gc : Nat) (hgc : gc ≤ 8) (e0 : σ 0 11 = nI gc) (g : Nat) (hg : g < gc) (k : Nat) (hk : k < 8) (x : Int32) (hk2 : nI k < σ (16 + g) 1) (h1 : ¬ x < -1) (h2 : x ≤ 19) (sz : Nat) : Met l yX7_cast (.code yX7_cast cX7_cast 6 (some .int) :: zB) (zRm 2) (zPc [.ref (ad 0), .int (nI g), .int (nI k), .int x] D cy wa N n ad σ sz) (zQi (σ (24 + g) k) D cy N n ad (zu σ (24 + g) k x) sz) 0 0 (zA n ad sz) := by
  refine z_met (by decide) hls (List.forall_mem_cons.mpr ⟨rfl, (List.forall_mem_cons.mpr ⟨rfl, (List.forall_mem_cons.mpr ⟨rfl, (List.forall_mem_cons.mpr ⟨rfl, (fun _ h => nomatch h)⟩)⟩)⟩)⟩) (Nat.le_of_ble_eq_true rfl) (fun p_ e_ s_ m_ below_ meth_ c_ hsz hr X => ?_)
  have X : zX p_ l s_ m_ [.ref (ad 0), .int (nI g), .int (nI k), .int x].toArray meth_ c_ cX7_cast 6 RX7 D cy wa (zA n ad sz) := X
  have hAd : ∀ i, i < n → zA n ad sz (ad i) := fun i hi => Or.inl ⟨i, hi, rfl⟩
  have hg8 : g < 8 := by omega
  refine zw_run X (is := [(0, .aload_n 0, 1), (1, .iload_n 1, 1)]) (t' := (2, [some (.ref (ad 0)), some (.int (nI g)), some (.int (nI k)), some (.int x), none, none], [.int (nI g), .ref (ad 0)])) ⟨dX7_cast_0, dX7_cast_1, trivial⟩ rfl ?_
  refine zw_Vv X hAd (As := [.int (nI g)]) (rest := []) (d := 0) (i := 0) (by omega) zc_0 (q := (RX7, TX7, 16)) rfl ⟨zm_135, zm_136, zm_137, zm_2, zm_138, rfl, by decide, by decide, (show (parseMethodDescriptor yX7_needGuild.desc).map (fun d => d.parameters.length) = some 1 by decide +kernel)⟩ (fun sz => c_needGuild hls hD hn σ gc hgc e0 g hg sz) rfl rfl (Nat.le_of_ble_eq_true rfl) ⟨Nat.le_of_ble_eq_true rfl, Nat.le_of_ble_eq_true rfl⟩ ⟨Nat.zero_le _, Nat.zero_le _⟩ dX7_cast_2 ?_
  refine zw_run X (is := [(5, .aload_n 0, 1)]) (t' := (6, [some (.ref (ad 0)), some (.int (nI g)), some (.int (nI k)), some (.int x), none, none], [.ref (ad 0)])) ⟨dX7_cast_5, trivial⟩ rfl ?_
  refine zw_getf X (i := 0) (by omega) zc_0 (C := RX7) (T := TX7) (Nf := 16) rfl zi_X7 0 (by decide) rfl zm_18 rfl dX7_cast_6 ?_
  refine zw_run X (is := [(9, .iload_n 1, 1)]) (t' := (10, [some (.ref (ad 0)), some (.int (nI g)), some (.int (nI k)), some (.int x), none, none], [.int (nI g), .ref (ad 1)])) ⟨dX7_cast_9, trivial⟩ rfl ?_
  refine zw_guild X (by omega) (g := g) rfl hg8 dX7_cast_10 ?_
  refine zw_getf X (i := 8 + g) (by omega) (zc_G hg8) (C := RX1) (T := TX1) (Nf := 7) rfl zi_X1 6 (by decide) rfl zm_112 rfl dX7_cast_11 ?_
  refine zw_run X (is := [(14, .astore 4, 2), (16, .iload_n 2, 1)]) (t' := (17, [some (.ref (ad 0)), some (.int (nI g)), some (.int (nI k)), some (.int x), some (.ref (ad (16 + g))), none], [.int (nI k)])) ⟨dX7_cast_14, dX7_cast_16, trivial⟩ rfl ?_
  refine zw_if_lt X (tgt := 29) dX7_cast_17 (by decide) (fun h_ => absurd h_ (nI_pos (by omega))) (fun _ => ?_)
  refine zw_run X (is := [(20, .iload_n 2, 1), (21, .aload 4, 2)]) (t' := (23, [some (.ref (ad 0)), some (.int (nI g)), some (.int (nI k)), some (.int x), some (.ref (ad (16 + g))), none], [.ref (ad (16 + g)), .int (nI k)])) ⟨dX7_cast_20, dX7_cast_21, trivial⟩ rfl ?_
  refine zw_getf X (i := 16 + g) (by omega) (zc_P hg8) (C := RX4) (T := TX4) (Nf := 7) rfl zi_X4 1 (by decide) rfl zm_251 rfl dX7_cast_23 ?_
  refine zw_icmp_lt X (tgt := 39) dX7_cast_26 (by decide) (fun _ => ?_) (fun h_ => absurd hk2 h_)
  refine zw_run X (is := [(39, .iload_n 3, 1), (40, .iconst (-1), 1), (41, .bipush 19, 2)]) (t' := (43, [some (.ref (ad 0)), some (.int (nI g)), some (.int (nI k)), some (.int x), some (.ref (ad (16 + g))), none], [.int 19, .int ((-1)), .int x])) ⟨dX7_cast_39, dX7_cast_40, dX7_cast_41, trivial⟩ rfl ?_
  refine zw_Sv X hAd (As := [.int x, .int ((-1)), .int 19]) (rest := []) (d := 0) ⟨zm_114, zm_115, zm_2, zm_116, by decide, by decide, (show (parseMethodDescriptor yX7_needRange.desc).map (fun d => d.parameters.length) = some 3 by decide +kernel)⟩ (fun sz => c_needRange hls hD hn σ x (-1) 19 h1 h2 sz) rfl rfl (Nat.le_of_ble_eq_true rfl) ⟨Nat.le_of_ble_eq_true rfl, Nat.le_of_ble_eq_true rfl⟩ ⟨Nat.zero_le _, Nat.zero_le _⟩ dX7_cast_43 ?_
  refine zw_run X (is := [(46, .aload 4, 2)]) (t' := (48, [some (.ref (ad 0)), some (.int (nI g)), some (.int (nI k)), some (.int x), some (.ref (ad (16 + g))), none], [.ref (ad (16 + g))])) ⟨dX7_cast_46, trivial⟩ rfl ?_
  refine zw_getf X (i := 16 + g) (by omega) (zc_P hg8) (C := RX4) (T := TX4) (Nf := 7) rfl zi_X4 5 (by decide) rfl zm_252 rfl dX7_cast_48 ?_
  refine zw_run X (is := [(51, .iload_n 2, 1)]) (t' := (52, [some (.ref (ad 0)), some (.int (nI g)), some (.int (nI k)), some (.int x), some (.ref (ad (16 + g))), none], [.int (nI k), .ref (ad (24 + g))])) ⟨dX7_cast_51, trivial⟩ rfl ?_
  refine zw_iald X (i := 24 + g) (by omega) (len := 8) (zc_R hg8) (j := k) rfl hk (by decide) dX7_cast_52 ?_
  refine zw_run X (is := [(53, .istore 5, 2), (55, .aload 4, 2)]) (t' := (57, [some (.ref (ad 0)), some (.int (nI g)), some (.int (nI k)), some (.int x), some (.ref (ad (16 + g))), some (.int (σ (24 + g) k))], [.ref (ad (16 + g))])) ⟨dX7_cast_53, dX7_cast_55, trivial⟩ rfl ?_
  refine zw_getf X (i := 16 + g) (by omega) (zc_P hg8) (C := RX4) (T := TX4) (Nf := 7) rfl zi_X4 5 (by decide) rfl zm_252 rfl dX7_cast_57 ?_
  refine zw_run X (is := [(60, .iload_n 2, 1), (61, .iload_n 3, 1)]) (t' := (62, [some (.ref (ad 0)), some (.int (nI g)), some (.int (nI k)), some (.int x), some (.ref (ad (16 + g))), some (.int (σ (24 + g) k))], [.int x, .int (nI k), .ref (ad (24 + g))])) ⟨dX7_cast_60, dX7_cast_61, trivial⟩ rfl ?_
  refine zw_iast X hD hAd (i := 24 + g) (by omega) (len := 8) (fun _ => (zc_R hg8)) (j := k) rfl hk (by decide) dX7_cast_62 ?_
  refine zw_run X (is := [(63, .iload 5, 2)]) (t' := (65, [some (.ref (ad 0)), some (.int (nI g)), some (.int (nI k)), some (.int x), some (.ref (ad (16 + g))), some (.int (σ (24 + g) k))], [.int (σ (24 + g) k)])) ⟨dX7_cast_63, trivial⟩ rfl ?_
  exact zw_iret X hr dX7_cast_65 rfl rfl rfl

set_option maxHeartbeats 4000000 in
set_option maxRecDepth 100000 in
theorem c_cast_part {l : Launch} (hls : l.stackTraces = false) {D : va_G} {cy : Nat → ClassId} {wa : Nat → Nat} {N n : Nat} {ad : Nat → Nat} (hD : zD n ad) (hn : 40 ≤ n) (σ : zS) (gc : Nat) (hgc : gc ≤ 8) (e0 : σ 0 11 = nI gc) (g : Nat) (hg : g < gc) (k x : Int32) (h1 : ¬ k < 0) (h2 : ¬ k < σ (16 + g) 1) (sz : Nat) : vx_Met l yX7_cast (.code yX7_cast cX7_cast 6 (some .int) :: zB) (zRx 2) (zPc [.ref (ad 0), .int (nI g), .int k, .int x] D cy wa N n ad σ sz) zNo (zXC "java/lang/IndexOutOfBoundsException" D cy N n ad (σ) sz) 1 6 (zA n ad sz) := by
  refine z_metx (by decide) hls (List.forall_mem_cons.mpr ⟨rfl, (List.forall_mem_cons.mpr ⟨rfl, (List.forall_mem_cons.mpr ⟨rfl, (List.forall_mem_cons.mpr ⟨rfl, (fun _ h => nomatch h)⟩)⟩)⟩)⟩) (Nat.le_of_ble_eq_true rfl) (fun p_ e_ s_ m_ below_ meth_ c_ hsz hr hno X => ?_)
  have X : zX p_ l s_ m_ [.ref (ad 0), .int (nI g), .int k, .int x].toArray meth_ c_ cX7_cast 6 RX7 D cy wa (zA n ad sz) := X
  have hAd : ∀ i, i < n → zA n ad sz (ad i) := fun i hi => Or.inl ⟨i, hi, rfl⟩
  have hg8 : g < 8 := by omega
  refine zw_run X (is := [(0, .aload_n 0, 1), (1, .iload_n 1, 1)]) (t' := (2, [some (.ref (ad 0)), some (.int (nI g)), some (.int k), some (.int x), none, none], [.int (nI g), .ref (ad 0)])) ⟨dX7_cast_0, dX7_cast_1, trivial⟩ rfl ?_
  refine zw_Vv X hAd (As := [.int (nI g)]) (rest := []) (d := 0) (i := 0) (by omega) zc_0 (q := (RX7, TX7, 16)) rfl ⟨zm_135, zm_136, zm_137, zm_2, zm_138, rfl, by decide, by decide, (show (parseMethodDescriptor yX7_needGuild.desc).map (fun d => d.parameters.length) = some 1 by decide +kernel)⟩ (fun sz => c_needGuild hls hD hn σ gc hgc e0 g hg sz) rfl rfl (Nat.le_of_ble_eq_true rfl) ⟨Nat.le_of_ble_eq_true rfl, Nat.le_of_ble_eq_true rfl⟩ ⟨Nat.zero_le _, Nat.zero_le _⟩ dX7_cast_2 ?_
  refine zw_run X (is := [(5, .aload_n 0, 1)]) (t' := (6, [some (.ref (ad 0)), some (.int (nI g)), some (.int k), some (.int x), none, none], [.ref (ad 0)])) ⟨dX7_cast_5, trivial⟩ rfl ?_
  refine zw_getf X (i := 0) (by omega) zc_0 (C := RX7) (T := TX7) (Nf := 16) rfl zi_X7 0 (by decide) rfl zm_18 rfl dX7_cast_6 ?_
  refine zw_run X (is := [(9, .iload_n 1, 1)]) (t' := (10, [some (.ref (ad 0)), some (.int (nI g)), some (.int k), some (.int x), none, none], [.int (nI g), .ref (ad 1)])) ⟨dX7_cast_9, trivial⟩ rfl ?_
  refine zw_guild X (by omega) (g := g) rfl hg8 dX7_cast_10 ?_
  refine zw_getf X (i := 8 + g) (by omega) (zc_G hg8) (C := RX1) (T := TX1) (Nf := 7) rfl zi_X1 6 (by decide) rfl zm_112 rfl dX7_cast_11 ?_
  refine zw_run X (is := [(14, .astore 4, 2), (16, .iload_n 2, 1)]) (t' := (17, [some (.ref (ad 0)), some (.int (nI g)), some (.int k), some (.int x), some (.ref (ad (16 + g))), none], [.int k])) ⟨dX7_cast_14, dX7_cast_16, trivial⟩ rfl ?_
  refine zw_if_lt X (tgt := 29) dX7_cast_17 (by decide) (fun h_ => absurd h_ h1) (fun _ => ?_)
  refine zw_run X (is := [(20, .iload_n 2, 1), (21, .aload 4, 2)]) (t' := (23, [some (.ref (ad 0)), some (.int (nI g)), some (.int k), some (.int x), some (.ref (ad (16 + g))), none], [.ref (ad (16 + g)), .int k])) ⟨dX7_cast_20, dX7_cast_21, trivial⟩ rfl ?_
  refine zw_getf X (i := 16 + g) (by omega) (zc_P hg8) (C := RX4) (T := TX4) (Nf := 7) rfl zi_X4 1 (by decide) rfl zm_251 rfl dX7_cast_23 ?_
  refine zw_icmp_lt X (tgt := 39) dX7_cast_26 (by decide) (fun h_ => absurd h_ h2) (fun _ => ?_)
  exact zw_throw X hno zTh_ioobe (is := 160) (text := "no such part") (by decide +kernel) rfl rfl dX7_cast_29 dX7_cast_32 dX7_cast_33 dX7_cast_35 dX7_cast_38 ⟨Nat.le_of_ble_eq_true rfl, Nat.le_of_ble_eq_true rfl, Nat.le_of_ble_eq_true rfl, Nat.le_of_ble_eq_true rfl⟩ ⟨rfl, rfl⟩

set_option maxHeartbeats 4000000 in
set_option maxRecDepth 100000 in
theorem c_cast_bad {l : Launch} (hls : l.stackTraces = false) {D : va_G} {cy : Nat → ClassId} {wa : Nat → Nat} {N n : Nat} {ad : Nat → Nat} (hD : zD n ad) (hn : 40 ≤ n) (σ : zS) (gc : Nat) (hgc : gc ≤ 8) (e0 : σ 0 11 = nI gc) (g : Nat) (hg : g < gc) (k : Int32) (h1 : ¬ k < 0) (hk2 : k < σ (16 + g) 1) (sz : Nat) : vx_Met l yX7_cast (.code yX7_cast cX7_cast 6 (some .int) :: zB) (zRx 2) (zPc [.ref (ad 0), .int (nI g), .int k, .int 20] D cy wa N n ad σ sz) zNo (zXC "java/lang/IllegalArgumentException" D cy N n ad (σ) sz) 1 6 (zA n ad sz) := by
  refine z_metx (by decide) hls (List.forall_mem_cons.mpr ⟨rfl, (List.forall_mem_cons.mpr ⟨rfl, (List.forall_mem_cons.mpr ⟨rfl, (List.forall_mem_cons.mpr ⟨rfl, (fun _ h => nomatch h)⟩)⟩)⟩)⟩) (Nat.le_of_ble_eq_true rfl) (fun p_ e_ s_ m_ below_ meth_ c_ hsz hr hno X => ?_)
  have X : zX p_ l s_ m_ [.ref (ad 0), .int (nI g), .int k, .int 20].toArray meth_ c_ cX7_cast 6 RX7 D cy wa (zA n ad sz) := X
  have hAd : ∀ i, i < n → zA n ad sz (ad i) := fun i hi => Or.inl ⟨i, hi, rfl⟩
  have hg8 : g < 8 := by omega
  refine zw_run X (is := [(0, .aload_n 0, 1), (1, .iload_n 1, 1)]) (t' := (2, [some (.ref (ad 0)), some (.int (nI g)), some (.int k), some (.int 20), none, none], [.int (nI g), .ref (ad 0)])) ⟨dX7_cast_0, dX7_cast_1, trivial⟩ rfl ?_
  refine zw_Vv X hAd (As := [.int (nI g)]) (rest := []) (d := 0) (i := 0) (by omega) zc_0 (q := (RX7, TX7, 16)) rfl ⟨zm_135, zm_136, zm_137, zm_2, zm_138, rfl, by decide, by decide, (show (parseMethodDescriptor yX7_needGuild.desc).map (fun d => d.parameters.length) = some 1 by decide +kernel)⟩ (fun sz => c_needGuild hls hD hn σ gc hgc e0 g hg sz) rfl rfl (Nat.le_of_ble_eq_true rfl) ⟨Nat.le_of_ble_eq_true rfl, Nat.le_of_ble_eq_true rfl⟩ ⟨Nat.zero_le _, Nat.zero_le _⟩ dX7_cast_2 ?_
  refine zw_run X (is := [(5, .aload_n 0, 1)]) (t' := (6, [some (.ref (ad 0)), some (.int (nI g)), some (.int k), some (.int 20), none, none], [.ref (ad 0)])) ⟨dX7_cast_5, trivial⟩ rfl ?_
  refine zw_getf X (i := 0) (by omega) zc_0 (C := RX7) (T := TX7) (Nf := 16) rfl zi_X7 0 (by decide) rfl zm_18 rfl dX7_cast_6 ?_
  refine zw_run X (is := [(9, .iload_n 1, 1)]) (t' := (10, [some (.ref (ad 0)), some (.int (nI g)), some (.int k), some (.int 20), none, none], [.int (nI g), .ref (ad 1)])) ⟨dX7_cast_9, trivial⟩ rfl ?_
  refine zw_guild X (by omega) (g := g) rfl hg8 dX7_cast_10 ?_
  refine zw_getf X (i := 8 + g) (by omega) (zc_G hg8) (C := RX1) (T := TX1) (Nf := 7) rfl zi_X1 6 (by decide) rfl zm_112 rfl dX7_cast_11 ?_
  refine zw_run X (is := [(14, .astore 4, 2), (16, .iload_n 2, 1)]) (t' := (17, [some (.ref (ad 0)), some (.int (nI g)), some (.int k), some (.int 20), some (.ref (ad (16 + g))), none], [.int k])) ⟨dX7_cast_14, dX7_cast_16, trivial⟩ rfl ?_
  refine zw_if_lt X (tgt := 29) dX7_cast_17 (by decide) (fun h_ => absurd h_ h1) (fun _ => ?_)
  refine zw_run X (is := [(20, .iload_n 2, 1), (21, .aload 4, 2)]) (t' := (23, [some (.ref (ad 0)), some (.int (nI g)), some (.int k), some (.int 20), some (.ref (ad (16 + g))), none], [.ref (ad (16 + g)), .int k])) ⟨dX7_cast_20, dX7_cast_21, trivial⟩ rfl ?_
  refine zw_getf X (i := 16 + g) (by omega) (zc_P hg8) (C := RX4) (T := TX4) (Nf := 7) rfl zi_X4 1 (by decide) rfl zm_251 rfl dX7_cast_23 ?_
  refine zw_icmp_lt X (tgt := 39) dX7_cast_26 (by decide) (fun _ => ?_) (fun h_ => absurd hk2 h_)
  refine zw_run X (is := [(39, .iload_n 3, 1), (40, .iconst (-1), 1), (41, .bipush 19, 2)]) (t' := (43, [some (.ref (ad 0)), some (.int (nI g)), some (.int k), some (.int 20), some (.ref (ad (16 + g))), none], [.int 19, .int ((-1)), .int 20])) ⟨dX7_cast_39, dX7_cast_40, dX7_cast_41, trivial⟩ rfl ?_
  exact zw_So X hno hAd rfl (As := [.int 20, .int ((-1)), .int 19]) (rest := []) (d := 0) ⟨zm_114, zm_115, zm_2, zm_116, by decide, by decide, (show (parseMethodDescriptor yX7_needRange.desc).map (fun d => d.parameters.length) = some 3 by decide +kernel)⟩ (fun sz => c_needRange_hi hls hD hn σ 20 (-1) 19 (by decide) (by decide) sz) rfl rfl (Nat.le_of_ble_eq_true rfl) ⟨Nat.le_of_ble_eq_true rfl, Nat.le_of_ble_eq_true rfl⟩ ⟨Nat.le_of_ble_eq_true rfl, Nat.le_of_ble_eq_true rfl⟩ dX7_cast_43

set_option maxHeartbeats 4000000 in
set_option maxRecDepth 100000 in
theorem c_wagon {l : Launch} (hls : l.stackTraces = false) {D : va_G} {cy : Nat → ClassId} {wa : Nat → Nat} {N n : Nat} {ad : Nat → Nat} (hD : zD n ad) (hn : 40 ≤ n) (σ : zS) (gc : Nat) (hgc : gc ≤ 8) (e0 : σ 0 11 = nI gc) (g : Nat) (hg : g < gc) (x y : Int32) (h1 : ¬ x < 1) (h2 : x ≤ 9) (h3 : ¬ y < 0) (h4 : y ≤ 9) (sz : Nat) : Met l yX7_wagon (.code yX7_wagon cX7_wagon 6 (some .int) :: zB) (zRm 2) (zPc [.ref (ad 0), .int (nI g), .int x, .int y] D cy wa N n ad σ sz) (zQi (σ (8 + g) 3) D cy N n ad (zu (zu σ (8 + g) 3 x) (8 + g) 4 y) sz) 0 0 (zA n ad sz) := by
  refine z_met (by decide) hls (List.forall_mem_cons.mpr ⟨rfl, (List.forall_mem_cons.mpr ⟨rfl, (List.forall_mem_cons.mpr ⟨rfl, (List.forall_mem_cons.mpr ⟨rfl, (fun _ h => nomatch h)⟩)⟩)⟩)⟩) (Nat.le_of_ble_eq_true rfl) (fun p_ e_ s_ m_ below_ meth_ c_ hsz hr X => ?_)
  have X : zX p_ l s_ m_ [.ref (ad 0), .int (nI g), .int x, .int y].toArray meth_ c_ cX7_wagon 6 RX7 D cy wa (zA n ad sz) := X
  have hAd : ∀ i, i < n → zA n ad sz (ad i) := fun i hi => Or.inl ⟨i, hi, rfl⟩
  have hg8 : g < 8 := by omega
  refine zw_run X (is := [(0, .aload_n 0, 1), (1, .iload_n 1, 1)]) (t' := (2, [some (.ref (ad 0)), some (.int (nI g)), some (.int x), some (.int y), none, none], [.int (nI g), .ref (ad 0)])) ⟨dX7_wagon_0, dX7_wagon_1, trivial⟩ rfl ?_
  refine zw_Vv X hAd (As := [.int (nI g)]) (rest := []) (d := 0) (i := 0) (by omega) zc_0 (q := (RX7, TX7, 16)) rfl ⟨zm_135, zm_136, zm_137, zm_2, zm_138, rfl, by decide, by decide, (show (parseMethodDescriptor yX7_needGuild.desc).map (fun d => d.parameters.length) = some 1 by decide +kernel)⟩ (fun sz => c_needGuild hls hD hn σ gc hgc e0 g hg sz) rfl rfl (Nat.le_of_ble_eq_true rfl) ⟨Nat.le_of_ble_eq_true rfl, Nat.le_of_ble_eq_true rfl⟩ ⟨Nat.zero_le _, Nat.zero_le _⟩ dX7_wagon_2 ?_
  refine zw_run X (is := [(5, .iload_n 2, 1), (6, .iconst 1, 1), (7, .bipush 9, 2)]) (t' := (9, [some (.ref (ad 0)), some (.int (nI g)), some (.int x), some (.int y), none, none], [.int 9, .int 1, .int x])) ⟨dX7_wagon_5, dX7_wagon_6, dX7_wagon_7, trivial⟩ rfl ?_
  refine zw_Sv X hAd (As := [.int x, .int 1, .int 9]) (rest := []) (d := 0) ⟨zm_114, zm_115, zm_2, zm_116, by decide, by decide, (show (parseMethodDescriptor yX7_needRange.desc).map (fun d => d.parameters.length) = some 3 by decide +kernel)⟩ (fun sz => c_needRange hls hD hn σ x 1 9 h1 h2 sz) rfl rfl (Nat.le_of_ble_eq_true rfl) ⟨Nat.le_of_ble_eq_true rfl, Nat.le_of_ble_eq_true rfl⟩ ⟨Nat.zero_le _, Nat.zero_le _⟩ dX7_wagon_9 ?_
  refine zw_run X (is := [(12, .iload_n 3, 1), (13, .iconst 0, 1), (14, .bipush 9, 2)]) (t' := (16, [some (.ref (ad 0)), some (.int (nI g)), some (.int x), some (.int y), none, none], [.int 9, .int 0, .int y])) ⟨dX7_wagon_12, dX7_wagon_13, dX7_wagon_14, trivial⟩ rfl ?_
  refine zw_Sv X hAd (As := [.int y, .int 0, .int 9]) (rest := []) (d := 0) ⟨zm_114, zm_115, zm_2, zm_116, by decide, by decide, (show (parseMethodDescriptor yX7_needRange.desc).map (fun d => d.parameters.length) = some 3 by decide +kernel)⟩ (fun sz => c_needRange hls hD hn σ y 0 9 h3 h4 sz) rfl rfl (Nat.le_of_ble_eq_true rfl) ⟨Nat.le_of_ble_eq_true rfl, Nat.le_of_ble_eq_true rfl⟩ ⟨Nat.zero_le _, Nat.zero_le _⟩ dX7_wagon_16 ?_
  refine zw_run X (is := [(19, .aload_n 0, 1)]) (t' := (20, [some (.ref (ad 0)), some (.int (nI g)), some (.int x), some (.int y), none, none], [.ref (ad 0)])) ⟨dX7_wagon_19, trivial⟩ rfl ?_
  refine zw_getf X (i := 0) (by omega) zc_0 (C := RX7) (T := TX7) (Nf := 16) rfl zi_X7 0 (by decide) rfl zm_18 rfl dX7_wagon_20 ?_
  refine zw_run X (is := [(23, .iload_n 1, 1)]) (t' := (24, [some (.ref (ad 0)), some (.int (nI g)), some (.int x), some (.int y), none, none], [.int (nI g), .ref (ad 1)])) ⟨dX7_wagon_23, trivial⟩ rfl ?_
  refine zw_guild X (by omega) (g := g) rfl hg8 dX7_wagon_24 ?_
  refine zw_run X (is := [(25, .astore 4, 2), (27, .aload 4, 2)]) (t' := (29, [some (.ref (ad 0)), some (.int (nI g)), some (.int x), some (.int y), some (.ref (ad (8 + g))), none], [.ref (ad (8 + g))])) ⟨dX7_wagon_25, dX7_wagon_27, trivial⟩ rfl ?_
  refine zw_getf X (i := 8 + g) (by omega) (zc_G hg8) (C := RX1) (T := TX1) (Nf := 7) rfl zi_X1 3 (by decide) rfl zm_381 rfl dX7_wagon_29 ?_
  refine zw_run X (is := [(32, .istore 5, 2), (34, .aload 4, 2), (36, .iload_n 2, 1)]) (t' := (37, [some (.ref (ad 0)), some (.int (nI g)), some (.int x), some (.int y), some (.ref (ad (8 + g))), some (.int (σ (8 + g) 3))], [.int x, .ref (ad (8 + g))])) ⟨dX7_wagon_32, dX7_wagon_34, dX7_wagon_36, trivial⟩ rfl ?_
  refine zw_put X hD hAd (i := 8 + g) (by omega) (zc_G hg8) (C := RX1) (T := TX1) (Nf := 7) rfl zi_X1 tyX1 tyX1_ok nmX1 3 (by decide) rfl rfl zm_381 (ty := .int) (by decide +kernel) rfl rfl (Nat.le_of_ble_eq_true rfl) (zc_G hg8) dX7_wagon_37 ?_
  refine zw_run X (is := [(40, .aload 4, 2), (42, .iload_n 3, 1)]) (t' := (43, [some (.ref (ad 0)), some (.int (nI g)), some (.int x), some (.int y), some (.ref (ad (8 + g))), some (.int (σ (8 + g) 3))], [.int y, .ref (ad (8 + g))])) ⟨dX7_wagon_40, dX7_wagon_42, trivial⟩ rfl ?_
  refine zw_put X hD hAd (i := 8 + g) (by omega) (zc_G hg8) (C := RX1) (T := TX1) (Nf := 7) rfl zi_X1 tyX1 tyX1_ok nmX1 4 (by decide) rfl rfl zm_382 (ty := .int) (by decide +kernel) rfl rfl (Nat.le_of_ble_eq_true rfl) (zc_G hg8) dX7_wagon_43 ?_
  refine zw_run X (is := [(46, .iload 5, 2)]) (t' := (48, [some (.ref (ad 0)), some (.int (nI g)), some (.int x), some (.int y), some (.ref (ad (8 + g))), some (.int (σ (8 + g) 3))], [.int (σ (8 + g) 3)])) ⟨dX7_wagon_46, trivial⟩ rfl ?_
  exact zw_iret X hr dX7_wagon_48 rfl rfl rfl

set_option maxHeartbeats 4000000 in
set_option maxRecDepth 100000 in
theorem c_wagon_bad {l : Launch} (hls : l.stackTraces = false) {D : va_G} {cy : Nat → ClassId} {wa : Nat → Nat} {N n : Nat} {ad : Nat → Nat} (hD : zD n ad) (hn : 40 ≤ n) (σ : zS) (gc : Nat) (hgc : gc ≤ 8) (e0 : σ 0 11 = nI gc) (g : Nat) (hg : g < gc) (y : Int32) (sz : Nat) : vx_Met l yX7_wagon (.code yX7_wagon cX7_wagon 6 (some .int) :: zB) (zRx 2) (zPc [.ref (ad 0), .int (nI g), .int 10, .int y] D cy wa N n ad σ sz) zNo (zXC "java/lang/IllegalArgumentException" D cy N n ad (σ) sz) 1 6 (zA n ad sz) := by
  refine z_metx (by decide) hls (List.forall_mem_cons.mpr ⟨rfl, (List.forall_mem_cons.mpr ⟨rfl, (List.forall_mem_cons.mpr ⟨rfl, (List.forall_mem_cons.mpr ⟨rfl, (fun _ h => nomatch h)⟩)⟩)⟩)⟩) (Nat.le_of_ble_eq_true rfl) (fun p_ e_ s_ m_ below_ meth_ c_ hsz hr hno X => ?_)
  have X : zX p_ l s_ m_ [.ref (ad 0), .int (nI g), .int 10, .int y].toArray meth_ c_ cX7_wagon 6 RX7 D cy wa (zA n ad sz) := X
  have hAd : ∀ i, i < n → zA n ad sz (ad i) := fun i hi => Or.inl ⟨i, hi, rfl⟩
  have hg8 : g < 8 := by omega
  refine zw_run X (is := [(0, .aload_n 0, 1), (1, .iload_n 1, 1)]) (t' := (2, [some (.ref (ad 0)), some (.int (nI g)), some (.int 10), some (.int y), none, none], [.int (nI g), .ref (ad 0)])) ⟨dX7_wagon_0, dX7_wagon_1, trivial⟩ rfl ?_
  refine zw_Vv X hAd (As := [.int (nI g)]) (rest := []) (d := 0) (i := 0) (by omega) zc_0 (q := (RX7, TX7, 16)) rfl ⟨zm_135, zm_136, zm_137, zm_2, zm_138, rfl, by decide, by decide, (show (parseMethodDescriptor yX7_needGuild.desc).map (fun d => d.parameters.length) = some 1 by decide +kernel)⟩ (fun sz => c_needGuild hls hD hn σ gc hgc e0 g hg sz) rfl rfl (Nat.le_of_ble_eq_true rfl) ⟨Nat.le_of_ble_eq_true rfl, Nat.le_of_ble_eq_true rfl⟩ ⟨Nat.zero_le _, Nat.zero_le _⟩ dX7_wagon_2 ?_
  refine zw_run X (is := [(5, .iload_n 2, 1), (6, .iconst 1, 1), (7, .bipush 9, 2)]) (t' := (9, [some (.ref (ad 0)), some (.int (nI g)), some (.int 10), some (.int y), none, none], [.int 9, .int 1, .int 10])) ⟨dX7_wagon_5, dX7_wagon_6, dX7_wagon_7, trivial⟩ rfl ?_
  exact zw_So X hno hAd rfl (As := [.int 10, .int 1, .int 9]) (rest := []) (d := 0) ⟨zm_114, zm_115, zm_2, zm_116, by decide, by decide, (show (parseMethodDescriptor yX7_needRange.desc).map (fun d => d.parameters.length) = some 3 by decide +kernel)⟩ (fun sz => c_needRange_hi hls hD hn σ 10 1 9 (by decide) (by decide) sz) rfl rfl (Nat.le_of_ble_eq_true rfl) ⟨Nat.le_of_ble_eq_true rfl, Nat.le_of_ble_eq_true rfl⟩ ⟨Nat.le_of_ble_eq_true rfl, Nat.le_of_ble_eq_true rfl⟩ dX7_wagon_9

set_option maxHeartbeats 4000000 in
set_option maxRecDepth 100000 in
theorem c_charge {l : Launch} (hls : l.stackTraces = false) {D : va_G} {cy : Nat → ClassId} {wa : Nat → Nat} {N n : Nat} {ad : Nat → Nat} (hD : zD n ad) (hn : 40 ≤ n) (σ : zS) (g : Nat) (hg8 : g < 8) (x : Int32) (sz : Nat) : Met l yX7_charge (.code yX7_charge cX7_charge 3 none :: zB) (zRm 0) (zPc [.ref (ad 0), .ref (ad (8 + g)), .int x] D cy wa N n ad σ sz) (zQv D cy N n ad (zu (zu σ (8 + g) 0 ((σ (8 + g) 0) - x)) (0) 13 (((zu σ (8 + g) 0 ((σ (8 + g) 0) - x)) (0) 13) + x)) sz) 0 0 (zA n ad sz) := by
  refine z_met (by decide) hls (List.forall_mem_cons.mpr ⟨rfl, (List.forall_mem_cons.mpr ⟨rfl, (List.forall_mem_cons.mpr ⟨rfl, (fun _ h => nomatch h)⟩)⟩)⟩) (Nat.le_of_ble_eq_true rfl) (fun p_ e_ s_ m_ below_ meth_ c_ hsz hr X => ?_)
  have X : zX p_ l s_ m_ [.ref (ad 0), .ref (ad (8 + g)), .int x].toArray meth_ c_ cX7_charge 3 RX7 D cy wa (zA n ad sz) := X
  have hAd : ∀ i, i < n → zA n ad sz (ad i) := fun i hi => Or.inl ⟨i, hi, rfl⟩
  refine zw_run X (is := [(0, .aload_n 1, 1), (1, .dup, 1)]) (t' := (2, [some (.ref (ad 0)), some (.ref (ad (8 + g))), some (.int x)], [.ref (ad (8 + g)), .ref (ad (8 + g))])) ⟨dX7_charge_0, dX7_charge_1, trivial⟩ rfl ?_
  refine zw_getf X (i := 8 + g) (by omega) (zc_G hg8) (C := RX1) (T := TX1) (Nf := 7) rfl zi_X1 0 (by decide) rfl zm_111 rfl dX7_charge_2 ?_
  refine zw_run X (is := [(5, .iload_n 2, 1), (6, .isub, 1)]) (t' := (7, [some (.ref (ad 0)), some (.ref (ad (8 + g))), some (.int x)], [.int ((σ (8 + g) 0) - x), .ref (ad (8 + g))])) ⟨dX7_charge_5, dX7_charge_6, trivial⟩ rfl ?_
  refine zw_put X hD hAd (i := 8 + g) (by omega) (zc_G hg8) (C := RX1) (T := TX1) (Nf := 7) rfl zi_X1 tyX1 tyX1_ok nmX1 0 (by decide) rfl rfl zm_111 (ty := .int) (by decide +kernel) rfl rfl (Nat.le_of_ble_eq_true rfl) (zc_G hg8) dX7_charge_7 ?_
  refine zw_run X (is := [(10, .aload_n 0, 1), (11, .dup, 1)]) (t' := (12, [some (.ref (ad 0)), some (.ref (ad (8 + g))), some (.int x)], [.ref (ad 0), .ref (ad 0)])) ⟨dX7_charge_10, dX7_charge_11, trivial⟩ rfl ?_
  refine zw_getf X (i := 0) (by omega) zc_0 (C := RX7) (T := TX7) (Nf := 16) rfl zi_X7 13 (by decide) rfl zm_265 rfl dX7_charge_12 ?_
  refine zw_run X (is := [(15, .iload_n 2, 1), (16, .iadd, 1)]) (t' := (17, [some (.ref (ad 0)), some (.ref (ad (8 + g))), some (.int x)], [.int (((zu σ (8 + g) 0 ((σ (8 + g) 0) - x)) (0) 13) + x), .ref (ad 0)])) ⟨dX7_charge_15, dX7_charge_16, trivial⟩ rfl ?_
  refine zw_put X hD hAd (i := 0) (by omega) zc_0 (C := RX7) (T := TX7) (Nf := 16) rfl zi_X7 tyX7 tyX7_ok nmX7 13 (by decide) rfl rfl zm_265 (ty := .int) (by decide +kernel) rfl rfl (Nat.le_of_ble_eq_true rfl) zc_0 dX7_charge_17 ?_
  exact zw_vret X hr dX7_charge_20 rfl rfl

set_option maxHeartbeats 4000000 in
set_option maxRecDepth 100000 in
theorem c_mend {l : Launch} (hls : l.stackTraces = false) {D : va_G} {cy : Nat → ClassId} {wa : Nat → Nat} {N n : Nat} {ad : Nat → Nat} (hD : zD n ad) (hn : 40 ≤ n) (σ : zS) (gc : Nat) (hgc : gc ≤ 8) (e0 : σ 0 11 = nI gc) (g : Nat) (hg : g < gc) (x : Int32) (h1 : ¬ x < 1) (h2 : x ≤ 9) (ho : σ (8 + g) 2 = 0) (h3 : σ (8 + g) 5 + x ≤ 9) (sz : Nat) : Met l yX7_mend (.code yX7_mend cX7_mend 4 (some .int) :: zB) (zRm 2) (zPc [.ref (ad 0), .int (nI g), .int x] D cy wa N n ad σ sz) (zQi ((zu (zu (zu σ (8 + g) 5 (σ (8 + g) 5 + x)) (8 + g) 0 (zu σ (8 + g) 5 (σ (8 + g) 5 + x) (8 + g) 0 - 2 * x)) 0 13 (zu (zu σ (8 + g) 5 (σ (8 + g) 5 + x)) (8 + g) 0 (zu σ (8 + g) 5 (σ (8 + g) 5 + x) (8 + g) 0 - 2 * x) 0 13 + 2 * x)) (8 + g) 5) D cy N n ad (zu (zu (zu σ (8 + g) 5 (σ (8 + g) 5 + x)) (8 + g) 0 (zu σ (8 + g) 5 (σ (8 + g) 5 + x) (8 + g) 0 - 2 * x)) 0 13 (zu (zu σ (8 + g) 5 (σ (8 + g) 5 + x)) (8 + g) 0 (zu σ (8 + g) 5 (σ (8 + g) 5 + x) (8 + g) 0 - 2 * x) 0 13 + 2 * x)) sz) 0 0 (zA n ad sz) := by
  refine z_met (by decide) hls (List.forall_mem_cons.mpr ⟨rfl, (List.forall_mem_cons.mpr ⟨rfl, (List.forall_mem_cons.mpr ⟨rfl, (fun _ h => nomatch h)⟩)⟩)⟩) (Nat.le_of_ble_eq_true rfl) (fun p_ e_ s_ m_ below_ meth_ c_ hsz hr X => ?_)
  have X : zX p_ l s_ m_ [.ref (ad 0), .int (nI g), .int x].toArray meth_ c_ cX7_mend 4 RX7 D cy wa (zA n ad sz) := X
  have hAd : ∀ i, i < n → zA n ad sz (ad i) := fun i hi => Or.inl ⟨i, hi, rfl⟩
  have hg8 : g < 8 := by omega
  refine zw_run X (is := [(0, .aload_n 0, 1), (1, .iload_n 1, 1)]) (t' := (2, [some (.ref (ad 0)), some (.int (nI g)), some (.int x), none], [.int (nI g), .ref (ad 0)])) ⟨dX7_mend_0, dX7_mend_1, trivial⟩ rfl ?_
  refine zw_Vv X hAd (As := [.int (nI g)]) (rest := []) (d := 0) (i := 0) (by omega) zc_0 (q := (RX7, TX7, 16)) rfl ⟨zm_135, zm_136, zm_137, zm_2, zm_138, rfl, by decide, by decide, (show (parseMethodDescriptor yX7_needGuild.desc).map (fun d => d.parameters.length) = some 1 by decide +kernel)⟩ (fun sz => c_needGuild hls hD hn σ gc hgc e0 g hg sz) rfl rfl (Nat.le_of_ble_eq_true rfl) ⟨Nat.le_of_ble_eq_true rfl, Nat.le_of_ble_eq_true rfl⟩ ⟨Nat.zero_le _, Nat.zero_le _⟩ dX7_mend_2 ?_
  refine zw_run X (is := [(5, .iload_n 2, 1), (6, .iconst 1, 1), (7, .bipush 9, 2)]) (t' := (9, [some (.ref (ad 0)), some (.int (nI g)), some (.int x), none], [.int 9, .int 1, .int x])) ⟨dX7_mend_5, dX7_mend_6, dX7_mend_7, trivial⟩ rfl ?_
  refine zw_Sv X hAd (As := [.int x, .int 1, .int 9]) (rest := []) (d := 0) ⟨zm_114, zm_115, zm_2, zm_116, by decide, by decide, (show (parseMethodDescriptor yX7_needRange.desc).map (fun d => d.parameters.length) = some 3 by decide +kernel)⟩ (fun sz => c_needRange hls hD hn σ x 1 9 h1 h2 sz) rfl rfl (Nat.le_of_ble_eq_true rfl) ⟨Nat.le_of_ble_eq_true rfl, Nat.le_of_ble_eq_true rfl⟩ ⟨Nat.zero_le _, Nat.zero_le _⟩ dX7_mend_9 ?_
  refine zw_run X (is := [(12, .aload_n 0, 1), (13, .iload_n 1, 1)]) (t' := (14, [some (.ref (ad 0)), some (.int (nI g)), some (.int x), none], [.int (nI g), .ref (ad 0)])) ⟨dX7_mend_12, dX7_mend_13, trivial⟩ rfl ?_
  refine zw_Vv X hAd (As := [.int (nI g)]) (rest := []) (d := 0) (i := 0) (by omega) zc_0 (q := (RX7, TX7, 16)) rfl ⟨zm_240, zm_241, zm_242, zm_2, zm_243, rfl, by decide, by decide, (show (parseMethodDescriptor yX7_needNotOver.desc).map (fun d => d.parameters.length) = some 1 by decide +kernel)⟩ (fun sz => c_needNotOver hls hD hn σ g hg8 ho sz) rfl rfl (Nat.le_of_ble_eq_true rfl) ⟨Nat.le_of_ble_eq_true rfl, Nat.le_of_ble_eq_true rfl⟩ ⟨Nat.zero_le _, Nat.zero_le _⟩ dX7_mend_14 ?_
  refine zw_run X (is := [(17, .aload_n 0, 1)]) (t' := (18, [some (.ref (ad 0)), some (.int (nI g)), some (.int x), none], [.ref (ad 0)])) ⟨dX7_mend_17, trivial⟩ rfl ?_
  refine zw_getf X (i := 0) (by omega) zc_0 (C := RX7) (T := TX7) (Nf := 16) rfl zi_X7 0 (by decide) rfl zm_18 rfl dX7_mend_18 ?_
  refine zw_run X (is := [(21, .iload_n 1, 1)]) (t' := (22, [some (.ref (ad 0)), some (.int (nI g)), some (.int x), none], [.int (nI g), .ref (ad 1)])) ⟨dX7_mend_21, trivial⟩ rfl ?_
  refine zw_guild X (by omega) (g := g) rfl hg8 dX7_mend_22 ?_
  refine zw_run X (is := [(23, .astore_n 3, 1), (24, .aload_n 3, 1)]) (t' := (25, [some (.ref (ad 0)), some (.int (nI g)), some (.int x), some (.ref (ad (8 + g)))], [.ref (ad (8 + g))])) ⟨dX7_mend_23, dX7_mend_24, trivial⟩ rfl ?_
  refine zw_getf X (i := 8 + g) (by omega) (zc_G hg8) (C := RX1) (T := TX1) (Nf := 7) rfl zi_X1 5 (by decide) rfl zm_260 rfl dX7_mend_25 ?_
  refine zw_run X (is := [(28, .iload_n 2, 1), (29, .iadd, 1), (30, .bipush 9, 2)]) (t' := (32, [some (.ref (ad 0)), some (.int (nI g)), some (.int x), some (.ref (ad (8 + g)))], [.int 9, .int ((σ (8 + g) 5) + x)])) ⟨dX7_mend_28, dX7_mend_29, dX7_mend_30, trivial⟩ rfl ?_
  refine zw_icmp_le X (tgt := 45) dX7_mend_32 (by decide) (fun _ => ?_) (fun h_ => absurd h3 h_)
  refine zw_run X (is := [(45, .aload_n 3, 1), (46, .dup, 1)]) (t' := (47, [some (.ref (ad 0)), some (.int (nI g)), some (.int x), some (.ref (ad (8 + g)))], [.ref (ad (8 + g)), .ref (ad (8 + g))])) ⟨dX7_mend_45, dX7_mend_46, trivial⟩ rfl ?_
  refine zw_getf X (i := 8 + g) (by omega) (zc_G hg8) (C := RX1) (T := TX1) (Nf := 7) rfl zi_X1 5 (by decide) rfl zm_260 rfl dX7_mend_47 ?_
  refine zw_run X (is := [(50, .iload_n 2, 1), (51, .iadd, 1)]) (t' := (52, [some (.ref (ad 0)), some (.int (nI g)), some (.int x), some (.ref (ad (8 + g)))], [.int ((σ (8 + g) 5) + x), .ref (ad (8 + g))])) ⟨dX7_mend_50, dX7_mend_51, trivial⟩ rfl ?_
  refine zw_put X hD hAd (i := 8 + g) (by omega) (zc_G hg8) (C := RX1) (T := TX1) (Nf := 7) rfl zi_X1 tyX1 tyX1_ok nmX1 5 (by decide) rfl rfl zm_260 (ty := .int) (by decide +kernel) rfl rfl (Nat.le_of_ble_eq_true rfl) (zc_G hg8) dX7_mend_52 ?_
  refine zw_run X (is := [(55, .aload_n 0, 1), (56, .aload_n 3, 1), (57, .iconst 2, 1), (58, .iload_n 2, 1), (59, .imul, 1)]) (t' := (60, [some (.ref (ad 0)), some (.int (nI g)), some (.int x), some (.ref (ad (8 + g)))], [.int (2 * x), .ref (ad (8 + g)), .ref (ad 0)])) ⟨dX7_mend_55, dX7_mend_56, dX7_mend_57, dX7_mend_58, dX7_mend_59, trivial⟩ rfl ?_
  refine zw_Vv X hAd (As := [.ref (ad (8 + g)), .int (2 * x)]) (rest := []) (d := 0) (i := 0) (by omega) zc_0 (q := (RX7, TX7, 16)) rfl ⟨zm_261, zm_262, zm_263, zm_2, zm_264, rfl, by decide, by decide, (show (parseMethodDescriptor yX7_charge.desc).map (fun d => d.parameters.length) = some 2 by decide +kernel)⟩ (fun sz => c_charge hls hD hn (zu σ (8 + g) 5 (σ (8 + g) 5 + x)) g hg8 (2 * x) sz) rfl rfl (Nat.le_of_ble_eq_true rfl) ⟨Nat.le_of_ble_eq_true rfl, Nat.le_of_ble_eq_true rfl⟩ ⟨Nat.zero_le _, Nat.zero_le _⟩ dX7_mend_60 ?_
  refine zw_run X (is := [(63, .aload_n 3, 1)]) (t' := (64, [some (.ref (ad 0)), some (.int (nI g)), some (.int x), some (.ref (ad (8 + g)))], [.ref (ad (8 + g))])) ⟨dX7_mend_63, trivial⟩ rfl ?_
  refine zw_getf X (i := 8 + g) (by omega) (zc_G hg8) (C := RX1) (T := TX1) (Nf := 7) rfl zi_X1 5 (by decide) rfl zm_260 rfl dX7_mend_64 ?_
  exact zw_iret X hr dX7_mend_67 rfl rfl rfl

set_option maxHeartbeats 4000000 in
set_option maxRecDepth 100000 in
theorem c_mend_over {l : Launch} (hls : l.stackTraces = false) {D : va_G} {cy : Nat → ClassId} {wa : Nat → Nat} {N n : Nat} {ad : Nat → Nat} (hD : zD n ad) (hn : 40 ≤ n) (σ : zS) (gc : Nat) (hgc : gc ≤ 8) (e0 : σ 0 11 = nI gc) (g : Nat) (hg : g < gc) (x : Int32) (h1 : ¬ x < 1) (h2 : x ≤ 9) (ho : ¬ σ (8 + g) 2 = 0) (sz : Nat) : vx_Met l yX7_mend (.code yX7_mend cX7_mend 4 (some .int) :: zB) (zRx 2) (zPc [.ref (ad 0), .int (nI g), .int x] D cy wa N n ad σ sz) zNo (zXC "java/lang/UnsupportedOperationException" D cy N n ad (σ) sz) 1 6 (zA n ad sz) := by
  refine z_metx (by decide) hls (List.forall_mem_cons.mpr ⟨rfl, (List.forall_mem_cons.mpr ⟨rfl, (List.forall_mem_cons.mpr ⟨rfl, (fun _ h => nomatch h)⟩)⟩)⟩) (Nat.le_of_ble_eq_true rfl) (fun p_ e_ s_ m_ below_ meth_ c_ hsz hr hno X => ?_)
  have X : zX p_ l s_ m_ [.ref (ad 0), .int (nI g), .int x].toArray meth_ c_ cX7_mend 4 RX7 D cy wa (zA n ad sz) := X
  have hAd : ∀ i, i < n → zA n ad sz (ad i) := fun i hi => Or.inl ⟨i, hi, rfl⟩
  have hg8 : g < 8 := by omega
  refine zw_run X (is := [(0, .aload_n 0, 1), (1, .iload_n 1, 1)]) (t' := (2, [some (.ref (ad 0)), some (.int (nI g)), some (.int x), none], [.int (nI g), .ref (ad 0)])) ⟨dX7_mend_0, dX7_mend_1, trivial⟩ rfl ?_
  refine zw_Vv X hAd (As := [.int (nI g)]) (rest := []) (d := 0) (i := 0) (by omega) zc_0 (q := (RX7, TX7, 16)) rfl ⟨zm_135, zm_136, zm_137, zm_2, zm_138, rfl, by decide, by decide, (show (parseMethodDescriptor yX7_needGuild.desc).map (fun d => d.parameters.length) = some 1 by decide +kernel)⟩ (fun sz => c_needGuild hls hD hn σ gc hgc e0 g hg sz) rfl rfl (Nat.le_of_ble_eq_true rfl) ⟨Nat.le_of_ble_eq_true rfl, Nat.le_of_ble_eq_true rfl⟩ ⟨Nat.zero_le _, Nat.zero_le _⟩ dX7_mend_2 ?_
  refine zw_run X (is := [(5, .iload_n 2, 1), (6, .iconst 1, 1), (7, .bipush 9, 2)]) (t' := (9, [some (.ref (ad 0)), some (.int (nI g)), some (.int x), none], [.int 9, .int 1, .int x])) ⟨dX7_mend_5, dX7_mend_6, dX7_mend_7, trivial⟩ rfl ?_
  refine zw_Sv X hAd (As := [.int x, .int 1, .int 9]) (rest := []) (d := 0) ⟨zm_114, zm_115, zm_2, zm_116, by decide, by decide, (show (parseMethodDescriptor yX7_needRange.desc).map (fun d => d.parameters.length) = some 3 by decide +kernel)⟩ (fun sz => c_needRange hls hD hn σ x 1 9 h1 h2 sz) rfl rfl (Nat.le_of_ble_eq_true rfl) ⟨Nat.le_of_ble_eq_true rfl, Nat.le_of_ble_eq_true rfl⟩ ⟨Nat.zero_le _, Nat.zero_le _⟩ dX7_mend_9 ?_
  refine zw_run X (is := [(12, .aload_n 0, 1), (13, .iload_n 1, 1)]) (t' := (14, [some (.ref (ad 0)), some (.int (nI g)), some (.int x), none], [.int (nI g), .ref (ad 0)])) ⟨dX7_mend_12, dX7_mend_13, trivial⟩ rfl ?_
  exact zw_Vo X hno hAd rfl (As := [.int (nI g)]) (rest := []) (d := 0) (i := 0) (by omega) zc_0 (q := (RX7, TX7, 16)) rfl ⟨zm_240, zm_241, zm_242, zm_2, zm_243, rfl, by decide, by decide, (show (parseMethodDescriptor yX7_needNotOver.desc).map (fun d => d.parameters.length) = some 1 by decide +kernel)⟩ (fun sz => c_needNotOver_x hls hD hn σ g hg8 ho sz) rfl rfl (Nat.le_of_ble_eq_true rfl) ⟨Nat.le_of_ble_eq_true rfl, Nat.le_of_ble_eq_true rfl⟩ ⟨Nat.le_of_ble_eq_true rfl, Nat.le_of_ble_eq_true rfl⟩ dX7_mend_14

set_option maxHeartbeats 4000000 in
set_option maxRecDepth 100000 in
theorem c_mend_many {l : Launch} (hls : l.stackTraces = false) {D : va_G} {cy : Nat → ClassId} {wa : Nat → Nat} {N n : Nat} {ad : Nat → Nat} (hD : zD n ad) (hn : 40 ≤ n) (σ : zS) (gc : Nat) (hgc : gc ≤ 8) (e0 : σ 0 11 = nI gc) (g : Nat) (hg : g < gc) (x : Int32) (h1 : ¬ x < 1) (h2 : x ≤ 9) (ho : σ (8 + g) 2 = 0) (h3 : ¬ σ (8 + g) 5 + x ≤ 9) (sz : Nat) : vx_Met l yX7_mend (.code yX7_mend cX7_mend 4 (some .int) :: zB) (zRx 2) (zPc [.ref (ad 0), .int (nI g), .int x] D cy wa N n ad σ sz) zNo (zXC "java/lang/UnsupportedOperationException" D cy N n ad (σ) sz) 1 6 (zA n ad sz) := by
  refine z_metx (by decide) hls (List.forall_mem_cons.mpr ⟨rfl, (List.forall_mem_cons.mpr ⟨rfl, (List.forall_mem_cons.mpr ⟨rfl, (fun _ h => nomatch h)⟩)⟩)⟩) (Nat.le_of_ble_eq_true rfl) (fun p_ e_ s_ m_ below_ meth_ c_ hsz hr hno X => ?_)
  have X : zX p_ l s_ m_ [.ref (ad 0), .int (nI g), .int x].toArray meth_ c_ cX7_mend 4 RX7 D cy wa (zA n ad sz) := X
  have hAd : ∀ i, i < n → zA n ad sz (ad i) := fun i hi => Or.inl ⟨i, hi, rfl⟩
  have hg8 : g < 8 := by omega
  refine zw_run X (is := [(0, .aload_n 0, 1), (1, .iload_n 1, 1)]) (t' := (2, [some (.ref (ad 0)), some (.int (nI g)), some (.int x), none], [.int (nI g), .ref (ad 0)])) ⟨dX7_mend_0, dX7_mend_1, trivial⟩ rfl ?_
  refine zw_Vv X hAd (As := [.int (nI g)]) (rest := []) (d := 0) (i := 0) (by omega) zc_0 (q := (RX7, TX7, 16)) rfl ⟨zm_135, zm_136, zm_137, zm_2, zm_138, rfl, by decide, by decide, (show (parseMethodDescriptor yX7_needGuild.desc).map (fun d => d.parameters.length) = some 1 by decide +kernel)⟩ (fun sz => c_needGuild hls hD hn σ gc hgc e0 g hg sz) rfl rfl (Nat.le_of_ble_eq_true rfl) ⟨Nat.le_of_ble_eq_true rfl, Nat.le_of_ble_eq_true rfl⟩ ⟨Nat.zero_le _, Nat.zero_le _⟩ dX7_mend_2 ?_
  refine zw_run X (is := [(5, .iload_n 2, 1), (6, .iconst 1, 1), (7, .bipush 9, 2)]) (t' := (9, [some (.ref (ad 0)), some (.int (nI g)), some (.int x), none], [.int 9, .int 1, .int x])) ⟨dX7_mend_5, dX7_mend_6, dX7_mend_7, trivial⟩ rfl ?_
  refine zw_Sv X hAd (As := [.int x, .int 1, .int 9]) (rest := []) (d := 0) ⟨zm_114, zm_115, zm_2, zm_116, by decide, by decide, (show (parseMethodDescriptor yX7_needRange.desc).map (fun d => d.parameters.length) = some 3 by decide +kernel)⟩ (fun sz => c_needRange hls hD hn σ x 1 9 h1 h2 sz) rfl rfl (Nat.le_of_ble_eq_true rfl) ⟨Nat.le_of_ble_eq_true rfl, Nat.le_of_ble_eq_true rfl⟩ ⟨Nat.zero_le _, Nat.zero_le _⟩ dX7_mend_9 ?_
  refine zw_run X (is := [(12, .aload_n 0, 1), (13, .iload_n 1, 1)]) (t' := (14, [some (.ref (ad 0)), some (.int (nI g)), some (.int x), none], [.int (nI g), .ref (ad 0)])) ⟨dX7_mend_12, dX7_mend_13, trivial⟩ rfl ?_
  refine zw_Vv X hAd (As := [.int (nI g)]) (rest := []) (d := 0) (i := 0) (by omega) zc_0 (q := (RX7, TX7, 16)) rfl ⟨zm_240, zm_241, zm_242, zm_2, zm_243, rfl, by decide, by decide, (show (parseMethodDescriptor yX7_needNotOver.desc).map (fun d => d.parameters.length) = some 1 by decide +kernel)⟩ (fun sz => c_needNotOver hls hD hn σ g hg8 ho sz) rfl rfl (Nat.le_of_ble_eq_true rfl) ⟨Nat.le_of_ble_eq_true rfl, Nat.le_of_ble_eq_true rfl⟩ ⟨Nat.zero_le _, Nat.zero_le _⟩ dX7_mend_14 ?_
  refine zw_run X (is := [(17, .aload_n 0, 1)]) (t' := (18, [some (.ref (ad 0)), some (.int (nI g)), some (.int x), none], [.ref (ad 0)])) ⟨dX7_mend_17, trivial⟩ rfl ?_
  refine zw_getf X (i := 0) (by omega) zc_0 (C := RX7) (T := TX7) (Nf := 16) rfl zi_X7 0 (by decide) rfl zm_18 rfl dX7_mend_18 ?_
  refine zw_run X (is := [(21, .iload_n 1, 1)]) (t' := (22, [some (.ref (ad 0)), some (.int (nI g)), some (.int x), none], [.int (nI g), .ref (ad 1)])) ⟨dX7_mend_21, trivial⟩ rfl ?_
  refine zw_guild X (by omega) (g := g) rfl hg8 dX7_mend_22 ?_
  refine zw_run X (is := [(23, .astore_n 3, 1), (24, .aload_n 3, 1)]) (t' := (25, [some (.ref (ad 0)), some (.int (nI g)), some (.int x), some (.ref (ad (8 + g)))], [.ref (ad (8 + g))])) ⟨dX7_mend_23, dX7_mend_24, trivial⟩ rfl ?_
  refine zw_getf X (i := 8 + g) (by omega) (zc_G hg8) (C := RX1) (T := TX1) (Nf := 7) rfl zi_X1 5 (by decide) rfl zm_260 rfl dX7_mend_25 ?_
  refine zw_run X (is := [(28, .iload_n 2, 1), (29, .iadd, 1), (30, .bipush 9, 2)]) (t' := (32, [some (.ref (ad 0)), some (.int (nI g)), some (.int x), some (.ref (ad (8 + g)))], [.int 9, .int ((σ (8 + g) 5) + x)])) ⟨dX7_mend_28, dX7_mend_29, dX7_mend_30, trivial⟩ rfl ?_
  refine zw_icmp_le X (tgt := 45) dX7_mend_32 (by decide) (fun h_ => absurd h_ h3) (fun _ => ?_)
  exact zw_throw X hno zTh_uoe (is := 174) (text := "a wagon has at most 9 wheels") (by decide +kernel) rfl rfl dX7_mend_35 dX7_mend_38 dX7_mend_39 dX7_mend_41 dX7_mend_44 ⟨Nat.le_of_ble_eq_true rfl, Nat.le_of_ble_eq_true rfl, Nat.le_of_ble_eq_true rfl, Nat.le_of_ble_eq_true rfl⟩ ⟨rfl, rfl⟩

set_option maxHeartbeats 4000000 in
set_option maxRecDepth 100000 in
theorem c_add {l : Launch} (hls : l.stackTraces = false) {D : va_G} {cy : Nat → ClassId} {wa : Nat → Nat} {N n : Nat} {ad : Nat → Nat} (hD : zD n ad) (hn : 40 ≤ n) (σ : zS) (gc : Nat) (hgc : gc ≤ 8) (e0 : σ 0 11 = nI gc) (g : Nat) (hg : g < gc) (x : Int32) (h1 : ¬ x < 1) (h2 : x ≤ 99) (ho : σ (8 + g) 2 = 0) (h3 : σ (16 + g) 0 + x ≤ 600) (sz : Nat) : Met l yX7_add (.code yX7_add cX7_add 4 (some .int) :: zB) (zRm 2) (zPc [.ref (ad 0), .int (nI g), .int x] D cy wa N n ad σ sz) (zQi (zu σ (16 + g) 0 (σ (16 + g) 0 + x) (16 + g) 0 - zu σ (16 + g) 0 (σ (16 + g) 0 + x) (16 + g) 4) D cy N n ad (zu σ (16 + g) 0 ((σ (16 + g) 0) + x)) sz) 0 0 (zA n ad sz) := by
  refine z_met (by decide) hls (List.forall_mem_cons.mpr ⟨rfl, (List.forall_mem_cons.mpr ⟨rfl, (List.forall_mem_cons.mpr ⟨rfl, (fun _ h => nomatch h)⟩)⟩)⟩) (Nat.le_of_ble_eq_true rfl) (fun p_ e_ s_ m_ below_ meth_ c_ hsz hr X => ?_)
  have X : zX p_ l s_ m_ [.ref (ad 0), .int (nI g), .int x].toArray meth_ c_ cX7_add 4 RX7 D cy wa (zA n ad sz) := X
  have hAd : ∀ i, i < n → zA n ad sz (ad i) := fun i hi => Or.inl ⟨i, hi, rfl⟩
  have hg8 : g < 8 := by omega
  refine zw_run X (is := [(0, .aload_n 0, 1), (1, .iload_n 1, 1)]) (t' := (2, [some (.ref (ad 0)), some (.int (nI g)), some (.int x), none], [.int (nI g), .ref (ad 0)])) ⟨dX7_add_0, dX7_add_1, trivial⟩ rfl ?_
  refine zw_Vv X hAd (As := [.int (nI g)]) (rest := []) (d := 0) (i := 0) (by omega) zc_0 (q := (RX7, TX7, 16)) rfl ⟨zm_135, zm_136, zm_137, zm_2, zm_138, rfl, by decide, by decide, (show (parseMethodDescriptor yX7_needGuild.desc).map (fun d => d.parameters.length) = some 1 by decide +kernel)⟩ (fun sz => c_needGuild hls hD hn σ gc hgc e0 g hg sz) rfl rfl (Nat.le_of_ble_eq_true rfl) ⟨Nat.le_of_ble_eq_true rfl, Nat.le_of_ble_eq_true rfl⟩ ⟨Nat.zero_le _, Nat.zero_le _⟩ dX7_add_2 ?_
  refine zw_run X (is := [(5, .iload_n 2, 1), (6, .iconst 1, 1), (7, .bipush 99, 2)]) (t' := (9, [some (.ref (ad 0)), some (.int (nI g)), some (.int x), none], [.int 99, .int 1, .int x])) ⟨dX7_add_5, dX7_add_6, dX7_add_7, trivial⟩ rfl ?_
  refine zw_Sv X hAd (As := [.int x, .int 1, .int 99]) (rest := []) (d := 0) ⟨zm_114, zm_115, zm_2, zm_116, by decide, by decide, (show (parseMethodDescriptor yX7_needRange.desc).map (fun d => d.parameters.length) = some 3 by decide +kernel)⟩ (fun sz => c_needRange hls hD hn σ x 1 99 h1 h2 sz) rfl rfl (Nat.le_of_ble_eq_true rfl) ⟨Nat.le_of_ble_eq_true rfl, Nat.le_of_ble_eq_true rfl⟩ ⟨Nat.zero_le _, Nat.zero_le _⟩ dX7_add_9 ?_
  refine zw_run X (is := [(12, .aload_n 0, 1), (13, .iload_n 1, 1)]) (t' := (14, [some (.ref (ad 0)), some (.int (nI g)), some (.int x), none], [.int (nI g), .ref (ad 0)])) ⟨dX7_add_12, dX7_add_13, trivial⟩ rfl ?_
  refine zw_Vv X hAd (As := [.int (nI g)]) (rest := []) (d := 0) (i := 0) (by omega) zc_0 (q := (RX7, TX7, 16)) rfl ⟨zm_240, zm_241, zm_242, zm_2, zm_243, rfl, by decide, by decide, (show (parseMethodDescriptor yX7_needNotOver.desc).map (fun d => d.parameters.length) = some 1 by decide +kernel)⟩ (fun sz => c_needNotOver hls hD hn σ g hg8 ho sz) rfl rfl (Nat.le_of_ble_eq_true rfl) ⟨Nat.le_of_ble_eq_true rfl, Nat.le_of_ble_eq_true rfl⟩ ⟨Nat.zero_le _, Nat.zero_le _⟩ dX7_add_14 ?_
  refine zw_run X (is := [(17, .aload_n 0, 1)]) (t' := (18, [some (.ref (ad 0)), some (.int (nI g)), some (.int x), none], [.ref (ad 0)])) ⟨dX7_add_17, trivial⟩ rfl ?_
  refine zw_getf X (i := 0) (by omega) zc_0 (C := RX7) (T := TX7) (Nf := 16) rfl zi_X7 0 (by decide) rfl zm_18 rfl dX7_add_18 ?_
  refine zw_run X (is := [(21, .iload_n 1, 1)]) (t' := (22, [some (.ref (ad 0)), some (.int (nI g)), some (.int x), none], [.int (nI g), .ref (ad 1)])) ⟨dX7_add_21, trivial⟩ rfl ?_
  refine zw_guild X (by omega) (g := g) rfl hg8 dX7_add_22 ?_
  refine zw_getf X (i := 8 + g) (by omega) (zc_G hg8) (C := RX1) (T := TX1) (Nf := 7) rfl zi_X1 6 (by decide) rfl zm_112 rfl dX7_add_23 ?_
  refine zw_run X (is := [(26, .astore_n 3, 1), (27, .aload_n 3, 1)]) (t' := (28, [some (.ref (ad 0)), some (.int (nI g)), some (.int x), some (.ref (ad (16 + g)))], [.ref (ad (16 + g))])) ⟨dX7_add_26, dX7_add_27, trivial⟩ rfl ?_
  refine zw_getf X (i := 16 + g) (by omega) (zc_P hg8) (C := RX4) (T := TX4) (Nf := 7) rfl zi_X4 0 (by decide) rfl zm_280 rfl dX7_add_28 ?_
  refine zw_run X (is := [(31, .iload_n 2, 1), (32, .iadd, 1), (33, .sipush 600, 3)]) (t' := (36, [some (.ref (ad 0)), some (.int (nI g)), some (.int x), some (.ref (ad (16 + g)))], [.int 600, .int ((σ (16 + g) 0) + x)])) ⟨dX7_add_31, dX7_add_32, dX7_add_33, trivial⟩ rfl ?_
  refine zw_icmp_le X (tgt := 49) dX7_add_36 (by decide) (fun _ => ?_) (fun h_ => absurd h3 h_)
  refine zw_run X (is := [(49, .aload_n 3, 1), (50, .dup, 1)]) (t' := (51, [some (.ref (ad 0)), some (.int (nI g)), some (.int x), some (.ref (ad (16 + g)))], [.ref (ad (16 + g)), .ref (ad (16 + g))])) ⟨dX7_add_49, dX7_add_50, trivial⟩ rfl ?_
  refine zw_getf X (i := 16 + g) (by omega) (zc_P hg8) (C := RX4) (T := TX4) (Nf := 7) rfl zi_X4 0 (by decide) rfl zm_280 rfl dX7_add_51 ?_
  refine zw_run X (is := [(54, .iload_n 2, 1), (55, .iadd, 1)]) (t' := (56, [some (.ref (ad 0)), some (.int (nI g)), some (.int x), some (.ref (ad (16 + g)))], [.int ((σ (16 + g) 0) + x), .ref (ad (16 + g))])) ⟨dX7_add_54, dX7_add_55, trivial⟩ rfl ?_
  refine zw_put X hD hAd (i := 16 + g) (by omega) (zc_P hg8) (C := RX4) (T := TX4) (Nf := 7) rfl zi_X4 tyX4 tyX4_ok nmX4 0 (by decide) rfl rfl zm_280 (ty := .int) (by decide +kernel) rfl rfl (Nat.le_of_ble_eq_true rfl) (zc_P hg8) dX7_add_56 ?_
  refine zw_run X (is := [(59, .aload_n 3, 1)]) (t' := (60, [some (.ref (ad 0)), some (.int (nI g)), some (.int x), some (.ref (ad (16 + g)))], [.ref (ad (16 + g))])) ⟨dX7_add_59, trivial⟩ rfl ?_
  refine zw_Vi X hAd (As := []) (rest := []) (d := 0) (i := 16 + g) (by omega) (zc_P hg8) (q := (RX4, TX4, 7)) rfl ⟨zm_281, zm_282, zm_283, zm_81, zm_284, rfl, by decide, by decide, (show (parseMethodDescriptor yX4_linesNotInBook.desc).map (fun d => d.parameters.length) = some 0 by decide +kernel)⟩ (fun sz => c_lnib hls hD hn (zu σ (16 + g) 0 (σ (16 + g) 0 + x)) g hg8 sz) rfl rfl (Nat.le_of_ble_eq_true rfl) ⟨Nat.le_of_ble_eq_true rfl, Nat.le_of_ble_eq_true rfl⟩ ⟨Nat.zero_le _, Nat.zero_le _⟩ dX7_add_60 ?_
  exact zw_iret X hr dX7_add_63 rfl rfl rfl

set_option maxHeartbeats 4000000 in
set_option maxRecDepth 100000 in
theorem c_add_over {l : Launch} (hls : l.stackTraces = false) {D : va_G} {cy : Nat → ClassId} {wa : Nat → Nat} {N n : Nat} {ad : Nat → Nat} (hD : zD n ad) (hn : 40 ≤ n) (σ : zS) (gc : Nat) (hgc : gc ≤ 8) (e0 : σ 0 11 = nI gc) (g : Nat) (hg : g < gc) (x : Int32) (h1 : ¬ x < 1) (h2 : x ≤ 99) (ho : ¬ σ (8 + g) 2 = 0) (sz : Nat) : vx_Met l yX7_add (.code yX7_add cX7_add 4 (some .int) :: zB) (zRx 2) (zPc [.ref (ad 0), .int (nI g), .int x] D cy wa N n ad σ sz) zNo (zXC "java/lang/UnsupportedOperationException" D cy N n ad (σ) sz) 1 6 (zA n ad sz) := by
  refine z_metx (by decide) hls (List.forall_mem_cons.mpr ⟨rfl, (List.forall_mem_cons.mpr ⟨rfl, (List.forall_mem_cons.mpr ⟨rfl, (fun _ h => nomatch h)⟩)⟩)⟩) (Nat.le_of_ble_eq_true rfl) (fun p_ e_ s_ m_ below_ meth_ c_ hsz hr hno X => ?_)
  have X : zX p_ l s_ m_ [.ref (ad 0), .int (nI g), .int x].toArray meth_ c_ cX7_add 4 RX7 D cy wa (zA n ad sz) := X
  have hAd : ∀ i, i < n → zA n ad sz (ad i) := fun i hi => Or.inl ⟨i, hi, rfl⟩
  have hg8 : g < 8 := by omega
  refine zw_run X (is := [(0, .aload_n 0, 1), (1, .iload_n 1, 1)]) (t' := (2, [some (.ref (ad 0)), some (.int (nI g)), some (.int x), none], [.int (nI g), .ref (ad 0)])) ⟨dX7_add_0, dX7_add_1, trivial⟩ rfl ?_
  refine zw_Vv X hAd (As := [.int (nI g)]) (rest := []) (d := 0) (i := 0) (by omega) zc_0 (q := (RX7, TX7, 16)) rfl ⟨zm_135, zm_136, zm_137, zm_2, zm_138, rfl, by decide, by decide, (show (parseMethodDescriptor yX7_needGuild.desc).map (fun d => d.parameters.length) = some 1 by decide +kernel)⟩ (fun sz => c_needGuild hls hD hn σ gc hgc e0 g hg sz) rfl rfl (Nat.le_of_ble_eq_true rfl) ⟨Nat.le_of_ble_eq_true rfl, Nat.le_of_ble_eq_true rfl⟩ ⟨Nat.zero_le _, Nat.zero_le _⟩ dX7_add_2 ?_
  refine zw_run X (is := [(5, .iload_n 2, 1), (6, .iconst 1, 1), (7, .bipush 99, 2)]) (t' := (9, [some (.ref (ad 0)), some (.int (nI g)), some (.int x), none], [.int 99, .int 1, .int x])) ⟨dX7_add_5, dX7_add_6, dX7_add_7, trivial⟩ rfl ?_
  refine zw_Sv X hAd (As := [.int x, .int 1, .int 99]) (rest := []) (d := 0) ⟨zm_114, zm_115, zm_2, zm_116, by decide, by decide, (show (parseMethodDescriptor yX7_needRange.desc).map (fun d => d.parameters.length) = some 3 by decide +kernel)⟩ (fun sz => c_needRange hls hD hn σ x 1 99 h1 h2 sz) rfl rfl (Nat.le_of_ble_eq_true rfl) ⟨Nat.le_of_ble_eq_true rfl, Nat.le_of_ble_eq_true rfl⟩ ⟨Nat.zero_le _, Nat.zero_le _⟩ dX7_add_9 ?_
  refine zw_run X (is := [(12, .aload_n 0, 1), (13, .iload_n 1, 1)]) (t' := (14, [some (.ref (ad 0)), some (.int (nI g)), some (.int x), none], [.int (nI g), .ref (ad 0)])) ⟨dX7_add_12, dX7_add_13, trivial⟩ rfl ?_
  exact zw_Vo X hno hAd rfl (As := [.int (nI g)]) (rest := []) (d := 0) (i := 0) (by omega) zc_0 (q := (RX7, TX7, 16)) rfl ⟨zm_240, zm_241, zm_242, zm_2, zm_243, rfl, by decide, by decide, (show (parseMethodDescriptor yX7_needNotOver.desc).map (fun d => d.parameters.length) = some 1 by decide +kernel)⟩ (fun sz => c_needNotOver_x hls hD hn σ g hg8 ho sz) rfl rfl (Nat.le_of_ble_eq_true rfl) ⟨Nat.le_of_ble_eq_true rfl, Nat.le_of_ble_eq_true rfl⟩ ⟨Nat.le_of_ble_eq_true rfl, Nat.le_of_ble_eq_true rfl⟩ dX7_add_14

set_option maxHeartbeats 4000000 in
set_option maxRecDepth 100000 in
theorem c_add_many {l : Launch} (hls : l.stackTraces = false) {D : va_G} {cy : Nat → ClassId} {wa : Nat → Nat} {N n : Nat} {ad : Nat → Nat} (hD : zD n ad) (hn : 40 ≤ n) (σ : zS) (gc : Nat) (hgc : gc ≤ 8) (e0 : σ 0 11 = nI gc) (g : Nat) (hg : g < gc) (x : Int32) (h1 : ¬ x < 1) (h2 : x ≤ 99) (ho : σ (8 + g) 2 = 0) (h3 : ¬ σ (16 + g) 0 + x ≤ 600) (sz : Nat) : vx_Met l yX7_add (.code yX7_add cX7_add 4 (some .int) :: zB) (zRx 2) (zPc [.ref (ad 0), .int (nI g), .int x] D cy wa N n ad σ sz) zNo (zXC "java/lang/UnsupportedOperationException" D cy N n ad (σ) sz) 1 6 (zA n ad sz) := by
  refine z_metx (by decide) hls (List.forall_mem_cons.mpr ⟨rfl, (List.forall_mem_cons.mpr ⟨rfl, (List.forall_mem_cons.mpr ⟨rfl, (fun _ h => nomatch h)⟩)⟩)⟩) (Nat.le_of_ble_eq_true rfl) (fun p_ e_ s_ m_ below_ meth_ c_ hsz hr hno X => ?_)
  have X : zX p_ l s_ m_ [.ref (ad 0), .int (nI g), .int x].toArray meth_ c_ cX7_add 4 RX7 D cy wa (zA n ad sz) := X
  have hAd : ∀ i, i < n → zA n ad sz (ad i) := fun i hi => Or.inl ⟨i, hi, rfl⟩
  have hg8 : g < 8 := by omega
  refine zw_run X (is := [(0, .aload_n 0, 1), (1, .iload_n 1, 1)]) (t' := (2, [some (.ref (ad 0)), some (.int (nI g)), some (.int x), none], [.int (nI g), .ref (ad 0)])) ⟨dX7_add_0, dX7_add_1, trivial⟩ rfl ?_
  refine zw_Vv X hAd (As := [.int (nI g)]) (rest := []) (d := 0) (i := 0) (by omega) zc_0 (q := (RX7, TX7, 16)) rfl ⟨zm_135, zm_136, zm_137, zm_2, zm_138, rfl, by decide, by decide, (show (parseMethodDescriptor yX7_needGuild.desc).map (fun d => d.parameters.length) = some 1 by decide +kernel)⟩ (fun sz => c_needGuild hls hD hn σ gc hgc e0 g hg sz) rfl rfl (Nat.le_of_ble_eq_true rfl) ⟨Nat.le_of_ble_eq_true rfl, Nat.le_of_ble_eq_true rfl⟩ ⟨Nat.zero_le _, Nat.zero_le _⟩ dX7_add_2 ?_
  refine zw_run X (is := [(5, .iload_n 2, 1), (6, .iconst 1, 1), (7, .bipush 99, 2)]) (t' := (9, [some (.ref (ad 0)), some (.int (nI g)), some (.int x), none], [.int 99, .int 1, .int x])) ⟨dX7_add_5, dX7_add_6, dX7_add_7, trivial⟩ rfl ?_
  refine zw_Sv X hAd (As := [.int x, .int 1, .int 99]) (rest := []) (d := 0) ⟨zm_114, zm_115, zm_2, zm_116, by decide, by decide, (show (parseMethodDescriptor yX7_needRange.desc).map (fun d => d.parameters.length) = some 3 by decide +kernel)⟩ (fun sz => c_needRange hls hD hn σ x 1 99 h1 h2 sz) rfl rfl (Nat.le_of_ble_eq_true rfl) ⟨Nat.le_of_ble_eq_true rfl, Nat.le_of_ble_eq_true rfl⟩ ⟨Nat.zero_le _, Nat.zero_le _⟩ dX7_add_9 ?_
  refine zw_run X (is := [(12, .aload_n 0, 1), (13, .iload_n 1, 1)]) (t' := (14, [some (.ref (ad 0)), some (.int (nI g)), some (.int x), none], [.int (nI g), .ref (ad 0)])) ⟨dX7_add_12, dX7_add_13, trivial⟩ rfl ?_
  refine zw_Vv X hAd (As := [.int (nI g)]) (rest := []) (d := 0) (i := 0) (by omega) zc_0 (q := (RX7, TX7, 16)) rfl ⟨zm_240, zm_241, zm_242, zm_2, zm_243, rfl, by decide, by decide, (show (parseMethodDescriptor yX7_needNotOver.desc).map (fun d => d.parameters.length) = some 1 by decide +kernel)⟩ (fun sz => c_needNotOver hls hD hn σ g hg8 ho sz) rfl rfl (Nat.le_of_ble_eq_true rfl) ⟨Nat.le_of_ble_eq_true rfl, Nat.le_of_ble_eq_true rfl⟩ ⟨Nat.zero_le _, Nat.zero_le _⟩ dX7_add_14 ?_
  refine zw_run X (is := [(17, .aload_n 0, 1)]) (t' := (18, [some (.ref (ad 0)), some (.int (nI g)), some (.int x), none], [.ref (ad 0)])) ⟨dX7_add_17, trivial⟩ rfl ?_
  refine zw_getf X (i := 0) (by omega) zc_0 (C := RX7) (T := TX7) (Nf := 16) rfl zi_X7 0 (by decide) rfl zm_18 rfl dX7_add_18 ?_
  refine zw_run X (is := [(21, .iload_n 1, 1)]) (t' := (22, [some (.ref (ad 0)), some (.int (nI g)), some (.int x), none], [.int (nI g), .ref (ad 1)])) ⟨dX7_add_21, trivial⟩ rfl ?_
  refine zw_guild X (by omega) (g := g) rfl hg8 dX7_add_22 ?_
  refine zw_getf X (i := 8 + g) (by omega) (zc_G hg8) (C := RX1) (T := TX1) (Nf := 7) rfl zi_X1 6 (by decide) rfl zm_112 rfl dX7_add_23 ?_
  refine zw_run X (is := [(26, .astore_n 3, 1), (27, .aload_n 3, 1)]) (t' := (28, [some (.ref (ad 0)), some (.int (nI g)), some (.int x), some (.ref (ad (16 + g)))], [.ref (ad (16 + g))])) ⟨dX7_add_26, dX7_add_27, trivial⟩ rfl ?_
  refine zw_getf X (i := 16 + g) (by omega) (zc_P hg8) (C := RX4) (T := TX4) (Nf := 7) rfl zi_X4 0 (by decide) rfl zm_280 rfl dX7_add_28 ?_
  refine zw_run X (is := [(31, .iload_n 2, 1), (32, .iadd, 1), (33, .sipush 600, 3)]) (t' := (36, [some (.ref (ad 0)), some (.int (nI g)), some (.int x), some (.ref (ad (16 + g)))], [.int 600, .int ((σ (16 + g) 0) + x)])) ⟨dX7_add_31, dX7_add_32, dX7_add_33, trivial⟩ rfl ?_
  refine zw_icmp_le X (tgt := 49) dX7_add_36 (by decide) (fun h_ => absurd h_ h3) (fun _ => ?_)
  exact zw_throw X hno zTh_uoe (is := 220) (text := "a play has at most 600 lines") (by decide +kernel) rfl rfl dX7_add_39 dX7_add_42 dX7_add_43 dX7_add_45 dX7_add_48 ⟨Nat.le_of_ble_eq_true rfl, Nat.le_of_ble_eq_true rfl, Nat.le_of_ble_eq_true rfl, Nat.le_of_ble_eq_true rfl⟩ ⟨rfl, rfl⟩

set_option maxHeartbeats 4000000 in
set_option maxRecDepth 100000 in
theorem c_add_bad {l : Launch} (hls : l.stackTraces = false) {D : va_G} {cy : Nat → ClassId} {wa : Nat → Nat} {N n : Nat} {ad : Nat → Nat} (hD : zD n ad) (hn : 40 ≤ n) (σ : zS) (gc : Nat) (hgc : gc ≤ 8) (e0 : σ 0 11 = nI gc) (g : Nat) (hg : g < gc)  (sz : Nat) : vx_Met l yX7_add (.code yX7_add cX7_add 4 (some .int) :: zB) (zRx 2) (zPc [.ref (ad 0), .int (nI g), .int 100] D cy wa N n ad σ sz) zNo (zXC "java/lang/IllegalArgumentException" D cy N n ad (σ) sz) 1 6 (zA n ad sz) := by
  refine z_metx (by decide) hls (List.forall_mem_cons.mpr ⟨rfl, (List.forall_mem_cons.mpr ⟨rfl, (List.forall_mem_cons.mpr ⟨rfl, (fun _ h => nomatch h)⟩)⟩)⟩) (Nat.le_of_ble_eq_true rfl) (fun p_ e_ s_ m_ below_ meth_ c_ hsz hr hno X => ?_)
  have X : zX p_ l s_ m_ [.ref (ad 0), .int (nI g), .int 100].toArray meth_ c_ cX7_add 4 RX7 D cy wa (zA n ad sz) := X
  have hAd : ∀ i, i < n → zA n ad sz (ad i) := fun i hi => Or.inl ⟨i, hi, rfl⟩
  have hg8 : g < 8 := by omega
  refine zw_run X (is := [(0, .aload_n 0, 1), (1, .iload_n 1, 1)]) (t' := (2, [some (.ref (ad 0)), some (.int (nI g)), some (.int 100), none], [.int (nI g), .ref (ad 0)])) ⟨dX7_add_0, dX7_add_1, trivial⟩ rfl ?_
  refine zw_Vv X hAd (As := [.int (nI g)]) (rest := []) (d := 0) (i := 0) (by omega) zc_0 (q := (RX7, TX7, 16)) rfl ⟨zm_135, zm_136, zm_137, zm_2, zm_138, rfl, by decide, by decide, (show (parseMethodDescriptor yX7_needGuild.desc).map (fun d => d.parameters.length) = some 1 by decide +kernel)⟩ (fun sz => c_needGuild hls hD hn σ gc hgc e0 g hg sz) rfl rfl (Nat.le_of_ble_eq_true rfl) ⟨Nat.le_of_ble_eq_true rfl, Nat.le_of_ble_eq_true rfl⟩ ⟨Nat.zero_le _, Nat.zero_le _⟩ dX7_add_2 ?_
  refine zw_run X (is := [(5, .iload_n 2, 1), (6, .iconst 1, 1), (7, .bipush 99, 2)]) (t' := (9, [some (.ref (ad 0)), some (.int (nI g)), some (.int 100), none], [.int 99, .int 1, .int 100])) ⟨dX7_add_5, dX7_add_6, dX7_add_7, trivial⟩ rfl ?_
  exact zw_So X hno hAd rfl (As := [.int 100, .int 1, .int 99]) (rest := []) (d := 0) ⟨zm_114, zm_115, zm_2, zm_116, by decide, by decide, (show (parseMethodDescriptor yX7_needRange.desc).map (fun d => d.parameters.length) = some 3 by decide +kernel)⟩ (fun sz => c_needRange_hi hls hD hn σ 100 1 99 (by decide) (by decide) sz) rfl rfl (Nat.le_of_ble_eq_true rfl) ⟨Nat.le_of_ble_eq_true rfl, Nat.le_of_ble_eq_true rfl⟩ ⟨Nat.le_of_ble_eq_true rfl, Nat.le_of_ble_eq_true rfl⟩ dX7_add_9

set_option maxHeartbeats 4000000 in
set_option maxRecDepth 100000 in
theorem c_merge {l : Launch} (hls : l.stackTraces = false) {D : va_G} {cy : Nat → ClassId} {wa : Nat → Nat} {N n : Nat} {ad : Nat → Nat} (hD : zD n ad) (hn : 40 ≤ n) (σ : zS) (gc : Nat) (hgc : gc ≤ 8) (e0 : σ 0 11 = nI gc) (g : Nat) (hg : g < gc) (h : Nat) (hh : h < gc) (hne : g ≠ h) (ho : σ (8 + g) 2 = 0) (ho2 : σ (8 + h) 2 = 0) (sz : Nat) : Met l yX7_merge (.code yX7_merge cX7_merge 5 (some .int) :: zB) (zRm 2) (zPc [.ref (ad 0), .int (nI g), .int (nI h)] D cy wa N n ad σ sz) (zQi ((zu (zu (zu σ (8 + h) 0 ((σ (8 + h) 0) + (σ (8 + g) 0))) (8 + g) 0 0) (8 + g) 2 1) (8 + h) 0) D cy N n ad (zu (zu (zu σ (8 + h) 0 ((σ (8 + h) 0) + (σ (8 + g) 0))) (8 + g) 0 0) (8 + g) 2 1) sz) 0 0 (zA n ad sz) := by
  refine z_met (by decide) hls (List.forall_mem_cons.mpr ⟨rfl, (List.forall_mem_cons.mpr ⟨rfl, (List.forall_mem_cons.mpr ⟨rfl, (fun _ h => nomatch h)⟩)⟩)⟩) (Nat.le_of_ble_eq_true rfl) (fun p_ e_ s_ m_ below_ meth_ c_ hsz hr X => ?_)
  have X : zX p_ l s_ m_ [.ref (ad 0), .int (nI g), .int (nI h)].toArray meth_ c_ cX7_merge 5 RX7 D cy wa (zA n ad sz) := X
  have hAd : ∀ i, i < n → zA n ad sz (ad i) := fun i hi => Or.inl ⟨i, hi, rfl⟩
  have hg8 : g < 8 := by omega
  have hh8 : h < 8 := by omega
  refine zw_run X (is := [(0, .aload_n 0, 1), (1, .iload_n 1, 1)]) (t' := (2, [some (.ref (ad 0)), some (.int (nI g)), some (.int (nI h)), none, none], [.int (nI g), .ref (ad 0)])) ⟨dX7_merge_0, dX7_merge_1, trivial⟩ rfl ?_
  refine zw_Vv X hAd (As := [.int (nI g)]) (rest := []) (d := 0) (i := 0) (by omega) zc_0 (q := (RX7, TX7, 16)) rfl ⟨zm_135, zm_136, zm_137, zm_2, zm_138, rfl, by decide, by decide, (show (parseMethodDescriptor yX7_needGuild.desc).map (fun d => d.parameters.length) = some 1 by decide +kernel)⟩ (fun sz => c_needGuild hls hD hn σ gc hgc e0 g hg sz) rfl rfl (Nat.le_of_ble_eq_true rfl) ⟨Nat.le_of_ble_eq_true rfl, Nat.le_of_ble_eq_true rfl⟩ ⟨Nat.zero_le _, Nat.zero_le _⟩ dX7_merge_2 ?_
  refine zw_run X (is := [(5, .aload_n 0, 1), (6, .iload_n 2, 1)]) (t' := (7, [some (.ref (ad 0)), some (.int (nI g)), some (.int (nI h)), none, none], [.int (nI h), .ref (ad 0)])) ⟨dX7_merge_5, dX7_merge_6, trivial⟩ rfl ?_
  refine zw_Vv X hAd (As := [.int (nI h)]) (rest := []) (d := 0) (i := 0) (by omega) zc_0 (q := (RX7, TX7, 16)) rfl ⟨zm_135, zm_136, zm_137, zm_2, zm_138, rfl, by decide, by decide, (show (parseMethodDescriptor yX7_needGuild.desc).map (fun d => d.parameters.length) = some 1 by decide +kernel)⟩ (fun sz => c_needGuild hls hD hn σ gc hgc e0 h hh sz) rfl rfl (Nat.le_of_ble_eq_true rfl) ⟨Nat.le_of_ble_eq_true rfl, Nat.le_of_ble_eq_true rfl⟩ ⟨Nat.zero_le _, Nat.zero_le _⟩ dX7_merge_7 ?_
  refine zw_run X (is := [(10, .iload_n 1, 1), (11, .iload_n 2, 1)]) (t' := (12, [some (.ref (ad 0)), some (.int (nI g)), some (.int (nI h)), none, none], [.int (nI h), .int (nI g)])) ⟨dX7_merge_10, dX7_merge_11, trivial⟩ rfl ?_
  refine zw_icmp_ne X (tgt := 25) dX7_merge_12 (by decide) (fun h_ => ?_) (fun h_ => absurd h_ (fun q => hne ((nI_eq (by omega) (by omega)).mp q)))
  refine zw_run X (is := [(25, .aload_n 0, 1), (26, .iload_n 1, 1)]) (t' := (27, [some (.ref (ad 0)), some (.int (nI g)), some (.int (nI h)), none, none], [.int (nI g), .ref (ad 0)])) ⟨dX7_merge_25, dX7_merge_26, trivial⟩ rfl ?_
  refine zw_Vv X hAd (As := [.int (nI g)]) (rest := []) (d := 0) (i := 0) (by omega) zc_0 (q := (RX7, TX7, 16)) rfl ⟨zm_240, zm_241, zm_242, zm_2, zm_243, rfl, by decide, by decide, (show (parseMethodDescriptor yX7_needNotOver.desc).map (fun d => d.parameters.length) = some 1 by decide +kernel)⟩ (fun sz => c_needNotOver hls hD hn σ g hg8 ho sz) rfl rfl (Nat.le_of_ble_eq_true rfl) ⟨Nat.le_of_ble_eq_true rfl, Nat.le_of_ble_eq_true rfl⟩ ⟨Nat.zero_le _, Nat.zero_le _⟩ dX7_merge_27 ?_
  refine zw_run X (is := [(30, .aload_n 0, 1), (31, .iload_n 2, 1)]) (t' := (32, [some (.ref (ad 0)), some (.int (nI g)), some (.int (nI h)), none, none], [.int (nI h), .ref (ad 0)])) ⟨dX7_merge_30, dX7_merge_31, trivial⟩ rfl ?_
  refine zw_Vv X hAd (As := [.int (nI h)]) (rest := []) (d := 0) (i := 0) (by omega) zc_0 (q := (RX7, TX7, 16)) rfl ⟨zm_240, zm_241, zm_242, zm_2, zm_243, rfl, by decide, by decide, (show (parseMethodDescriptor yX7_needNotOver.desc).map (fun d => d.parameters.length) = some 1 by decide +kernel)⟩ (fun sz => c_needNotOver hls hD hn σ h hh8 ho2 sz) rfl rfl (Nat.le_of_ble_eq_true rfl) ⟨Nat.le_of_ble_eq_true rfl, Nat.le_of_ble_eq_true rfl⟩ ⟨Nat.zero_le _, Nat.zero_le _⟩ dX7_merge_32 ?_
  refine zw_run X (is := [(35, .aload_n 0, 1)]) (t' := (36, [some (.ref (ad 0)), some (.int (nI g)), some (.int (nI h)), none, none], [.ref (ad 0)])) ⟨dX7_merge_35, trivial⟩ rfl ?_
  refine zw_getf X (i := 0) (by omega) zc_0 (C := RX7) (T := TX7) (Nf := 16) rfl zi_X7 0 (by decide) rfl zm_18 rfl dX7_merge_36 ?_
  refine zw_run X (is := [(39, .iload_n 1, 1)]) (t' := (40, [some (.ref (ad 0)), some (.int (nI g)), some (.int (nI h)), none, none], [.int (nI g), .ref (ad 1)])) ⟨dX7_merge_39, trivial⟩ rfl ?_
  refine zw_guild X (by omega) (g := g) rfl hg8 dX7_merge_40 ?_
  refine zw_run X (is := [(41, .astore_n 3, 1), (42, .aload_n 0, 1)]) (t' := (43, [some (.ref (ad 0)), some (.int (nI g)), some (.int (nI h)), some (.ref (ad (8 + g))), none], [.ref (ad 0)])) ⟨dX7_merge_41, dX7_merge_42, trivial⟩ rfl ?_
  refine zw_getf X (i := 0) (by omega) zc_0 (C := RX7) (T := TX7) (Nf := 16) rfl zi_X7 0 (by decide) rfl zm_18 rfl dX7_merge_43 ?_
  refine zw_run X (is := [(46, .iload_n 2, 1)]) (t' := (47, [some (.ref (ad 0)), some (.int (nI g)), some (.int (nI h)), some (.ref (ad (8 + g))), none], [.int (nI h), .ref (ad 1)])) ⟨dX7_merge_46, trivial⟩ rfl ?_
  refine zw_guild X (by omega) (g := h) rfl hh8 dX7_merge_47 ?_
  refine zw_run X (is := [(48, .astore 4, 2), (50, .aload 4, 2), (52, .dup, 1)]) (t' := (53, [some (.ref (ad 0)), some (.int (nI g)), some (.int (nI h)), some (.ref (ad (8 + g))), some (.ref (ad (8 + h)))], [.ref (ad (8 + h)), .ref (ad (8 + h))])) ⟨dX7_merge_48, dX7_merge_50, dX7_merge_52, trivial⟩ rfl ?_
  refine zw_getf X (i := 8 + h) (by omega) (zc_G hh8) (C := RX1) (T := TX1) (Nf := 7) rfl zi_X1 0 (by decide) rfl zm_111 rfl dX7_merge_53 ?_
  refine zw_run X (is := [(56, .aload_n 3, 1)]) (t' := (57, [some (.ref (ad 0)), some (.int (nI g)), some (.int (nI h)), some (.ref (ad (8 + g))), some (.ref (ad (8 + h)))], [.ref (ad (8 + g)), .int (σ (8 + h) 0), .ref (ad (8 + h))])) ⟨dX7_merge_56, trivial⟩ rfl ?_
  refine zw_getf X (i := 8 + g) (by omega) (zc_G hg8) (C := RX1) (T := TX1) (Nf := 7) rfl zi_X1 0 (by decide) rfl zm_111 rfl dX7_merge_57 ?_
  refine zw_run X (is := [(60, .iadd, 1)]) (t' := (61, [some (.ref (ad 0)), some (.int (nI g)), some (.int (nI h)), some (.ref (ad (8 + g))), some (.ref (ad (8 + h)))], [.int ((σ (8 + h) 0) + (σ (8 + g) 0)), .ref (ad (8 + h))])) ⟨dX7_merge_60, trivial⟩ rfl ?_
  refine zw_put X hD hAd (i := 8 + h) (by omega) (zc_G hh8) (C := RX1) (T := TX1) (Nf := 7) rfl zi_X1 tyX1 tyX1_ok nmX1 0 (by decide) rfl rfl zm_111 (ty := .int) (by decide +kernel) rfl rfl (Nat.le_of_ble_eq_true rfl) (zc_G hh8) dX7_merge_61 ?_
  refine zw_run X (is := [(64, .aload_n 3, 1), (65, .iconst 0, 1)]) (t' := (66, [some (.ref (ad 0)), some (.int (nI g)), some (.int (nI h)), some (.ref (ad (8 + g))), some (.ref (ad (8 + h)))], [.int 0, .ref (ad (8 + g))])) ⟨dX7_merge_64, dX7_merge_65, trivial⟩ rfl ?_
  refine zw_put X hD hAd (i := 8 + g) (by omega) (zc_G hg8) (C := RX1) (T := TX1) (Nf := 7) rfl zi_X1 tyX1 tyX1_ok nmX1 0 (by decide) rfl rfl zm_111 (ty := .int) (by decide +kernel) rfl rfl (Nat.le_of_ble_eq_true rfl) (zc_G hg8) dX7_merge_66 ?_
  refine zw_run X (is := [(69, .aload_n 3, 1), (70, .iconst 1, 1)]) (t' := (71, [some (.ref (ad 0)), some (.int (nI g)), some (.int (nI h)), some (.ref (ad (8 + g))), some (.ref (ad (8 + h)))], [.int 1, .ref (ad (8 + g))])) ⟨dX7_merge_69, dX7_merge_70, trivial⟩ rfl ?_
  refine zw_put X hD hAd (i := 8 + g) (by omega) (zc_G hg8) (C := RX1) (T := TX1) (Nf := 7) rfl zi_X1 tyX1 tyX1_ok nmX1 2 (by decide) rfl rfl zm_134 (ty := .boolean) (by decide +kernel) (by decide) (by decide) (Nat.le_of_ble_eq_true rfl) (zc_G hg8) dX7_merge_71 ?_
  refine zw_run X (is := [(74, .aload 4, 2)]) (t' := (76, [some (.ref (ad 0)), some (.int (nI g)), some (.int (nI h)), some (.ref (ad (8 + g))), some (.ref (ad (8 + h)))], [.ref (ad (8 + h))])) ⟨dX7_merge_74, trivial⟩ rfl ?_
  refine zw_getf X (i := 8 + h) (by omega) (zc_G hh8) (C := RX1) (T := TX1) (Nf := 7) rfl zi_X1 0 (by decide) rfl zm_111 rfl dX7_merge_76 ?_
  exact zw_iret X hr dX7_merge_79 rfl rfl rfl

set_option maxHeartbeats 4000000 in
set_option maxRecDepth 100000 in
theorem c_merge_same {l : Launch} (hls : l.stackTraces = false) {D : va_G} {cy : Nat → ClassId} {wa : Nat → Nat} {N n : Nat} {ad : Nat → Nat} (hD : zD n ad) (hn : 40 ≤ n) (σ : zS) (gc : Nat) (hgc : gc ≤ 8) (e0 : σ 0 11 = nI gc) (g : Nat) (hg : g < gc)  (sz : Nat) : vx_Met l yX7_merge (.code yX7_merge cX7_merge 5 (some .int) :: zB) (zRx 2) (zPc [.ref (ad 0), .int (nI g), .int (nI g)] D cy wa N n ad σ sz) zNo (zXC "java/lang/IllegalArgumentException" D cy N n ad (σ) sz) 1 6 (zA n ad sz) := by
  refine z_metx (by decide) hls (List.forall_mem_cons.mpr ⟨rfl, (List.forall_mem_cons.mpr ⟨rfl, (List.forall_mem_cons.mpr ⟨rfl, (fun _ h => nomatch h)⟩)⟩)⟩) (Nat.le_of_ble_eq_true rfl) (fun p_ e_ s_ m_ below_ meth_ c_ hsz hr hno X => ?_)
  have X : zX p_ l s_ m_ [.ref (ad 0), .int (nI g), .int (nI g)].toArray meth_ c_ cX7_merge 5 RX7 D cy wa (zA n ad sz) := X
  have hAd : ∀ i, i < n → zA n ad sz (ad i) := fun i hi => Or.inl ⟨i, hi, rfl⟩
  have hg8 : g < 8 := by omega
  refine zw_run X (is := [(0, .aload_n 0, 1), (1, .iload_n 1, 1)]) (t' := (2, [some (.ref (ad 0)), some (.int (nI g)), some (.int (nI g)), none, none], [.int (nI g), .ref (ad 0)])) ⟨dX7_merge_0, dX7_merge_1, trivial⟩ rfl ?_
  refine zw_Vv X hAd (As := [.int (nI g)]) (rest := []) (d := 0) (i := 0) (by omega) zc_0 (q := (RX7, TX7, 16)) rfl ⟨zm_135, zm_136, zm_137, zm_2, zm_138, rfl, by decide, by decide, (show (parseMethodDescriptor yX7_needGuild.desc).map (fun d => d.parameters.length) = some 1 by decide +kernel)⟩ (fun sz => c_needGuild hls hD hn σ gc hgc e0 g hg sz) rfl rfl (Nat.le_of_ble_eq_true rfl) ⟨Nat.le_of_ble_eq_true rfl, Nat.le_of_ble_eq_true rfl⟩ ⟨Nat.zero_le _, Nat.zero_le _⟩ dX7_merge_2 ?_
  refine zw_run X (is := [(5, .aload_n 0, 1), (6, .iload_n 2, 1)]) (t' := (7, [some (.ref (ad 0)), some (.int (nI g)), some (.int (nI g)), none, none], [.int (nI g), .ref (ad 0)])) ⟨dX7_merge_5, dX7_merge_6, trivial⟩ rfl ?_
  refine zw_Vv X hAd (As := [.int (nI g)]) (rest := []) (d := 0) (i := 0) (by omega) zc_0 (q := (RX7, TX7, 16)) rfl ⟨zm_135, zm_136, zm_137, zm_2, zm_138, rfl, by decide, by decide, (show (parseMethodDescriptor yX7_needGuild.desc).map (fun d => d.parameters.length) = some 1 by decide +kernel)⟩ (fun sz => c_needGuild hls hD hn σ gc hgc e0 g hg sz) rfl rfl (Nat.le_of_ble_eq_true rfl) ⟨Nat.le_of_ble_eq_true rfl, Nat.le_of_ble_eq_true rfl⟩ ⟨Nat.zero_le _, Nat.zero_le _⟩ dX7_merge_7 ?_
  refine zw_run X (is := [(10, .iload_n 1, 1), (11, .iload_n 2, 1)]) (t' := (12, [some (.ref (ad 0)), some (.int (nI g)), some (.int (nI g)), none, none], [.int (nI g), .int (nI g)])) ⟨dX7_merge_10, dX7_merge_11, trivial⟩ rfl ?_
  refine zw_icmp_ne X (tgt := 25) dX7_merge_12 (by decide) (fun h_ => absurd rfl h_) (fun h_ => ?_)
  exact zw_throw X hno zTh_iae (is := 94) (text := "a guild is not merged into itself") (by decide +kernel) rfl rfl dX7_merge_15 dX7_merge_18 dX7_merge_19 dX7_merge_21 dX7_merge_24 ⟨Nat.le_of_ble_eq_true rfl, Nat.le_of_ble_eq_true rfl, Nat.le_of_ble_eq_true rfl, Nat.le_of_ble_eq_true rfl⟩ ⟨rfl, rfl⟩

set_option maxHeartbeats 4000000 in
set_option maxRecDepth 100000 in
theorem c_merge_over {l : Launch} (hls : l.stackTraces = false) {D : va_G} {cy : Nat → ClassId} {wa : Nat → Nat} {N n : Nat} {ad : Nat → Nat} (hD : zD n ad) (hn : 40 ≤ n) (σ : zS) (gc : Nat) (hgc : gc ≤ 8) (e0 : σ 0 11 = nI gc) (g : Nat) (hg : g < gc) (h : Nat) (hh : h < gc) (hne : g ≠ h) (ho : ¬ σ (8 + g) 2 = 0) (sz : Nat) : vx_Met l yX7_merge (.code yX7_merge cX7_merge 5 (some .int) :: zB) (zRx 2) (zPc [.ref (ad 0), .int (nI g), .int (nI h)] D cy wa N n ad σ sz) zNo (zXC "java/lang/UnsupportedOperationException" D cy N n ad (σ) sz) 1 6 (zA n ad sz) := by
  refine z_metx (by decide) hls (List.forall_mem_cons.mpr ⟨rfl, (List.forall_mem_cons.mpr ⟨rfl, (List.forall_mem_cons.mpr ⟨rfl, (fun _ h => nomatch h)⟩)⟩)⟩) (Nat.le_of_ble_eq_true rfl) (fun p_ e_ s_ m_ below_ meth_ c_ hsz hr hno X => ?_)
  have X : zX p_ l s_ m_ [.ref (ad 0), .int (nI g), .int (nI h)].toArray meth_ c_ cX7_merge 5 RX7 D cy wa (zA n ad sz) := X
  have hAd : ∀ i, i < n → zA n ad sz (ad i) := fun i hi => Or.inl ⟨i, hi, rfl⟩
  have hg8 : g < 8 := by omega
  have hh8 : h < 8 := by omega
  refine zw_run X (is := [(0, .aload_n 0, 1), (1, .iload_n 1, 1)]) (t' := (2, [some (.ref (ad 0)), some (.int (nI g)), some (.int (nI h)), none, none], [.int (nI g), .ref (ad 0)])) ⟨dX7_merge_0, dX7_merge_1, trivial⟩ rfl ?_
  refine zw_Vv X hAd (As := [.int (nI g)]) (rest := []) (d := 0) (i := 0) (by omega) zc_0 (q := (RX7, TX7, 16)) rfl ⟨zm_135, zm_136, zm_137, zm_2, zm_138, rfl, by decide, by decide, (show (parseMethodDescriptor yX7_needGuild.desc).map (fun d => d.parameters.length) = some 1 by decide +kernel)⟩ (fun sz => c_needGuild hls hD hn σ gc hgc e0 g hg sz) rfl rfl (Nat.le_of_ble_eq_true rfl) ⟨Nat.le_of_ble_eq_true rfl, Nat.le_of_ble_eq_true rfl⟩ ⟨Nat.zero_le _, Nat.zero_le _⟩ dX7_merge_2 ?_
  refine zw_run X (is := [(5, .aload_n 0, 1), (6, .iload_n 2, 1)]) (t' := (7, [some (.ref (ad 0)), some (.int (nI g)), some (.int (nI h)), none, none], [.int (nI h), .ref (ad 0)])) ⟨dX7_merge_5, dX7_merge_6, trivial⟩ rfl ?_
  refine zw_Vv X hAd (As := [.int (nI h)]) (rest := []) (d := 0) (i := 0) (by omega) zc_0 (q := (RX7, TX7, 16)) rfl ⟨zm_135, zm_136, zm_137, zm_2, zm_138, rfl, by decide, by decide, (show (parseMethodDescriptor yX7_needGuild.desc).map (fun d => d.parameters.length) = some 1 by decide +kernel)⟩ (fun sz => c_needGuild hls hD hn σ gc hgc e0 h hh sz) rfl rfl (Nat.le_of_ble_eq_true rfl) ⟨Nat.le_of_ble_eq_true rfl, Nat.le_of_ble_eq_true rfl⟩ ⟨Nat.zero_le _, Nat.zero_le _⟩ dX7_merge_7 ?_
  refine zw_run X (is := [(10, .iload_n 1, 1), (11, .iload_n 2, 1)]) (t' := (12, [some (.ref (ad 0)), some (.int (nI g)), some (.int (nI h)), none, none], [.int (nI h), .int (nI g)])) ⟨dX7_merge_10, dX7_merge_11, trivial⟩ rfl ?_
  refine zw_icmp_ne X (tgt := 25) dX7_merge_12 (by decide) (fun h_ => ?_) (fun h_ => absurd h_ (fun q => hne ((nI_eq (by omega) (by omega)).mp q)))
  refine zw_run X (is := [(25, .aload_n 0, 1), (26, .iload_n 1, 1)]) (t' := (27, [some (.ref (ad 0)), some (.int (nI g)), some (.int (nI h)), none, none], [.int (nI g), .ref (ad 0)])) ⟨dX7_merge_25, dX7_merge_26, trivial⟩ rfl ?_
  exact zw_Vo X hno hAd rfl (As := [.int (nI g)]) (rest := []) (d := 0) (i := 0) (by omega) zc_0 (q := (RX7, TX7, 16)) rfl ⟨zm_240, zm_241, zm_242, zm_2, zm_243, rfl, by decide, by decide, (show (parseMethodDescriptor yX7_needNotOver.desc).map (fun d => d.parameters.length) = some 1 by decide +kernel)⟩ (fun sz => c_needNotOver_x hls hD hn σ g hg8 ho sz) rfl rfl (Nat.le_of_ble_eq_true rfl) ⟨Nat.le_of_ble_eq_true rfl, Nat.le_of_ble_eq_true rfl⟩ ⟨Nat.le_of_ble_eq_true rfl, Nat.le_of_ble_eq_true rfl⟩ dX7_merge_27

set_option maxHeartbeats 4000000 in
set_option maxRecDepth 100000 in
theorem c_merge_over2 {l : Launch} (hls : l.stackTraces = false) {D : va_G} {cy : Nat → ClassId} {wa : Nat → Nat} {N n : Nat} {ad : Nat → Nat} (hD : zD n ad) (hn : 40 ≤ n) (σ : zS) (gc : Nat) (hgc : gc ≤ 8) (e0 : σ 0 11 = nI gc) (g : Nat) (hg : g < gc) (h : Nat) (hh : h < gc) (hne : g ≠ h) (ho : σ (8 + g) 2 = 0) (ho2 : ¬ σ (8 + h) 2 = 0) (sz : Nat) : vx_Met l yX7_merge (.code yX7_merge cX7_merge 5 (some .int) :: zB) (zRx 2) (zPc [.ref (ad 0), .int (nI g), .int (nI h)] D cy wa N n ad σ sz) zNo (zXC "java/lang/UnsupportedOperationException" D cy N n ad (σ) sz) 1 6 (zA n ad sz) := by
  refine z_metx (by decide) hls (List.forall_mem_cons.mpr ⟨rfl, (List.forall_mem_cons.mpr ⟨rfl, (List.forall_mem_cons.mpr ⟨rfl, (fun _ h => nomatch h)⟩)⟩)⟩) (Nat.le_of_ble_eq_true rfl) (fun p_ e_ s_ m_ below_ meth_ c_ hsz hr hno X => ?_)
  have X : zX p_ l s_ m_ [.ref (ad 0), .int (nI g), .int (nI h)].toArray meth_ c_ cX7_merge 5 RX7 D cy wa (zA n ad sz) := X
  have hAd : ∀ i, i < n → zA n ad sz (ad i) := fun i hi => Or.inl ⟨i, hi, rfl⟩
  have hg8 : g < 8 := by omega
  have hh8 : h < 8 := by omega
  refine zw_run X (is := [(0, .aload_n 0, 1), (1, .iload_n 1, 1)]) (t' := (2, [some (.ref (ad 0)), some (.int (nI g)), some (.int (nI h)), none, none], [.int (nI g), .ref (ad 0)])) ⟨dX7_merge_0, dX7_merge_1, trivial⟩ rfl ?_
  refine zw_Vv X hAd (As := [.int (nI g)]) (rest := []) (d := 0) (i := 0) (by omega) zc_0 (q := (RX7, TX7, 16)) rfl ⟨zm_135, zm_136, zm_137, zm_2, zm_138, rfl, by decide, by decide, (show (parseMethodDescriptor yX7_needGuild.desc).map (fun d => d.parameters.length) = some 1 by decide +kernel)⟩ (fun sz => c_needGuild hls hD hn σ gc hgc e0 g hg sz) rfl rfl (Nat.le_of_ble_eq_true rfl) ⟨Nat.le_of_ble_eq_true rfl, Nat.le_of_ble_eq_true rfl⟩ ⟨Nat.zero_le _, Nat.zero_le _⟩ dX7_merge_2 ?_
  refine zw_run X (is := [(5, .aload_n 0, 1), (6, .iload_n 2, 1)]) (t' := (7, [some (.ref (ad 0)), some (.int (nI g)), some (.int (nI h)), none, none], [.int (nI h), .ref (ad 0)])) ⟨dX7_merge_5, dX7_merge_6, trivial⟩ rfl ?_
  refine zw_Vv X hAd (As := [.int (nI h)]) (rest := []) (d := 0) (i := 0) (by omega) zc_0 (q := (RX7, TX7, 16)) rfl ⟨zm_135, zm_136, zm_137, zm_2, zm_138, rfl, by decide, by decide, (show (parseMethodDescriptor yX7_needGuild.desc).map (fun d => d.parameters.length) = some 1 by decide +kernel)⟩ (fun sz => c_needGuild hls hD hn σ gc hgc e0 h hh sz) rfl rfl (Nat.le_of_ble_eq_true rfl) ⟨Nat.le_of_ble_eq_true rfl, Nat.le_of_ble_eq_true rfl⟩ ⟨Nat.zero_le _, Nat.zero_le _⟩ dX7_merge_7 ?_
  refine zw_run X (is := [(10, .iload_n 1, 1), (11, .iload_n 2, 1)]) (t' := (12, [some (.ref (ad 0)), some (.int (nI g)), some (.int (nI h)), none, none], [.int (nI h), .int (nI g)])) ⟨dX7_merge_10, dX7_merge_11, trivial⟩ rfl ?_
  refine zw_icmp_ne X (tgt := 25) dX7_merge_12 (by decide) (fun h_ => ?_) (fun h_ => absurd h_ (fun q => hne ((nI_eq (by omega) (by omega)).mp q)))
  refine zw_run X (is := [(25, .aload_n 0, 1), (26, .iload_n 1, 1)]) (t' := (27, [some (.ref (ad 0)), some (.int (nI g)), some (.int (nI h)), none, none], [.int (nI g), .ref (ad 0)])) ⟨dX7_merge_25, dX7_merge_26, trivial⟩ rfl ?_
  refine zw_Vv X hAd (As := [.int (nI g)]) (rest := []) (d := 0) (i := 0) (by omega) zc_0 (q := (RX7, TX7, 16)) rfl ⟨zm_240, zm_241, zm_242, zm_2, zm_243, rfl, by decide, by decide, (show (parseMethodDescriptor yX7_needNotOver.desc).map (fun d => d.parameters.length) = some 1 by decide +kernel)⟩ (fun sz => c_needNotOver hls hD hn σ g hg8 ho sz) rfl rfl (Nat.le_of_ble_eq_true rfl) ⟨Nat.le_of_ble_eq_true rfl, Nat.le_of_ble_eq_true rfl⟩ ⟨Nat.zero_le _, Nat.zero_le _⟩ dX7_merge_27 ?_
  refine zw_run X (is := [(30, .aload_n 0, 1), (31, .iload_n 2, 1)]) (t' := (32, [some (.ref (ad 0)), some (.int (nI g)), some (.int (nI h)), none, none], [.int (nI h), .ref (ad 0)])) ⟨dX7_merge_30, dX7_merge_31, trivial⟩ rfl ?_
  exact zw_Vo X hno hAd rfl (As := [.int (nI h)]) (rest := []) (d := 0) (i := 0) (by omega) zc_0 (q := (RX7, TX7, 16)) rfl ⟨zm_240, zm_241, zm_242, zm_2, zm_243, rfl, by decide, by decide, (show (parseMethodDescriptor yX7_needNotOver.desc).map (fun d => d.parameters.length) = some 1 by decide +kernel)⟩ (fun sz => c_needNotOver_x hls hD hn σ h hh8 ho2 sz) rfl rfl (Nat.le_of_ble_eq_true rfl) ⟨Nat.le_of_ble_eq_true rfl, Nat.le_of_ble_eq_true rfl⟩ ⟨Nat.le_of_ble_eq_true rfl, Nat.le_of_ble_eq_true rfl⟩ dX7_merge_32

set_option maxHeartbeats 4000000 in
set_option maxRecDepth 100000 in
theorem c_leaves {l : Launch} (hls : l.stackTraces = false) {D : va_G} {cy : Nat → ClassId} {wa : Nat → Nat} {N n : Nat} {ad : Nat → Nat} (hD : zD n ad) (hn : 40 ≤ n) (σ : zS) (gc : Nat) (hgc : gc ≤ 8) (e0 : σ 0 11 = nI gc) (g : Nat) (hg : g < gc)  (sz : Nat) : Met l yX7_leaves (.code yX7_leaves cX7_leaves 2 (some .int) :: zB) (zRm 2) (zPc [.ref (ad 0), .int (nI g)] D cy wa N n ad σ sz) (zQi ((σ (16 + g) 4 + 40 - 1) / 40) D cy N n ad (σ) sz) 0 0 (zA n ad sz) := by
  refine z_met (by decide) hls (List.forall_mem_cons.mpr ⟨rfl, (List.forall_mem_cons.mpr ⟨rfl, (fun _ h => nomatch h)⟩)⟩) (Nat.le_of_ble_eq_true rfl) (fun p_ e_ s_ m_ below_ meth_ c_ hsz hr X => ?_)
  have X : zX p_ l s_ m_ [.ref (ad 0), .int (nI g)].toArray meth_ c_ cX7_leaves 2 RX7 D cy wa (zA n ad sz) := X
  have hAd : ∀ i, i < n → zA n ad sz (ad i) := fun i hi => Or.inl ⟨i, hi, rfl⟩
  have hg8 : g < 8 := by omega
  refine zw_run X (is := [(0, .aload_n 0, 1), (1, .iload_n 1, 1)]) (t' := (2, [some (.ref (ad 0)), some (.int (nI g))], [.int (nI g), .ref (ad 0)])) ⟨dX7_leaves_0, dX7_leaves_1, trivial⟩ rfl ?_
  refine zw_Vv X hAd (As := [.int (nI g)]) (rest := []) (d := 0) (i := 0) (by omega) zc_0 (q := (RX7, TX7, 16)) rfl ⟨zm_135, zm_136, zm_137, zm_2, zm_138, rfl, by decide, by decide, (show (parseMethodDescriptor yX7_needGuild.desc).map (fun d => d.parameters.length) = some 1 by decide +kernel)⟩ (fun sz => c_needGuild hls hD hn σ gc hgc e0 g hg sz) rfl rfl (Nat.le_of_ble_eq_true rfl) ⟨Nat.le_of_ble_eq_true rfl, Nat.le_of_ble_eq_true rfl⟩ ⟨Nat.zero_le _, Nat.zero_le _⟩ dX7_leaves_2 ?_
  refine zw_run X (is := [(5, .aload_n 0, 1)]) (t' := (6, [some (.ref (ad 0)), some (.int (nI g))], [.ref (ad 0)])) ⟨dX7_leaves_5, trivial⟩ rfl ?_
  refine zw_getf X (i := 0) (by omega) zc_0 (C := RX7) (T := TX7) (Nf := 16) rfl zi_X7 0 (by decide) rfl zm_18 rfl dX7_leaves_6 ?_
  refine zw_run X (is := [(9, .iload_n 1, 1)]) (t' := (10, [some (.ref (ad 0)), some (.int (nI g))], [.int (nI g), .ref (ad 1)])) ⟨dX7_leaves_9, trivial⟩ rfl ?_
  refine zw_guild X (by omega) (g := g) rfl hg8 dX7_leaves_10 ?_
  refine zw_getf X (i := 8 + g) (by omega) (zc_G hg8) (C := RX1) (T := TX1) (Nf := 7) rfl zi_X1 6 (by decide) rfl zm_112 rfl dX7_leaves_11 ?_
  refine zw_Vi X hAd (As := []) (rest := []) (d := 0) (i := 16 + g) (by omega) (zc_P hg8) (q := (RX4, TX4, 7)) rfl ⟨zm_292, zm_293, zm_294, zm_81, zm_295, rfl, by decide, by decide, (show (parseMethodDescriptor yX4_leafCount.desc).map (fun d => d.parameters.length) = some 0 by decide +kernel)⟩ (fun sz => c_leafCount hls hD hn σ g hg8 sz) rfl rfl (Nat.le_of_ble_eq_true rfl) ⟨Nat.le_of_ble_eq_true rfl, Nat.le_of_ble_eq_true rfl⟩ ⟨Nat.zero_le _, Nat.zero_le _⟩ dX7_leaves_14 ?_
  exact zw_iret X hr dX7_leaves_17 rfl rfl rfl

set_option maxHeartbeats 4000000 in
set_option maxRecDepth 100000 in
theorem c_town {l : Launch} (hls : l.stackTraces = false) {D : va_G} {cy : Nat → ClassId} {wa : Nat → Nat} {N n : Nat} {ad : Nat → Nat} (hD : zD n ad) (hn : 40 ≤ n) (σ : zS)  (sz : Nat) : Met l yX7_town (.code yX7_town cX7_town 1 (some .int) :: zB) (zRm 2) (zPc [.ref (ad 0)] D cy wa N n ad σ sz) (zQi (σ (0) 13) D cy N n ad (σ) sz) 0 0 (zA n ad sz) := by
  refine z_met (by decide) hls (List.forall_mem_cons.mpr ⟨rfl, (fun _ h => nomatch h)⟩) (Nat.le_of_ble_eq_true rfl) (fun p_ e_ s_ m_ below_ meth_ c_ hsz hr X => ?_)
  have X : zX p_ l s_ m_ [.ref (ad 0)].toArray meth_ c_ cX7_town 1 RX7 D cy wa (zA n ad sz) := X
  have hAd : ∀ i, i < n → zA n ad sz (ad i) := fun i hi => Or.inl ⟨i, hi, rfl⟩
  refine zw_run X (is := [(0, .aload_n 0, 1)]) (t' := (1, [some (.ref (ad 0))], [.ref (ad 0)])) ⟨dX7_town_0, trivial⟩ rfl ?_
  refine zw_getf X (i := 0) (by omega) zc_0 (C := RX7) (T := TX7) (Nf := 16) rfl zi_X7 13 (by decide) rfl zm_265 rfl dX7_town_1 ?_
  exact zw_iret X hr dX7_town_4 rfl rfl rfl

set_option maxHeartbeats 4000000 in
set_option maxRecDepth 100000 in
theorem c_wipe {l : Launch} (hls : l.stackTraces = false) {D : va_G} {cy : Nat → ClassId} {wa : Nat → Nat} {N n : Nat} {ad : Nat → Nat} (hD : zD n ad) (hn : 40 ≤ n) (σ : zS)  (sz : Nat) : Met l yX7_wipe (.code yX7_wipe cX7_wipe 2 (some .int) :: zB) (zRm 2) (zPc [.ref (ad 0)] D cy wa N n ad σ sz) (zQi (σ (4) 1) D cy N n ad (zu σ (4) 1 0) sz) 0 0 (zA n ad sz) := by
  refine z_met (by decide) hls (List.forall_mem_cons.mpr ⟨rfl, (fun _ h => nomatch h)⟩) (Nat.le_of_ble_eq_true rfl) (fun p_ e_ s_ m_ below_ meth_ c_ hsz hr X => ?_)
  have X : zX p_ l s_ m_ [.ref (ad 0)].toArray meth_ c_ cX7_wipe 2 RX7 D cy wa (zA n ad sz) := X
  have hAd : ∀ i, i < n → zA n ad sz (ad i) := fun i hi => Or.inl ⟨i, hi, rfl⟩
  refine zw_run X (is := [(0, .aload_n 0, 1)]) (t' := (1, [some (.ref (ad 0)), none], [.ref (ad 0)])) ⟨dX7_wipe_0, trivial⟩ rfl ?_
  refine zw_getf X (i := 0) (by omega) zc_0 (C := RX7) (T := TX7) (Nf := 16) rfl zi_X7 3 (by decide) rfl zm_27 rfl dX7_wipe_1 ?_
  refine zw_getf X (i := 4) (by omega) zc_4 (C := RX2) (T := TX2) (Nf := 2) rfl zi_X2 1 (by decide) rfl zm_223 rfl dX7_wipe_4 ?_
  refine zw_run X (is := [(7, .istore_n 1, 1), (8, .aload_n 0, 1)]) (t' := (9, [some (.ref (ad 0)), some (.int (σ (4) 1))], [.ref (ad 0)])) ⟨dX7_wipe_7, dX7_wipe_8, trivial⟩ rfl ?_
  refine zw_getf X (i := 0) (by omega) zc_0 (C := RX7) (T := TX7) (Nf := 16) rfl zi_X7 3 (by decide) rfl zm_27 rfl dX7_wipe_9 ?_
  refine zw_run X (is := [(12, .iconst 0, 1)]) (t' := (13, [some (.ref (ad 0)), some (.int (σ (4) 1))], [.int 0, .ref (ad 4)])) ⟨dX7_wipe_12, trivial⟩ rfl ?_
  refine zw_put X hD hAd (i := 4) (by omega) zc_4 (C := RX2) (T := TX2) (Nf := 2) rfl zi_X2 tyX2 tyX2_ok nmX2 1 (by decide) rfl rfl zm_223 (ty := .int) (by decide +kernel) rfl rfl (Nat.le_of_ble_eq_true rfl) zc_4 dX7_wipe_13 ?_
  refine zw_run X (is := [(16, .iload_n 1, 1)]) (t' := (17, [some (.ref (ad 0)), some (.int (σ (4) 1))], [.int (σ (4) 1)])) ⟨dX7_wipe_16, trivial⟩ rfl ?_
  exact zw_iret X hr dX7_wipe_17 rfl rfl rfl

set_option maxHeartbeats 4000000 in
set_option maxRecDepth 100000 in
theorem c_append {l : Launch} (hls : l.stackTraces = false) {D : va_G} {cy : Nat → ClassId} {wa : Nat → Nat} {N n : Nat} {ad : Nat → Nat} (hD : zD n ad) (hn : 40 ≤ n) (σ : zS) (k : Nat) (hk : k < 10) (e1 : σ 4 1 = nI k) (x : Int32) (hx : vp_nar .char x = x) (sz : Nat) : Met l yX2_append (.code yX2_append cX2_append 2 none :: zB) (zRm 0) (zPc [.ref (ad 4), .int x] D cy wa N n ad σ sz) (zQv D cy N n ad (zu (zu σ (5) k x) (4) 1 (((zu σ (5) k x) (4) 1) + 1)) sz) 0 0 (zA n ad sz) := by
  refine z_met (by decide) hls (List.forall_mem_cons.mpr ⟨rfl, (List.forall_mem_cons.mpr ⟨rfl, (fun _ h => nomatch h)⟩)⟩) (Nat.le_of_ble_eq_true rfl) (fun p_ e_ s_ m_ below_ meth_ c_ hsz hr X => ?_)
  have X : zX p_ l s_ m_ [.ref (ad 4), .int x].toArray meth_ c_ cX2_append 2 RX2 D cy wa (zA n ad sz) := X
  have hAd : ∀ i, i < n → zA n ad sz (ad i) := fun i hi => Or.inl ⟨i, hi, rfl⟩
  refine zw_run X (is := [(0, .aload_n 0, 1)]) (t' := (1, [some (.ref (ad 4)), some (.int x)], [.ref (ad 4)])) ⟨dX2_append_0, trivial⟩ rfl ?_
  refine zw_getf X (i := 4) (by omega) zc_4 (C := RX2) (T := TX2) (Nf := 2) rfl zi_X2 1 (by decide) rfl zm_166 rfl dX2_append_1 ?_
  refine zw_run X (is := [(4, .bipush 10, 2)]) (t' := (6, [some (.ref (ad 4)), some (.int x)], [.int 10, .int (σ (4) 1)])) ⟨dX2_append_4, trivial⟩ rfl ?_
  refine zw_icmp_ge X (tgt := 29) dX2_append_6 (by decide) (fun h_ => absurd h_ (by rw [e1]; exact nI_ge hk (by decide))) (fun _ => ?_)
  refine zw_run X (is := [(9, .aload_n 0, 1)]) (t' := (10, [some (.ref (ad 4)), some (.int x)], [.ref (ad 4)])) ⟨dX2_append_9, trivial⟩ rfl ?_
  refine zw_getf X (i := 4) (by omega) zc_4 (C := RX2) (T := TX2) (Nf := 2) rfl zi_X2 0 (by decide) rfl zm_55 rfl dX2_append_10 ?_
  refine zw_run X (is := [(13, .aload_n 0, 1)]) (t' := (14, [some (.ref (ad 4)), some (.int x)], [.ref (ad 4), .ref (ad 5)])) ⟨dX2_append_13, trivial⟩ rfl ?_
  refine zw_getf X (i := 4) (by omega) zc_4 (C := RX2) (T := TX2) (Nf := 2) rfl zi_X2 1 (by decide) rfl zm_166 rfl dX2_append_14 ?_
  refine zw_run X (is := [(17, .iload_n 1, 1)]) (t' := (18, [some (.ref (ad 4)), some (.int x)], [.int x, .int (σ (4) 1), .ref (ad 5)])) ⟨dX2_append_17, trivial⟩ rfl ?_
  refine zw_cast X hD hAd (i := 5) (by omega) (len := 10) (fun _ => zc_5) (j := k) e1 hk (by decide) hx dX2_append_18 ?_
  refine zw_run X (is := [(19, .aload_n 0, 1), (20, .dup, 1)]) (t' := (21, [some (.ref (ad 4)), some (.int x)], [.ref (ad 4), .ref (ad 4)])) ⟨dX2_append_19, dX2_append_20, trivial⟩ rfl ?_
  refine zw_getf X (i := 4) (by omega) zc_4 (C := RX2) (T := TX2) (Nf := 2) rfl zi_X2 1 (by decide) rfl zm_166 rfl dX2_append_21 ?_
  refine zw_run X (is := [(24, .iconst 1, 1), (25, .iadd, 1)]) (t' := (26, [some (.ref (ad 4)), some (.int x)], [.int (((zu σ (5) k x) (4) 1) + 1), .ref (ad 4)])) ⟨dX2_append_24, dX2_append_25, trivial⟩ rfl ?_
  refine zw_put X hD hAd (i := 4) (by omega) zc_4 (C := RX2) (T := TX2) (Nf := 2) rfl zi_X2 tyX2 tyX2_ok nmX2 1 (by decide) rfl rfl zm_166 (ty := .int) (by decide +kernel) rfl rfl (Nat.le_of_ble_eq_true rfl) zc_4 dX2_append_26 ?_
  exact zw_vret X hr dX2_append_29 rfl rfl

set_option maxHeartbeats 4000000 in
set_option maxRecDepth 100000 in
theorem c_type {l : Launch} (hls : l.stackTraces = false) {D : va_G} {cy : Nat → ClassId} {wa : Nat → Nat} {N n : Nat} {ad : Nat → Nat} (hD : zD n ad) (hn : 40 ≤ n) (σ : zS) (k : Nat) (hk : k < 10) (e1 : σ 4 1 = nI k) (x : Int32) (h1 : ¬ x < 97) (h2 : x ≤ 122) (hx : vp_nar .char x = x) (sz : Nat) : Met l yX7_type (.code yX7_type cX7_type 2 (some .int) :: zB) (zRm 2) (zPc [.ref (ad 0), .int x] D cy wa N n ad σ sz) (zQi (nI (k + 1)) D cy N n ad (zu (zu σ (5) k x) (4) 1 (zu σ (5) k x (4) 1 + 1)) sz) 0 0 (zA n ad sz) := by
  refine z_met (by decide) hls (List.forall_mem_cons.mpr ⟨rfl, (List.forall_mem_cons.mpr ⟨rfl, (fun _ h => nomatch h)⟩)⟩) (Nat.le_of_ble_eq_true rfl) (fun p_ e_ s_ m_ below_ meth_ c_ hsz hr X => ?_)
  have X : zX p_ l s_ m_ [.ref (ad 0), .int x].toArray meth_ c_ cX7_type 2 RX7 D cy wa (zA n ad sz) := X
  have hAd : ∀ i, i < n → zA n ad sz (ad i) := fun i hi => Or.inl ⟨i, hi, rfl⟩
  refine zw_run X (is := [(0, .iload_n 1, 1), (1, .bipush 97, 2)]) (t' := (3, [some (.ref (ad 0)), some (.int x)], [.int 97, .int x])) ⟨dX7_type_0, dX7_type_1, trivial⟩ rfl ?_
  refine zw_icmp_lt X (tgt := 12) dX7_type_3 (by decide) (fun h_ => absurd h_ h1) (fun _ => ?_)
  refine zw_run X (is := [(6, .iload_n 1, 1), (7, .bipush 122, 2)]) (t' := (9, [some (.ref (ad 0)), some (.int x)], [.int 122, .int x])) ⟨dX7_type_6, dX7_type_7, trivial⟩ rfl ?_
  refine zw_icmp_le X (tgt := 22) dX7_type_9 (by decide) (fun _ => ?_) (fun h_ => absurd h2 h_)
  refine zw_run X (is := [(22, .aload_n 0, 1)]) (t' := (23, [some (.ref (ad 0)), some (.int x)], [.ref (ad 0)])) ⟨dX7_type_22, trivial⟩ rfl ?_
  refine zw_getf X (i := 0) (by omega) zc_0 (C := RX7) (T := TX7) (Nf := 16) rfl zi_X7 3 (by decide) rfl zm_27 rfl dX7_type_23 ?_
  refine zw_getf X (i := 4) (by omega) zc_4 (C := RX2) (T := TX2) (Nf := 2) rfl zi_X2 1 (by decide) rfl zm_223 rfl dX7_type_26 ?_
  refine zw_run X (is := [(29, .bipush 10, 2)]) (t' := (31, [some (.ref (ad 0)), some (.int x)], [.int 10, .int (σ (4) 1)])) ⟨dX7_type_29, trivial⟩ rfl ?_
  refine zw_icmp_lt X (tgt := 44) dX7_type_31 (by decide) (fun _ => ?_) (fun h_ => absurd (by rw [e1]; exact nI_lt hk (by decide)) h_)
  refine zw_run X (is := [(44, .aload_n 0, 1)]) (t' := (45, [some (.ref (ad 0)), some (.int x)], [.ref (ad 0)])) ⟨dX7_type_44, trivial⟩ rfl ?_
  refine zw_getf X (i := 0) (by omega) zc_0 (C := RX7) (T := TX7) (Nf := 16) rfl zi_X7 3 (by decide) rfl zm_27 rfl dX7_type_45 ?_
  refine zw_run X (is := [(48, .iload_n 1, 1)]) (t' := (49, [some (.ref (ad 0)), some (.int x)], [.int x, .ref (ad 4)])) ⟨dX7_type_48, trivial⟩ rfl ?_
  refine zw_Vv X hAd (As := [.int x]) (rest := []) (d := 0) (i := 4) (by omega) zc_4 (q := (RX2, TX2, 2)) rfl ⟨zm_224, zm_225, zm_226, zm_26, zm_227, rfl, by decide, by decide, (show (parseMethodDescriptor yX2_append.desc).map (fun d => d.parameters.length) = some 1 by decide +kernel)⟩ (fun sz => c_append hls hD hn σ k hk e1 x hx sz) rfl rfl (Nat.le_of_ble_eq_true rfl) ⟨Nat.le_of_ble_eq_true rfl, Nat.le_of_ble_eq_true rfl⟩ ⟨Nat.zero_le _, Nat.zero_le _⟩ dX7_type_49 ?_
  refine zw_run X (is := [(52, .aload_n 0, 1)]) (t' := (53, [some (.ref (ad 0)), some (.int x)], [.ref (ad 0)])) ⟨dX7_type_52, trivial⟩ rfl ?_
  refine zw_getf X (i := 0) (by omega) zc_0 (C := RX7) (T := TX7) (Nf := 16) rfl zi_X7 3 (by decide) rfl zm_27 rfl dX7_type_53 ?_
  refine zw_getf X (i := 4) (by omega) zc_4 (C := RX2) (T := TX2) (Nf := 2) rfl zi_X2 1 (by decide) rfl zm_223 rfl dX7_type_56 ?_
  exact zw_iret X hr dX7_type_59 rfl (by rw [zu_s, zu_n (by omega), e1, nI_1]) rfl

set_option maxHeartbeats 4000000 in
set_option maxRecDepth 100000 in
theorem c_type_bad {l : Launch} (hls : l.stackTraces = false) {D : va_G} {cy : Nat → ClassId} {wa : Nat → Nat} {N n : Nat} {ad : Nat → Nat} (hD : zD n ad) (hn : 40 ≤ n) (σ : zS) (x : Int32) (h1 : x < 97) (sz : Nat) : vx_Met l yX7_type (.code yX7_type cX7_type 2 (some .int) :: zB) (zRx 2) (zPc [.ref (ad 0), .int x] D cy wa N n ad σ sz) zNo (zXC "java/lang/IllegalArgumentException" D cy N n ad (σ) sz) 1 6 (zA n ad sz) := by
  refine z_metx (by decide) hls (List.forall_mem_cons.mpr ⟨rfl, (List.forall_mem_cons.mpr ⟨rfl, (fun _ h => nomatch h)⟩)⟩) (Nat.le_of_ble_eq_true rfl) (fun p_ e_ s_ m_ below_ meth_ c_ hsz hr hno X => ?_)
  have X : zX p_ l s_ m_ [.ref (ad 0), .int x].toArray meth_ c_ cX7_type 2 RX7 D cy wa (zA n ad sz) := X
  have hAd : ∀ i, i < n → zA n ad sz (ad i) := fun i hi => Or.inl ⟨i, hi, rfl⟩
  refine zw_run X (is := [(0, .iload_n 1, 1), (1, .bipush 97, 2)]) (t' := (3, [some (.ref (ad 0)), some (.int x)], [.int 97, .int x])) ⟨dX7_type_0, dX7_type_1, trivial⟩ rfl ?_
  refine zw_icmp_lt X (tgt := 12) dX7_type_3 (by decide) (fun _ => ?_) (fun h_ => absurd h1 h_)
  exact zw_throw X hno zTh_iae (is := 125) (text := "no small letter") (by decide +kernel) rfl rfl dX7_type_12 dX7_type_15 dX7_type_16 dX7_type_18 dX7_type_21 ⟨Nat.le_of_ble_eq_true rfl, Nat.le_of_ble_eq_true rfl, Nat.le_of_ble_eq_true rfl, Nat.le_of_ble_eq_true rfl⟩ ⟨rfl, rfl⟩

set_option maxHeartbeats 4000000 in
set_option maxRecDepth 100000 in
theorem c_needStations_x {l : Launch} (hls : l.stackTraces = false) {D : va_G} {cy : Nat → ClassId} {wa : Nat → Nat} {N n : Nat} {ad : Nat → Nat} (hD : zD n ad) (hn : 40 ≤ n) (σ : zS) (e3 : σ 3 2 = 0) (sz : Nat) : vx_Met l yX7_needStations (.code yX7_needStations cX7_needStations 1 none :: zB) (zRx 0) (zPc [.ref (ad 0)] D cy wa N n ad σ sz) zNo (zXC "java/lang/IllegalStateException" D cy N n ad (σ) sz) 1 6 (zA n ad sz) := by
  refine z_metx (by decide) hls (List.forall_mem_cons.mpr ⟨rfl, (fun _ h => nomatch h)⟩) (Nat.le_of_ble_eq_true rfl) (fun p_ e_ s_ m_ below_ meth_ c_ hsz hr hno X => ?_)
  have X : zX p_ l s_ m_ [.ref (ad 0)].toArray meth_ c_ cX7_needStations 1 RX7 D cy wa (zA n ad sz) := X
  have hAd : ∀ i, i < n → zA n ad sz (ad i) := fun i hi => Or.inl ⟨i, hi, rfl⟩
  refine zw_run X (is := [(0, .aload_n 0, 1)]) (t' := (1, [some (.ref (ad 0))], [.ref (ad 0)])) ⟨dX7_needStations_0, trivial⟩ rfl ?_
  refine zw_getf X (i := 0) (by omega) zc_0 (C := RX7) (T := TX7) (Nf := 16) rfl zi_X7 2 (by decide) rfl zm_23 rfl dX7_needStations_1 ?_
  refine zw_getf X (i := 3) (by omega) zc_3 (C := RX0) (T := TX0) (Nf := 3) rfl zi_X0 2 (by decide) rfl zm_364 rfl dX7_needStations_4 ?_
  refine zw_if_ne X (tgt := 21) dX7_needStations_7 (by decide) (fun h_ => absurd e3 h_) (fun h_ => ?_)
  exact zw_throwW X hno zTh_ise (is := 362) (text := "there are no stations") (by decide +kernel) rfl rfl dX7_needStations_10 dX7_needStations_13 dX7_needStations_14 dX7_needStations_17 dX7_needStations_20 ⟨Nat.le_of_ble_eq_true rfl, Nat.le_of_ble_eq_true rfl, Nat.le_of_ble_eq_true rfl, Nat.le_of_ble_eq_true rfl⟩ ⟨rfl, rfl⟩

set_option maxHeartbeats 4000000 in
set_option maxRecDepth 100000 in
theorem c_needDayPlayed_x {l : Launch} (hls : l.stackTraces = false) {D : va_G} {cy : Nat → ClassId} {wa : Nat → Nat} {N n : Nat} {ad : Nat → Nat} (hD : zD n ad) (hn : 40 ≤ n) (σ : zS) (e4 : σ 0 15 = 0) (sz : Nat) : vx_Met l yX7_needDayPlayed (.code yX7_needDayPlayed cX7_needDayPlayed 1 none :: zB) (zRx 0) (zPc [.ref (ad 0)] D cy wa N n ad σ sz) zNo (zXC "java/lang/IllegalStateException" D cy N n ad (σ) sz) 1 6 (zA n ad sz) := by
  refine z_metx (by decide) hls (List.forall_mem_cons.mpr ⟨rfl, (fun _ h => nomatch h)⟩) (Nat.le_of_ble_eq_true rfl) (fun p_ e_ s_ m_ below_ meth_ c_ hsz hr hno X => ?_)
  have X : zX p_ l s_ m_ [.ref (ad 0)].toArray meth_ c_ cX7_needDayPlayed 1 RX7 D cy wa (zA n ad sz) := X
  have hAd : ∀ i, i < n → zA n ad sz (ad i) := fun i hi => Or.inl ⟨i, hi, rfl⟩
  refine zw_run X (is := [(0, .aload_n 0, 1)]) (t' := (1, [some (.ref (ad 0))], [.ref (ad 0)])) ⟨dX7_needDayPlayed_0, trivial⟩ rfl ?_
  refine zw_getf X (i := 0) (by omega) zc_0 (C := RX7) (T := TX7) (Nf := 16) rfl zi_X7 15 (by decide) rfl zm_363 rfl dX7_needDayPlayed_1 ?_
  refine zw_if_ne X (tgt := 18) dX7_needDayPlayed_4 (by decide) (fun h_ => absurd e4 h_) (fun h_ => ?_)
  exact zw_throwW X hno zTh_ise (is := 364) (text := "no day was played in this year") (by decide +kernel) rfl rfl dX7_needDayPlayed_7 dX7_needDayPlayed_10 dX7_needDayPlayed_11 dX7_needDayPlayed_14 dX7_needDayPlayed_17 ⟨Nat.le_of_ble_eq_true rfl, Nat.le_of_ble_eq_true rfl, Nat.le_of_ble_eq_true rfl, Nat.le_of_ble_eq_true rfl⟩ ⟨rfl, rfl⟩

set_option maxHeartbeats 4000000 in
set_option maxRecDepth 100000 in
theorem c_day_x {l : Launch} (hls : l.stackTraces = false) {D : va_G} {cy : Nat → ClassId} {wa : Nat → Nat} {N n : Nat} {ad : Nat → Nat} (hD : zD n ad) (hn : 40 ≤ n) (σ : zS) (e3 : σ 3 2 = 0) (sz : Nat) : vx_Met l yX7_day (.code yX7_day cX7_day 2 (some .int) :: zB) (zRx 2) (zPc [.ref (ad 0)] D cy wa N n ad σ sz) zNo (zXC "java/lang/IllegalStateException" D cy N n ad (σ) sz) 1 6 (zA n ad sz) := by
  refine z_metx (by decide) hls (List.forall_mem_cons.mpr ⟨rfl, (fun _ h => nomatch h)⟩) (Nat.le_of_ble_eq_true rfl) (fun p_ e_ s_ m_ below_ meth_ c_ hsz hr hno X => ?_)
  have X : zX p_ l s_ m_ [.ref (ad 0)].toArray meth_ c_ cX7_day 2 RX7 D cy wa (zA n ad sz) := X
  have hAd : ∀ i, i < n → zA n ad sz (ad i) := fun i hi => Or.inl ⟨i, hi, rfl⟩
  refine zw_run X (is := [(0, .aload_n 0, 1)]) (t' := (1, [some (.ref (ad 0)), none], [.ref (ad 0)])) ⟨dX7_day_0, trivial⟩ rfl ?_
  exact zw_Vo X hno hAd rfl (As := []) (rest := []) (d := 0) (i := 0) (by omega) zc_0 (q := (RX7, TX7, 16)) rfl ⟨zm_420, zm_421, zm_422, zm_2, zm_423, rfl, by decide, by decide, (show (parseMethodDescriptor yX7_needStations.desc).map (fun d => d.parameters.length) = some 0 by decide +kernel)⟩ (fun sz => c_needStations_x hls hD hn σ e3 sz) rfl rfl (Nat.le_of_ble_eq_true rfl) ⟨Nat.le_of_ble_eq_true rfl, Nat.le_of_ble_eq_true rfl⟩ ⟨Nat.le_of_ble_eq_true rfl, Nat.le_of_ble_eq_true rfl⟩ dX7_day_1

set_option maxHeartbeats 4000000 in
set_option maxRecDepth 100000 in
theorem c_foresee_x {l : Launch} (hls : l.stackTraces = false) {D : va_G} {cy : Nat → ClassId} {wa : Nat → Nat} {N n : Nat} {ad : Nat → Nat} (hD : zD n ad) (hn : 40 ≤ n) (σ : zS) (e3 : σ 3 2 = 0) (sz : Nat) : vx_Met l yX7_foresee (.code yX7_foresee cX7_foresee 1 (some .int) :: zB) (zRx 2) (zPc [.ref (ad 0)] D cy wa N n ad σ sz) zNo (zXC "java/lang/IllegalStateException" D cy N n ad (σ) sz) 1 6 (zA n ad sz) := by
  refine z_metx (by decide) hls (List.forall_mem_cons.mpr ⟨rfl, (fun _ h => nomatch h)⟩) (Nat.le_of_ble_eq_true rfl) (fun p_ e_ s_ m_ below_ meth_ c_ hsz hr hno X => ?_)
  have X : zX p_ l s_ m_ [.ref (ad 0)].toArray meth_ c_ cX7_foresee 1 RX7 D cy wa (zA n ad sz) := X
  have hAd : ∀ i, i < n → zA n ad sz (ad i) := fun i hi => Or.inl ⟨i, hi, rfl⟩
  refine zw_run X (is := [(0, .aload_n 0, 1)]) (t' := (1, [some (.ref (ad 0))], [.ref (ad 0)])) ⟨dX7_foresee_0, trivial⟩ rfl ?_
  exact zw_Vo X hno hAd rfl (As := []) (rest := []) (d := 0) (i := 0) (by omega) zc_0 (q := (RX7, TX7, 16)) rfl ⟨zm_420, zm_421, zm_422, zm_2, zm_423, rfl, by decide, by decide, (show (parseMethodDescriptor yX7_needStations.desc).map (fun d => d.parameters.length) = some 0 by decide +kernel)⟩ (fun sz => c_needStations_x hls hD hn σ e3 sz) rfl rfl (Nat.le_of_ble_eq_true rfl) ⟨Nat.le_of_ble_eq_true rfl, Nat.le_of_ble_eq_true rfl⟩ ⟨Nat.le_of_ble_eq_true rfl, Nat.le_of_ble_eq_true rfl⟩ dX7_foresee_1

set_option maxHeartbeats 4000000 in
set_option maxRecDepth 100000 in
theorem c_end_x {l : Launch} (hls : l.stackTraces = false) {D : va_G} {cy : Nat → ClassId} {wa : Nat → Nat} {N n : Nat} {ad : Nat → Nat} (hD : zD n ad) (hn : 40 ≤ n) (σ : zS) (e4 : σ 0 15 = 0) (sz : Nat) : vx_Met l yX7_end (.code yX7_end cX7_end 1 (some .int) :: zB) (zRx 2) (zPc [.ref (ad 0)] D cy wa N n ad σ sz) zNo (zXC "java/lang/IllegalStateException" D cy N n ad (σ) sz) 1 6 (zA n ad sz) := by
  refine z_metx (by decide) hls (List.forall_mem_cons.mpr ⟨rfl, (fun _ h => nomatch h)⟩) (Nat.le_of_ble_eq_true rfl) (fun p_ e_ s_ m_ below_ meth_ c_ hsz hr hno X => ?_)
  have X : zX p_ l s_ m_ [.ref (ad 0)].toArray meth_ c_ cX7_end 1 RX7 D cy wa (zA n ad sz) := X
  have hAd : ∀ i, i < n → zA n ad sz (ad i) := fun i hi => Or.inl ⟨i, hi, rfl⟩
  refine zw_run X (is := [(0, .aload_n 0, 1)]) (t' := (1, [some (.ref (ad 0))], [.ref (ad 0)])) ⟨dX7_end_0, trivial⟩ rfl ?_
  exact zw_Vo X hno hAd rfl (As := []) (rest := []) (d := 0) (i := 0) (by omega) zc_0 (q := (RX7, TX7, 16)) rfl ⟨zm_452, zm_453, zm_454, zm_2, zm_455, rfl, by decide, by decide, (show (parseMethodDescriptor yX7_needDayPlayed.desc).map (fun d => d.parameters.length) = some 0 by decide +kernel)⟩ (fun sz => c_needDayPlayed_x hls hD hn σ e4 sz) rfl rfl (Nat.le_of_ble_eq_true rfl) ⟨Nat.le_of_ble_eq_true rfl, Nat.le_of_ble_eq_true rfl⟩ ⟨Nat.le_of_ble_eq_true rfl, Nat.le_of_ble_eq_true rfl⟩ dX7_end_1
end
section
set_option maxHeartbeats 4000000 in
set_option maxRecDepth 100000 in
theorem lp_placeOf {p : Program} {l : Launch} {e : Env} {R : Room} {s : State} {m : MethodId} {args : Array Value} {below : List Frame} {meth : Method} {c : Code} {D : va_G} {cy : Nat → ClassId} {wa : Nat → Nat} {N : Nat} {A : Nat → Prop} {n : Nat} {ad : Nat → Nat} {cells slots : Nat} {Q : State → Prop} (X : zX p l s m args meth c cX7_placeOf 3 RX7 D cy wa A) (hD : zD n ad) (hAd : ∀ i, i < n → A (ad i)) (hn : 40 ≤ n) (σ : zS) (gc : Nat) (hgc : gc ≤ 8) (e0 : σ 0 11 = nI gc) (g j : Nat) (hj : j < gc) (hjg : σ 2 j = nI g) (hf : ∀ i, i < j → ¬ σ 2 i = nI g)  (kk : zW p l e R s m args below meth c D cy N A n ad cells slots Q (28, [some (.ref (ad 0)), some (.int (nI g)), some (.int (nI j))], []) (σ)) : ∀ (d k : Nat), k + d = j → zW p l e R s m args below meth c D cy N A n ad cells slots Q (2, [some (.ref (ad 0)), some (.int (nI g)), some (.int (nI k))], []) (σ) := by
  intro d
  induction d with
  | zero =>
    intro k hk
    obtain rfl : k = j := by omega
    refine zw_run X (is := [(2, .iload_n 2, 1), (3, .aload_n 0, 1)]) (t' := (4, [some (.ref (ad 0)), some (.int (nI g)), some (.int (nI k))], [.ref (ad 0), .int (nI k)])) ⟨dX7_placeOf_2, dX7_placeOf_3, trivial⟩ rfl ?_
    refine zw_getf X (i := 0) (by omega) zc_0 (C := RX7) (T := TX7) (Nf := 16) rfl zi_X7 11 (by decide) rfl zm_110 rfl dX7_placeOf_4 ?_
    refine zw_run X (is := [(7, .iconst 1, 1), (8, .isub, 1)]) (t' := (9, [some (.ref (ad 0)), some (.int (nI g)), some (.int (nI k))], [.int ((σ (0) 11) - 1), .int (nI k)])) ⟨dX7_placeOf_7, dX7_placeOf_8, trivial⟩ rfl ?_
    refine zw_icmp_ge X (tgt := 28) dX7_placeOf_9 (by decide) (fun h9 => ?_) (fun h9 => ?_)
    · exact kk
    · refine zw_run X (is := [(12, .aload_n 0, 1)]) (t' := (13, [some (.ref (ad 0)), some (.int (nI g)), some (.int (nI k))], [.ref (ad 0)])) ⟨dX7_placeOf_12, trivial⟩ rfl ?_
      refine zw_getf X (i := 0) (by omega) zc_0 (C := RX7) (T := TX7) (Nf := 16) rfl zi_X7 1 (by decide) rfl zm_19 rfl dX7_placeOf_13 ?_
      refine zw_run X (is := [(16, .iload_n 2, 1)]) (t' := (17, [some (.ref (ad 0)), some (.int (nI g)), some (.int (nI k))], [.int (nI k), .ref (ad 2)])) ⟨dX7_placeOf_16, trivial⟩ rfl ?_
      refine zw_iald X (i := 2) (by omega) (len := 8) zc_2 (j := k) rfl (by omega) (by decide) dX7_placeOf_17 ?_
      refine zw_run X (is := [(18, .iload_n 1, 1)]) (t' := (19, [some (.ref (ad 0)), some (.int (nI g)), some (.int (nI k))], [.int (nI g), .int (σ (2) k)])) ⟨dX7_placeOf_18, trivial⟩ rfl ?_
      refine zw_icmp_eq X (tgt := 28) dX7_placeOf_19 (by decide) (fun _ => ?_) (fun h_ => absurd hjg h_)
      exact kk
  | succ d ih =>
    intro k hk
    refine zw_run X (is := [(2, .iload_n 2, 1), (3, .aload_n 0, 1)]) (t' := (4, [some (.ref (ad 0)), some (.int (nI g)), some (.int (nI k))], [.ref (ad 0), .int (nI k)])) ⟨dX7_placeOf_2, dX7_placeOf_3, trivial⟩ rfl ?_
    refine zw_getf X (i := 0) (by omega) zc_0 (C := RX7) (T := TX7) (Nf := 16) rfl zi_X7 11 (by decide) rfl zm_110 rfl dX7_placeOf_4 ?_
    refine zw_run X (is := [(7, .iconst 1, 1), (8, .isub, 1)]) (t' := (9, [some (.ref (ad 0)), some (.int (nI g)), some (.int (nI k))], [.int ((σ (0) 11) - 1), .int (nI k)])) ⟨dX7_placeOf_7, dX7_placeOf_8, trivial⟩ rfl ?_
    refine zw_icmp_ge X (tgt := 28) dX7_placeOf_9 (by decide) (fun h_ => absurd h_ (by rw [e0, show nI gc - 1 = nI (gc - 1) from pk_sub (a := gc) (b := 1) (by omega)]; exact nI_ge (by omega) (by omega))) (fun _ => ?_)
    refine zw_run X (is := [(12, .aload_n 0, 1)]) (t' := (13, [some (.ref (ad 0)), some (.int (nI g)), some (.int (nI k))], [.ref (ad 0)])) ⟨dX7_placeOf_12, trivial⟩ rfl ?_
    refine zw_getf X (i := 0) (by omega) zc_0 (C := RX7) (T := TX7) (Nf := 16) rfl zi_X7 1 (by decide) rfl zm_19 rfl dX7_placeOf_13 ?_
    refine zw_run X (is := [(16, .iload_n 2, 1)]) (t' := (17, [some (.ref (ad 0)), some (.int (nI g)), some (.int (nI k))], [.int (nI k), .ref (ad 2)])) ⟨dX7_placeOf_16, trivial⟩ rfl ?_
    refine zw_iald X (i := 2) (by omega) (len := 8) zc_2 (j := k) rfl (by omega) (by decide) dX7_placeOf_17 ?_
    refine zw_run X (is := [(18, .iload_n 1, 1)]) (t' := (19, [some (.ref (ad 0)), some (.int (nI g)), some (.int (nI k))], [.int (nI g), .int (σ (2) k)])) ⟨dX7_placeOf_18, trivial⟩ rfl ?_
    refine zw_icmp_eq X (tgt := 28) dX7_placeOf_19 (by decide) (fun h_ => absurd h_ (hf k (by omega))) (fun _ => ?_)
    refine zw_run X (is := [(22, .iinc 2 1, 3)]) (t' := (25, [some (.ref (ad 0)), some (.int (nI g)), some (.int (nI k + 1))], [])) ⟨dX7_placeOf_22, trivial⟩ rfl ?_
    refine zw_go X (tgt := 2) dX7_placeOf_25 (by decide) ?_
    rw [nI_1]
    exact ih (k + 1) (by omega)

set_option maxHeartbeats 4000000 in
set_option maxRecDepth 100000 in
theorem c_placeOf {l : Launch} (hls : l.stackTraces = false) {D : va_G} {cy : Nat → ClassId} {wa : Nat → Nat} {N n : Nat} {ad : Nat → Nat} (hD : zD n ad) (hn : 40 ≤ n) (σ : zS) (gc : Nat) (hgc : gc ≤ 8) (e0 : σ 0 11 = nI gc) (g j : Nat) (hj : j < gc) (hjg : σ 2 j = nI g) (hf : ∀ i, i < j → ¬ σ 2 i = nI g)  (sz : Nat) : Met l yX7_placeOf (.code yX7_placeOf cX7_placeOf 3 (some .int) :: zB) (zRm 0) (zPc [.ref (ad 0), .int (nI g)] D cy wa N n ad σ sz) (zQi (nI j) D cy N n ad (σ) sz) 0 0 (zA n ad sz) := by
  refine z_met (by decide) hls (List.forall_mem_cons.mpr ⟨rfl, (List.forall_mem_cons.mpr ⟨rfl, (fun _ h => nomatch h)⟩)⟩) (Nat.le_of_ble_eq_true rfl) (fun p_ e_ s_ m_ below_ meth_ c_ hsz hr X => ?_)
  have X : zX p_ l s_ m_ [.ref (ad 0), .int (nI g)].toArray meth_ c_ cX7_placeOf 3 RX7 D cy wa (zA n ad sz) := X
  have hAd : ∀ i, i < n → zA n ad sz (ad i) := fun i hi => Or.inl ⟨i, hi, rfl⟩
  refine zw_run X (is := [(0, .iconst 0, 1), (1, .istore_n 2, 1)]) (t' := (2, [some (.ref (ad 0)), some (.int (nI g)), some (.int 0)], [])) ⟨dX7_placeOf_0, dX7_placeOf_1, trivial⟩ rfl ?_
  refine lp_placeOf X hD hAd hn σ gc hgc e0 g j hj hjg hf ?_ j 0 (by omega)
  refine zw_run X (is := [(28, .iload_n 2, 1)]) (t' := (29, [some (.ref (ad 0)), some (.int (nI g)), some (.int (nI j))], [.int (nI j)])) ⟨dX7_placeOf_28, trivial⟩ rfl ?_
  exact zw_iret X hr dX7_placeOf_29 rfl rfl rfl

set_option maxHeartbeats 4000000 in
set_option maxRecDepth 100000 in
theorem c_place {l : Launch} (hls : l.stackTraces = false) {D : va_G} {cy : Nat → ClassId} {wa : Nat → Nat} {N n : Nat} {ad : Nat → Nat} (hD : zD n ad) (hn : 40 ≤ n) (σ : zS) (gc : Nat) (hgc : gc ≤ 8) (e0 : σ 0 11 = nI gc) (g : Nat) (hg : g < gc) (j : Nat) (hj : j < gc) (hjg : σ 2 j = nI g) (hf : ∀ i, i < j → ¬ σ 2 i = nI g)  (sz : Nat) : Met l yX7_place (.code yX7_place cX7_place 2 (some .int) :: zB) (zRm 2) (zPc [.ref (ad 0), .int (nI g)] D cy wa N n ad σ sz) (zQi (nI j) D cy N n ad (σ) sz) 0 0 (zA n ad sz) := by
  refine z_met (by decide) hls (List.forall_mem_cons.mpr ⟨rfl, (List.forall_mem_cons.mpr ⟨rfl, (fun _ h => nomatch h)⟩)⟩) (Nat.le_of_ble_eq_true rfl) (fun p_ e_ s_ m_ below_ meth_ c_ hsz hr X => ?_)
  have X : zX p_ l s_ m_ [.ref (ad 0), .int (nI g)].toArray meth_ c_ cX7_place 2 RX7 D cy wa (zA n ad sz) := X
  have hAd : ∀ i, i < n → zA n ad sz (ad i) := fun i hi => Or.inl ⟨i, hi, rfl⟩
  refine zw_run X (is := [(0, .aload_n 0, 1), (1, .iload_n 1, 1)]) (t' := (2, [some (.ref (ad 0)), some (.int (nI g))], [.int (nI g), .ref (ad 0)])) ⟨dX7_place_0, dX7_place_1, trivial⟩ rfl ?_
  refine zw_Vv X hAd (As := [.int (nI g)]) (rest := []) (d := 0) (i := 0) (by omega) zc_0 (q := (RX7, TX7, 16)) rfl ⟨zm_135, zm_136, zm_137, zm_2, zm_138, rfl, by decide, by decide, (show (parseMethodDescriptor yX7_needGuild.desc).map (fun d => d.parameters.length) = some 1 by decide +kernel)⟩ (fun sz => c_needGuild hls hD hn σ gc hgc e0 g hg sz) rfl rfl (Nat.le_of_ble_eq_true rfl) ⟨Nat.le_of_ble_eq_true rfl, Nat.le_of_ble_eq_true rfl⟩ ⟨Nat.zero_le _, Nat.zero_le _⟩ dX7_place_2 ?_
  refine zw_run X (is := [(5, .aload_n 0, 1), (6, .iload_n 1, 1)]) (t' := (7, [some (.ref (ad 0)), some (.int (nI g))], [.int (nI g), .ref (ad 0)])) ⟨dX7_place_5, dX7_place_6, trivial⟩ rfl ?_
  refine zw_Vi X hAd (As := [.int (nI g)]) (rest := []) (d := 0) (i := 0) (by omega) zc_0 (q := (RX7, TX7, 16)) rfl ⟨zm_311, zm_312, zm_313, zm_2, zm_314, rfl, by decide, by decide, (show (parseMethodDescriptor yX7_placeOf.desc).map (fun d => d.parameters.length) = some 1 by decide +kernel)⟩ (fun sz => c_placeOf hls hD hn σ gc hgc e0 g j hj hjg hf sz) rfl rfl (Nat.le_of_ble_eq_true rfl) ⟨Nat.le_of_ble_eq_true rfl, Nat.le_of_ble_eq_true rfl⟩ ⟨Nat.zero_le _, Nat.zero_le _⟩ dX7_place_7 ?_
  exact zw_iret X hr dX7_place_10 rfl rfl rfl

/-- order[k] := order[k+1] for k from a, d times; order[k] := order[k-1] downwards from a, d times -/
def zup (σ : zS) (a : Nat) : Nat → zS
  | 0 => σ
  | d + 1 => zu (zup σ a d) 2 (a + d) (zup σ a d 2 (a + d + 1))
def zdn (σ : zS) (a : Nat) : Nat → zS
  | 0 => σ
  | d + 1 => zu (zdn σ a d) 2 (a - d) (zdn σ a d 2 (a - d - 1))

set_option maxHeartbeats 4000000 in
set_option maxRecDepth 100000 in
theorem lp_putU {p : Program} {l : Launch} {e : Env} {R : Room} {s : State} {m : MethodId} {args : Array Value} {below : List Frame} {meth : Method} {c : Code} {D : va_G} {cy : Nat → ClassId} {wa : Nat → Nat} {N : Nat} {A : Nat → Prop} {n : Nat} {ad : Nat → Nat} {cells slots : Nat} {Q : State → Prop} (X : zX p l s m args meth c cX7_put 5 RX7 D cy wa A) (hD : zD n ad) (hAd : ∀ i, i < n → A (ad i)) (hn : 40 ≤ n) (σ : zS) (gc : Nat) (hgc : gc ≤ 8) (g j q : Nat) (hj : j < gc) (hq : q < gc)  (kk : zW p l e R s m args below meth c D cy N A n ad cells slots Q (53, [some (.ref (ad 0)), some (.int (nI g)), some (.int (nI q)), some (.int (nI j)), some (.int (nI (j + (q - j))))], []) (zup σ j (q - j))) : ∀ (d k : Nat), k + d = q - j → zW p l e R s m args below meth c D cy N A n ad cells slots Q (25, [some (.ref (ad 0)), some (.int (nI g)), some (.int (nI q)), some (.int (nI j)), some (.int (nI (j + k)))], []) (zup σ j k) := by
  intro d
  induction d with
  | zero =>
    intro k hk
    obtain rfl : k = q - j := by omega
    refine zw_run X (is := [(25, .iload 4, 2), (27, .iload_n 2, 1)]) (t' := (28, [some (.ref (ad 0)), some (.int (nI g)), some (.int (nI q)), some (.int (nI j)), some (.int (nI (j + (q - j))))], [.int (nI q), .int (nI (j + (q - j)))])) ⟨dX7_put_25, dX7_put_27, trivial⟩ rfl ?_
    refine zw_icmp_ge X (tgt := 53) dX7_put_28 (by decide) (fun _ => ?_) (fun h_ => absurd (nI_le (by omega) (by omega)) h_)
    exact kk
  | succ d ih =>
    intro k hk
    refine zw_run X (is := [(25, .iload 4, 2), (27, .iload_n 2, 1)]) (t' := (28, [some (.ref (ad 0)), some (.int (nI g)), some (.int (nI q)), some (.int (nI j)), some (.int (nI (j + k)))], [.int (nI q), .int (nI (j + k))])) ⟨dX7_put_25, dX7_put_27, trivial⟩ rfl ?_
    refine zw_icmp_ge X (tgt := 53) dX7_put_28 (by decide) (fun h_ => absurd h_ (nI_ge (by omega) (by omega))) (fun _ => ?_)
    refine zw_run X (is := [(31, .aload_n 0, 1)]) (t' := (32, [some (.ref (ad 0)), some (.int (nI g)), some (.int (nI q)), some (.int (nI j)), some (.int (nI (j + k)))], [.ref (ad 0)])) ⟨dX7_put_31, trivial⟩ rfl ?_
    refine zw_getf X (i := 0) (by omega) zc_0 (C := RX7) (T := TX7) (Nf := 16) rfl zi_X7 1 (by decide) rfl zm_19 rfl dX7_put_32 ?_
    refine zw_run X (is := [(35, .iload 4, 2), (37, .aload_n 0, 1)]) (t' := (38, [some (.ref (ad 0)), some (.int (nI g)), some (.int (nI q)), some (.int (nI j)), some (.int (nI (j + k)))], [.ref (ad 0), .int (nI (j + k)), .ref (ad 2)])) ⟨dX7_put_35, dX7_put_37, trivial⟩ rfl ?_
    refine zw_getf X (i := 0) (by omega) zc_0 (C := RX7) (T := TX7) (Nf := 16) rfl zi_X7 1 (by decide) rfl zm_19 rfl dX7_put_38 ?_
    refine zw_run X (is := [(41, .iload 4, 2), (43, .iconst 1, 1), (44, .iadd, 1)]) (t' := (45, [some (.ref (ad 0)), some (.int (nI g)), some (.int (nI q)), some (.int (nI j)), some (.int (nI (j + k)))], [.int ((nI (j + k)) + 1), .ref (ad 2), .int (nI (j + k)), .ref (ad 2)])) ⟨dX7_put_41, dX7_put_43, dX7_put_44, trivial⟩ rfl ?_
    refine zw_iald X (i := 2) (by omega) (len := 8) zc_2 (j := (j + k + 1)) (nI_1 _) (by omega) (by decide) dX7_put_45 ?_
    refine zw_iast X hD hAd (i := 2) (by omega) (len := 8) (fun _ => zc_2) (j := (j + k)) rfl (by omega) (by decide) dX7_put_46 ?_
    refine zw_run X (is := [(47, .iinc 4 1, 3)]) (t' := (50, [some (.ref (ad 0)), some (.int (nI g)), some (.int (nI q)), some (.int (nI j)), some (.int (nI (j + k) + 1))], [])) ⟨dX7_put_47, trivial⟩ rfl ?_
    refine zw_go X (tgt := 25) dX7_put_50 (by decide) ?_
    rw [nI_1]
    exact ih (k + 1) (by omega)

set_option maxHeartbeats 4000000 in
set_option maxRecDepth 100000 in
theorem lp_putD {p : Program} {l : Launch} {e : Env} {R : Room} {s : State} {m : MethodId} {args : Array Value} {below : List Frame} {meth : Method} {c : Code} {D : va_G} {cy : Nat → ClassId} {wa : Nat → Nat} {N : Nat} {A : Nat → Prop} {n : Nat} {ad : Nat → Nat} {cells slots : Nat} {Q : State → Prop} (X : zX p l s m args meth c cX7_put 5 RX7 D cy wa A) (hD : zD n ad) (hAd : ∀ i, i < n → A (ad i)) (hn : 40 ≤ n) (σ : zS) (gc : Nat) (hgc : gc ≤ 8) (g j q : Nat) (hj : j < gc) (hq : q < gc)  (kk : zW p l e R s m args below meth c D cy N A n ad cells slots Q (84, [some (.ref (ad 0)), some (.int (nI g)), some (.int (nI q)), some (.int (nI j)), some (.int (nI (j - (j - q))))], []) (zdn σ j (j - q))) : ∀ (d k : Nat), k + d = j - q → zW p l e R s m args below meth c D cy N A n ad cells slots Q (56, [some (.ref (ad 0)), some (.int (nI g)), some (.int (nI q)), some (.int (nI j)), some (.int (nI (j - k)))], []) (zdn σ j k) := by
  intro d
  induction d with
  | zero =>
    intro k hk
    obtain rfl : k = j - q := by omega
    refine zw_run X (is := [(56, .iload 4, 2), (58, .iload_n 2, 1)]) (t' := (59, [some (.ref (ad 0)), some (.int (nI g)), some (.int (nI q)), some (.int (nI j)), some (.int (nI (j - (j - q))))], [.int (nI q), .int (nI (j - (j - q)))])) ⟨dX7_put_56, dX7_put_58, trivial⟩ rfl ?_
    refine zw_icmp_le X (tgt := 84) dX7_put_59 (by decide) (fun _ => ?_) (fun h_ => absurd (nI_le (by omega) (by omega)) h_)
    exact kk
  | succ d ih =>
    intro k hk
    refine zw_run X (is := [(56, .iload 4, 2), (58, .iload_n 2, 1)]) (t' := (59, [some (.ref (ad 0)), some (.int (nI g)), some (.int (nI q)), some (.int (nI j)), some (.int (nI (j - k)))], [.int (nI q), .int (nI (j - k))])) ⟨dX7_put_56, dX7_put_58, trivial⟩ rfl ?_
    refine zw_icmp_le X (tgt := 84) dX7_put_59 (by decide) (fun h_ => absurd h_ (nI_ge (a := q) (b := j - k) (by omega) (by omega))) (fun _ => ?_)
    refine zw_run X (is := [(62, .aload_n 0, 1)]) (t' := (63, [some (.ref (ad 0)), some (.int (nI g)), some (.int (nI q)), some (.int (nI j)), some (.int (nI (j - k)))], [.ref (ad 0)])) ⟨dX7_put_62, trivial⟩ rfl ?_
    refine zw_getf X (i := 0) (by omega) zc_0 (C := RX7) (T := TX7) (Nf := 16) rfl zi_X7 1 (by decide) rfl zm_19 rfl dX7_put_63 ?_
    refine zw_run X (is := [(66, .iload 4, 2), (68, .aload_n 0, 1)]) (t' := (69, [some (.ref (ad 0)), some (.int (nI g)), some (.int (nI q)), some (.int (nI j)), some (.int (nI (j - k)))], [.ref (ad 0), .int (nI (j - k)), .ref (ad 2)])) ⟨dX7_put_66, dX7_put_68, trivial⟩ rfl ?_
    refine zw_getf X (i := 0) (by omega) zc_0 (C := RX7) (T := TX7) (Nf := 16) rfl zi_X7 1 (by decide) rfl zm_19 rfl dX7_put_69 ?_
    refine zw_run X (is := [(72, .iload 4, 2), (74, .iconst 1, 1), (75, .isub, 1)]) (t' := (76, [some (.ref (ad 0)), some (.int (nI g)), some (.int (nI q)), some (.int (nI j)), some (.int (nI (j - k)))], [.int ((nI (j - k)) - 1), .ref (ad 2), .int (nI (j - k)), .ref (ad 2)])) ⟨dX7_put_72, dX7_put_74, dX7_put_75, trivial⟩ rfl ?_
    refine zw_iald X (i := 2) (by omega) (len := 8) zc_2 (j := (j - k - 1)) (pk_sub (b := 1) (by omega)) (by omega) (by decide) dX7_put_76 ?_
    refine zw_iast X hD hAd (i := 2) (by omega) (len := 8) (fun _ => zc_2) (j := (j - k)) rfl (by omega) (by decide) dX7_put_77 ?_
    refine zw_run X (is := [(78, .iinc 4 (-1), 3)]) (t' := (81, [some (.ref (ad 0)), some (.int (nI g)), some (.int (nI q)), some (.int (nI j)), some (.int (nI (j - k) + (-1)))], [])) ⟨dX7_put_78, trivial⟩ rfl ?_
    refine zw_go X (tgt := 56) dX7_put_81 (by decide) ?_
    rw [show nI (j - k) + (-1) = nI (j - (k + 1)) from by rw [show j - k = (j - (k + 1)) + 1 by omega]; exact pk_m1 _]
    exact ih (k + 1) (by omega)

set_option maxHeartbeats 4000000 in
set_option maxRecDepth 100000 in
theorem c_put {l : Launch} (hls : l.stackTraces = false) {D : va_G} {cy : Nat → ClassId} {wa : Nat → Nat} {N n : Nat} {ad : Nat → Nat} (hD : zD n ad) (hn : 40 ≤ n) (σ : zS) (gc : Nat) (hgc : gc ≤ 8) (e0 : σ 0 11 = nI gc) (g : Nat) (hg : g < gc) (j : Nat) (hj : j < gc) (hjg : σ 2 j = nI g) (hf : ∀ i, i < j → ¬ σ 2 i = nI g) (q : Nat) (hq : q < gc) (sz : Nat) : Met l yX7_put (.code yX7_put cX7_put 5 (some .int) :: zB) (zRm 2) (zPc [.ref (ad 0), .int (nI g), .int (nI q)] D cy wa N n ad σ sz) (zQi (nI j) D cy N n ad (zu (zdn (zup σ j (q - j)) j (j - q)) (2) q (nI g)) sz) 0 0 (zA n ad sz) := by
  refine z_met (by decide) hls (List.forall_mem_cons.mpr ⟨rfl, (List.forall_mem_cons.mpr ⟨rfl, (List.forall_mem_cons.mpr ⟨rfl, (fun _ h => nomatch h)⟩)⟩)⟩) (Nat.le_of_ble_eq_true rfl) (fun p_ e_ s_ m_ below_ meth_ c_ hsz hr X => ?_)
  have X : zX p_ l s_ m_ [.ref (ad 0), .int (nI g), .int (nI q)].toArray meth_ c_ cX7_put 5 RX7 D cy wa (zA n ad sz) := X
  have hAd : ∀ i, i < n → zA n ad sz (ad i) := fun i hi => Or.inl ⟨i, hi, rfl⟩
  refine zw_run X (is := [(0, .aload_n 0, 1), (1, .iload_n 1, 1)]) (t' := (2, [some (.ref (ad 0)), some (.int (nI g)), some (.int (nI q)), none, none], [.int (nI g), .ref (ad 0)])) ⟨dX7_put_0, dX7_put_1, trivial⟩ rfl ?_
  refine zw_Vv X hAd (As := [.int (nI g)]) (rest := []) (d := 0) (i := 0) (by omega) zc_0 (q := (RX7, TX7, 16)) rfl ⟨zm_135, zm_136, zm_137, zm_2, zm_138, rfl, by decide, by decide, (show (parseMethodDescriptor yX7_needGuild.desc).map (fun d => d.parameters.length) = some 1 by decide +kernel)⟩ (fun sz => c_needGuild hls hD hn σ gc hgc e0 g hg sz) rfl rfl (Nat.le_of_ble_eq_true rfl) ⟨Nat.le_of_ble_eq_true rfl, Nat.le_of_ble_eq_true rfl⟩ ⟨Nat.zero_le _, Nat.zero_le _⟩ dX7_put_2 ?_
  refine zw_run X (is := [(5, .iload_n 2, 1), (6, .iconst 0, 1), (7, .aload_n 0, 1)]) (t' := (8, [some (.ref (ad 0)), some (.int (nI g)), some (.int (nI q)), none, none], [.ref (ad 0), .int 0, .int (nI q)])) ⟨dX7_put_5, dX7_put_6, dX7_put_7, trivial⟩ rfl ?_
  refine zw_getf X (i := 0) (by omega) zc_0 (C := RX7) (T := TX7) (Nf := 16) rfl zi_X7 11 (by decide) rfl zm_110 rfl dX7_put_8 ?_
  refine zw_run X (is := [(11, .iconst 1, 1), (12, .isub, 1)]) (t' := (13, [some (.ref (ad 0)), some (.int (nI g)), some (.int (nI q)), none, none], [.int ((σ (0) 11) - 1), .int 0, .int (nI q)])) ⟨dX7_put_11, dX7_put_12, trivial⟩ rfl ?_
  refine zw_Sv X hAd (As := [.int (nI q), .int 0, .int ((σ (0) 11) - 1)]) (rest := []) (d := 0) ⟨zm_114, zm_115, zm_2, zm_116, by decide, by decide, (show (parseMethodDescriptor yX7_needRange.desc).map (fun d => d.parameters.length) = some 3 by decide +kernel)⟩ (fun sz => c_needRange hls hD hn σ (nI q) 0 (σ 0 11 - 1) (nI_pos (by omega)) (by rw [e0, show nI gc - 1 = nI (gc - 1) from pk_sub (a := gc) (b := 1) (by omega)]; exact nI_le (by omega) (by omega)) sz) rfl rfl (Nat.le_of_ble_eq_true rfl) ⟨Nat.le_of_ble_eq_true rfl, Nat.le_of_ble_eq_true rfl⟩ ⟨Nat.zero_le _, Nat.zero_le _⟩ dX7_put_13 ?_
  refine zw_run X (is := [(16, .aload_n 0, 1), (17, .iload_n 1, 1)]) (t' := (18, [some (.ref (ad 0)), some (.int (nI g)), some (.int (nI q)), none, none], [.int (nI g), .ref (ad 0)])) ⟨dX7_put_16, dX7_put_17, trivial⟩ rfl ?_
  refine zw_Vi X hAd (As := [.int (nI g)]) (rest := []) (d := 0) (i := 0) (by omega) zc_0 (q := (RX7, TX7, 16)) rfl ⟨zm_311, zm_312, zm_313, zm_2, zm_314, rfl, by decide, by decide, (show (parseMethodDescriptor yX7_placeOf.desc).map (fun d => d.parameters.length) = some 1 by decide +kernel)⟩ (fun sz => c_placeOf hls hD hn σ gc hgc e0 g j hj hjg hf sz) rfl rfl (Nat.le_of_ble_eq_true rfl) ⟨Nat.le_of_ble_eq_true rfl, Nat.le_of_ble_eq_true rfl⟩ ⟨Nat.zero_le _, Nat.zero_le _⟩ dX7_put_18 ?_
  refine zw_run X (is := [(21, .istore_n 3, 1), (22, .iload_n 3, 1), (23, .istore 4, 2)]) (t' := (25, [some (.ref (ad 0)), some (.int (nI g)), some (.int (nI q)), some (.int (nI j)), some (.int (nI j))], [])) ⟨dX7_put_21, dX7_put_22, dX7_put_23, trivial⟩ rfl ?_
  refine lp_putU X hD hAd hn σ gc hgc g j q hj hq ?_ (q - j) 0 (by omega)
  refine zw_run X (is := [(53, .iload_n 3, 1), (54, .istore 4, 2)]) (t' := (56, [some (.ref (ad 0)), some (.int (nI g)), some (.int (nI q)), some (.int (nI j)), some (.int (nI j))], [])) ⟨dX7_put_53, dX7_put_54, trivial⟩ rfl ?_
  refine lp_putD X hD hAd hn (zup σ j (q - j)) gc hgc g j q hj hq ?_ (j - q) 0 (by omega)
  refine zw_run X (is := [(84, .aload_n 0, 1)]) (t' := (85, [some (.ref (ad 0)), some (.int (nI g)), some (.int (nI q)), some (.int (nI j)), some (.int (nI (j - (j - q))))], [.ref (ad 0)])) ⟨dX7_put_84, trivial⟩ rfl ?_
  refine zw_getf X (i := 0) (by omega) zc_0 (C := RX7) (T := TX7) (Nf := 16) rfl zi_X7 1 (by decide) rfl zm_19 rfl dX7_put_85 ?_
  refine zw_run X (is := [(88, .iload_n 2, 1), (89, .iload_n 1, 1)]) (t' := (90, [some (.ref (ad 0)), some (.int (nI g)), some (.int (nI q)), some (.int (nI j)), some (.int (nI (j - (j - q))))], [.int (nI g), .int (nI q), .ref (ad 2)])) ⟨dX7_put_88, dX7_put_89, trivial⟩ rfl ?_
  refine zw_iast X hD hAd (i := 2) (by omega) (len := 8) (fun _ => zc_2) (j := q) rfl (by omega) (by decide) dX7_put_90 ?_
  refine zw_run X (is := [(91, .iload_n 3, 1)]) (t' := (92, [some (.ref (ad 0)), some (.int (nI g)), some (.int (nI q)), some (.int (nI j)), some (.int (nI (j - (j - q))))], [.int (nI j)])) ⟨dX7_put_91, trivial⟩ rfl ?_
  exact zw_iret X hr dX7_put_92 rfl rfl rfl

set_option maxHeartbeats 4000000 in
set_option maxRecDepth 100000 in
theorem c_put_bad {l : Launch} (hls : l.stackTraces = false) {D : va_G} {cy : Nat → ClassId} {wa : Nat → Nat} {N n : Nat} {ad : Nat → Nat} (hD : zD n ad) (hn : 40 ≤ n) (σ : zS) (gc : Nat) (hgc : gc ≤ 8) (e0 : σ 0 11 = nI gc) (g : Nat) (hg : g < gc)  (sz : Nat) : vx_Met l yX7_put (.code yX7_put cX7_put 5 (some .int) :: zB) (zRx 2) (zPc [.ref (ad 0), .int (nI g), .int (nI gc)] D cy wa N n ad σ sz) zNo (zXC "java/lang/IllegalArgumentException" D cy N n ad (σ) sz) 1 6 (zA n ad sz) := by
  refine z_metx (by decide) hls (List.forall_mem_cons.mpr ⟨rfl, (List.forall_mem_cons.mpr ⟨rfl, (List.forall_mem_cons.mpr ⟨rfl, (fun _ h => nomatch h)⟩)⟩)⟩) (Nat.le_of_ble_eq_true rfl) (fun p_ e_ s_ m_ below_ meth_ c_ hsz hr hno X => ?_)
  have X : zX p_ l s_ m_ [.ref (ad 0), .int (nI g), .int (nI gc)].toArray meth_ c_ cX7_put 5 RX7 D cy wa (zA n ad sz) := X
  have hAd : ∀ i, i < n → zA n ad sz (ad i) := fun i hi => Or.inl ⟨i, hi, rfl⟩
  refine zw_run X (is := [(0, .aload_n 0, 1), (1, .iload_n 1, 1)]) (t' := (2, [some (.ref (ad 0)), some (.int (nI g)), some (.int (nI gc)), none, none], [.int (nI g), .ref (ad 0)])) ⟨dX7_put_0, dX7_put_1, trivial⟩ rfl ?_
  refine zw_Vv X hAd (As := [.int (nI g)]) (rest := []) (d := 0) (i := 0) (by omega) zc_0 (q := (RX7, TX7, 16)) rfl ⟨zm_135, zm_136, zm_137, zm_2, zm_138, rfl, by decide, by decide, (show (parseMethodDescriptor yX7_needGuild.desc).map (fun d => d.parameters.length) = some 1 by decide +kernel)⟩ (fun sz => c_needGuild hls hD hn σ gc hgc e0 g hg sz) rfl rfl (Nat.le_of_ble_eq_true rfl) ⟨Nat.le_of_ble_eq_true rfl, Nat.le_of_ble_eq_true rfl⟩ ⟨Nat.zero_le _, Nat.zero_le _⟩ dX7_put_2 ?_
  refine zw_run X (is := [(5, .iload_n 2, 1), (6, .iconst 0, 1), (7, .aload_n 0, 1)]) (t' := (8, [some (.ref (ad 0)), some (.int (nI g)), some (.int (nI gc)), none, none], [.ref (ad 0), .int 0, .int (nI gc)])) ⟨dX7_put_5, dX7_put_6, dX7_put_7, trivial⟩ rfl ?_
  refine zw_getf X (i := 0) (by omega) zc_0 (C := RX7) (T := TX7) (Nf := 16) rfl zi_X7 11 (by decide) rfl zm_110 rfl dX7_put_8 ?_
  refine zw_run X (is := [(11, .iconst 1, 1), (12, .isub, 1)]) (t' := (13, [some (.ref (ad 0)), some (.int (nI g)), some (.int (nI gc)), none, none], [.int ((σ (0) 11) - 1), .int 0, .int (nI gc)])) ⟨dX7_put_11, dX7_put_12, trivial⟩ rfl ?_
  exact zw_So X hno hAd rfl (As := [.int (nI gc), .int 0, .int ((σ (0) 11) - 1)]) (rest := []) (d := 0) ⟨zm_114, zm_115, zm_2, zm_116, by decide, by decide, (show (parseMethodDescriptor yX7_needRange.desc).map (fun d => d.parameters.length) = some 3 by decide +kernel)⟩ (fun sz => c_needRange_hi hls hD hn σ (nI gc) 0 (σ 0 11 - 1) (nI_pos (by omega)) (by rw [e0, show nI gc - 1 = nI (gc - 1) from pk_sub (a := gc) (b := 1) (by omega)]; exact nI_ge (by omega) (by omega)) sz) rfl rfl (Nat.le_of_ble_eq_true rfl) ⟨Nat.le_of_ble_eq_true rfl, Nat.le_of_ble_eq_true rfl⟩ ⟨Nat.le_of_ble_eq_true rfl, Nat.le_of_ble_eq_true rfl⟩ dX7_put_13
end
section
theorem z_leaf {b : Nat} (hb : b ≤ 600) : (nI b + 40 - 1) / 40 = nI ((b + 39) / 40) := by
  rw [show (40 : Int32) = nI 40 from rfl, nI_add, show (1 : Int32) = nI 1 from rfl, pk_sub (by omega), show b + 40 - 1 = b + 39 by omega]
  exact pk_div (by omega) (by omega) (by omega)
theorem z_last {b k : Nat} (hb : b ≤ 600) (hk : k < 15) : (if (nI k + 1) * 40 < nI b then (nI k + 1) * 40 else nI b) = nI (min b ((k + 1) * 40)) := by
  rw [nI_1, show (40 : Int32) = nI 40 from rfl, pk_mul]
  by_cases h : (k + 1) * 40 < b
  · rw [if_pos ((nI_ltI (by omega) (by omega)).mpr h), Nat.min_eq_right (by omega)]
  · rw [if_neg (fun q => h ((nI_ltI (by omega) (by omega)).mp q)), Nat.min_eq_left (by omega)]
/-- the lines that are known of the first k leaves -/
def zkn (lo : Nat → Int32) (b : Nat) : Nat → Nat
  | 0 => 0
  | k + 1 => zkn lo b k + (if lo k = 0 then min b ((k + 1) * 40) - k * 40 else 0)
def zcl (σ : zS) (i : Nat) : Nat → zS
  | 0 => σ
  | k + 1 => zu (zcl σ i k) i k 0
theorem zcl_off {σ : zS} {i a : Nat} (h : a ≠ i) : ∀ k, zcl σ i k a = σ a
  | 0 => rfl
  | k + 1 => by
    show zu (zcl σ i k) i k 0 a = σ a
    rw [zu_off h, zcl_off h k]

set_option maxHeartbeats 4000000 in
set_option maxRecDepth 100000 in
theorem c_leafN {l : Launch} (hls : l.stackTraces = false) {D : va_G} {cy : Nat → ClassId} {wa : Nat → Nat} {N n : Nat} {ad : Nat → Nat} (hD : zD n ad) (hn : 40 ≤ n) (σ : zS) (g : Nat) (hg8 : g < 8) (b : Nat) (hb : b ≤ 600) (eb : σ (16 + g) 4 = nI b)  (sz : Nat) : Met l yX4_leafCount (.code yX4_leafCount cX4_leafCount 1 (some .int) :: zB) (zRm 0) (zPc [.ref (ad (16 + g))] D cy wa N n ad σ sz) (zQi (nI ((b + 39) / 40)) D cy N n ad (σ) sz) 0 0 (zA n ad sz) := by
  refine z_met (by decide) hls (List.forall_mem_cons.mpr ⟨rfl, (fun _ h => nomatch h)⟩) (Nat.le_of_ble_eq_true rfl) (fun p_ e_ s_ m_ below_ meth_ c_ hsz hr X => ?_)
  have X : zX p_ l s_ m_ [.ref (ad (16 + g))].toArray meth_ c_ cX4_leafCount 1 RX4 D cy wa (zA n ad sz) := X
  have hAd : ∀ i, i < n → zA n ad sz (ad i) := fun i hi => Or.inl ⟨i, hi, rfl⟩
  refine zw_run X (is := [(0, .aload_n 0, 1)]) (t' := (1, [some (.ref (ad (16 + g)))], [.ref (ad (16 + g))])) ⟨dX4_leafCount_0, trivial⟩ rfl ?_
  refine zw_getf X (i := 16 + g) (by omega) (zc_P hg8) (C := RX4) (T := TX4) (Nf := 7) rfl zi_X4 4 (by decide) rfl zm_124 rfl dX4_leafCount_1 ?_
  refine zw_run X (is := [(4, .bipush 40, 2), (6, .iadd, 1), (7, .iconst 1, 1), (8, .isub, 1), (9, .bipush 40, 2)]) (t' := (11, [some (.ref (ad (16 + g)))], [.int 40, .int (((σ (16 + g) 4) + 40) - 1)])) ⟨dX4_leafCount_4, dX4_leafCount_6, dX4_leafCount_7, dX4_leafCount_8, dX4_leafCount_9, trivial⟩ rfl ?_
  refine zw_div X (by decide) dX4_leafCount_11 ?_
  exact zw_iret X hr dX4_leafCount_12 rfl (by rw [eb]; exact z_leaf hb) rfl

set_option maxHeartbeats 4000000 in
set_option maxRecDepth 100000 in
theorem c_lastLine {l : Launch} (hls : l.stackTraces = false) {D : va_G} {cy : Nat → ClassId} {wa : Nat → Nat} {N n : Nat} {ad : Nat → Nat} (hD : zD n ad) (hn : 40 ≤ n) (σ : zS) (g : Nat) (hg8 : g < 8) (b : Nat) (hb : b ≤ 600) (eb : σ (16 + g) 4 = nI b) (k : Nat) (hk : k < 15) (sz : Nat) : Met l yX4_lastLineOf (.code yX4_lastLineOf cX4_lastLineOf 2 (some .int) :: zB) (zRm 1) (zPc [.ref (ad (16 + g)), .int (nI k)] D cy wa N n ad σ sz) (zQi (nI (min b ((k + 1) * 40))) D cy N n ad (σ) sz) 0 0 (zA n ad sz) := by
  refine z_met (by decide) hls (List.forall_mem_cons.mpr ⟨rfl, (List.forall_mem_cons.mpr ⟨rfl, (fun _ h => nomatch h)⟩)⟩) (Nat.le_of_ble_eq_true rfl) (fun p_ e_ s_ m_ below_ meth_ c_ hsz hr X => ?_)
  have X : zX p_ l s_ m_ [.ref (ad (16 + g)), .int (nI k)].toArray meth_ c_ cX4_lastLineOf 2 RX4 D cy wa (zA n ad sz) := X
  have hAd : ∀ i, i < n → zA n ad sz (ad i) := fun i hi => Or.inl ⟨i, hi, rfl⟩
  refine zw_run X (is := [(0, .aload_n 0, 1)]) (t' := (1, [some (.ref (ad (16 + g))), some (.int (nI k))], [.ref (ad (16 + g))])) ⟨dX4_lastLineOf_0, trivial⟩ rfl ?_
  refine zw_getf X (i := 16 + g) (by omega) (zc_P hg8) (C := RX4) (T := TX4) (Nf := 7) rfl zi_X4 4 (by decide) rfl zm_124 rfl dX4_lastLineOf_1 ?_
  refine zw_run X (is := [(4, .iload_n 1, 1), (5, .iconst 1, 1), (6, .iadd, 1), (7, .bipush 40, 2), (9, .imul, 1)]) (t' := (10, [some (.ref (ad (16 + g))), some (.int (nI k))], [.int (((nI k) + 1) * 40), .int (σ (16 + g) 4)])) ⟨dX4_lastLineOf_4, dX4_lastLineOf_5, dX4_lastLineOf_6, dX4_lastLineOf_7, dX4_lastLineOf_9, trivial⟩ rfl ?_
  refine zw_min X zm_354 zm_237 zm_238 zm_239 rfl ⟨Nat.le_of_ble_eq_true rfl, Nat.le_of_ble_eq_true rfl⟩ ⟨Nat.zero_le _, Nat.zero_le _⟩ (v := nI (min b ((k + 1) * 40))) (by rw [eb]; exact z_last hb hk) dX4_lastLineOf_10 ?_
  exact zw_iret X hr dX4_lastLineOf_13 rfl rfl rfl

set_option maxHeartbeats 4000000 in
set_option maxRecDepth 100000 in
theorem lp_known {p : Program} {l : Launch} {e : Env} {R : Room} {s : State} {m : MethodId} {args : Array Value} {below : List Frame} {meth : Method} {c : Code} {D : va_G} {cy : Nat → ClassId} {wa : Nat → Nat} {N : Nat} {A : Nat → Prop} {n : Nat} {ad : Nat → Nat} {cells slots : Nat} {Q : State → Prop} (X : zX p l s m args meth c cX4_knownLines 4 RX4 D cy wa A) (hD : zD n ad) (hAd : ∀ i, i < n → A (ad i)) (hn : 40 ≤ n) (σ : zS) (hls : l.stackTraces = false) (hR : 2 ≤ R.frames ∧ 80 ≤ R.locals ∧ cells ≤ R.cells ∧ slots ≤ R.slots) (g : Nat) (hg8 : g < 8) (b : Nat) (hb : b ≤ 600) (eb : σ (16 + g) 4 = nI b)  (kk : zW p l e R s m args below meth c D cy N A n ad cells slots Q (42, [some (.ref (ad (16 + g))), some (.int (nI (zkn (σ (32 + g)) b ((b + 39) / 40)))), some (.int (nI ((b + 39) / 40))), some (.int (nI ((b + 39) / 40)))], []) (σ)) : ∀ (d k : Nat), k + d = (b + 39) / 40 → zW p l e R s m args below meth c D cy N A n ad cells slots Q (9, [some (.ref (ad (16 + g))), some (.int (nI (zkn (σ (32 + g)) b k))), some (.int (nI ((b + 39) / 40))), some (.int (nI k))], []) (σ) := by
  intro d
  induction d with
  | zero =>
    intro k hk
    obtain rfl : k = (b + 39) / 40 := by omega
    refine zw_run X (is := [(9, .iload_n 3, 1), (10, .iload_n 2, 1)]) (t' := (11, [some (.ref (ad (16 + g))), some (.int (nI (zkn (σ (32 + g)) b ((b + 39) / 40)))), some (.int (nI ((b + 39) / 40))), some (.int (nI ((b + 39) / 40)))], [.int (nI ((b + 39) / 40)), .int (nI ((b + 39) / 40))])) ⟨dX4_knownLines_9, dX4_knownLines_10, trivial⟩ rfl ?_
    refine zw_icmp_ge X (tgt := 42) dX4_knownLines_11 (by decide) (fun _ => ?_) (fun h_ => absurd (nI_le (Nat.le_refl _) (by omega)) h_)
    exact kk
  | succ d ih =>
    intro k hk
    have hk15 : k < 15 := by omega
    refine zw_run X (is := [(9, .iload_n 3, 1), (10, .iload_n 2, 1)]) (t' := (11, [some (.ref (ad (16 + g))), some (.int (nI (zkn (σ (32 + g)) b k))), some (.int (nI ((b + 39) / 40))), some (.int (nI k))], [.int (nI ((b + 39) / 40)), .int (nI k)])) ⟨dX4_knownLines_9, dX4_knownLines_10, trivial⟩ rfl ?_
    refine zw_icmp_ge X (tgt := 42) dX4_knownLines_11 (by decide) (fun h_ => absurd h_ (nI_ge (by omega) (by omega))) (fun _ => ?_)
    refine zw_run X (is := [(14, .aload_n 0, 1)]) (t' := (15, [some (.ref (ad (16 + g))), some (.int (nI (zkn (σ (32 + g)) b k))), some (.int (nI ((b + 39) / 40))), some (.int (nI k))], [.ref (ad (16 + g))])) ⟨dX4_knownLines_14, trivial⟩ rfl ?_
    refine zw_getf X (i := 16 + g) (by omega) (zc_P hg8) (C := RX4) (T := TX4) (Nf := 7) rfl zi_X4 6 (by decide) rfl zm_88 rfl dX4_knownLines_15 ?_
    refine zw_run X (is := [(18, .iload_n 3, 1)]) (t' := (19, [some (.ref (ad (16 + g))), some (.int (nI (zkn (σ (32 + g)) b k))), some (.int (nI ((b + 39) / 40))), some (.int (nI k))], [.int (nI k), .ref (ad (32 + g))])) ⟨dX4_knownLines_18, trivial⟩ rfl ?_
    refine zw_zald X (i := 32 + g) (by omega) (len := 15) (zc_L hg8) (j := k) rfl hk15 (by decide) dX4_knownLines_19 ?_
    refine zw_if_ne X (tgt := 36) dX4_knownLines_20 (by decide) (fun h20 => ?_) (fun h20 => ?_)
    · refine zw_run X (is := [(36, .iinc 3 1, 3)]) (t' := (39, [some (.ref (ad (16 + g))), some (.int (nI (zkn (σ (32 + g)) b k))), some (.int (nI ((b + 39) / 40))), some (.int (nI k + 1))], [])) ⟨dX4_knownLines_36, trivial⟩ rfl ?_
      refine zw_go X (tgt := 9) dX4_knownLines_39 (by decide) ?_
      rw [nI_1]
      have e9 : zkn (σ (32 + g)) b (k + 1) = zkn (σ (32 + g)) b k := by show zkn (σ (32 + g)) b k + (if σ (32 + g) k = 0 then _ else 0) = _; rw [if_neg h20, Nat.add_zero]
      have := ih (k + 1) (by omega)
      rw [e9] at this
      exact this
    · refine zw_run X (is := [(23, .iload_n 1, 1), (24, .aload_n 0, 1), (25, .iload_n 3, 1)]) (t' := (26, [some (.ref (ad (16 + g))), some (.int (nI (zkn (σ (32 + g)) b k))), some (.int (nI ((b + 39) / 40))), some (.int (nI k))], [.int (nI k), .ref (ad (16 + g)), .int (nI (zkn (σ (32 + g)) b k))])) ⟨dX4_knownLines_23, dX4_knownLines_24, dX4_knownLines_25, trivial⟩ rfl ?_
      refine zw_Vi X hAd (As := [.int (nI k)]) (rest := [.int (nI (zkn (σ (32 + g)) b k))]) (d := 1) (i := 16 + g) (by omega) (zc_P hg8) (q := (RX4, TX4, 7)) rfl ⟨zm_350, zm_351, zm_352, zm_81, zm_353, rfl, by decide, by decide, (show (parseMethodDescriptor yX4_lastLineOf.desc).map (fun d => d.parameters.length) = some 1 by decide +kernel)⟩ (fun sz => c_lastLine hls hD hn σ g hg8 b hb eb k hk15 sz) rfl rfl (Nat.le_of_ble_eq_true rfl) ⟨by omega, by omega⟩ ⟨hR.2.2.1, hR.2.2.2⟩ dX4_knownLines_26 ?_
      refine zw_run X (is := [(29, .iload_n 3, 1), (30, .bipush 40, 2), (32, .imul, 1), (33, .isub, 1), (34, .iadd, 1), (35, .istore_n 1, 1), (36, .iinc 3 1, 3)]) (t' := (39, [some (.ref (ad (16 + g))), some (.int ((nI (zkn (σ (32 + g)) b k)) + ((nI (min b ((k + 1) * 40))) - ((nI k) * 40)))), some (.int (nI ((b + 39) / 40))), some (.int (nI k + 1))], [])) ⟨dX4_knownLines_29, dX4_knownLines_30, dX4_knownLines_32, dX4_knownLines_33, dX4_knownLines_34, dX4_knownLines_35, dX4_knownLines_36, trivial⟩ rfl ?_
      refine zw_go X (tgt := 9) dX4_knownLines_39 (by decide) ?_
      rw [nI_1]
      have e9 : nI (zkn (σ (32 + g)) b k) + (nI (min b ((k + 1) * 40)) - nI k * 40) = nI (zkn (σ (32 + g)) b (k + 1)) := by
        show _ = nI (zkn (σ (32 + g)) b k + (if σ (32 + g) k = 0 then min b ((k + 1) * 40) - k * 40 else 0))
        rw [if_pos h20, show (40 : Int32) = nI 40 from rfl, pk_mul, pk_sub (by omega), nI_add]
      rw [e9]
      exact ih (k + 1) (by omega)

set_option maxHeartbeats 4000000 in
set_option maxRecDepth 100000 in
theorem c_knownLines {l : Launch} (hls : l.stackTraces = false) {D : va_G} {cy : Nat → ClassId} {wa : Nat → Nat} {N n : Nat} {ad : Nat → Nat} (hD : zD n ad) (hn : 40 ≤ n) (σ : zS) (g : Nat) (hg8 : g < 8) (b : Nat) (hb : b ≤ 600) (eb : σ (16 + g) 4 = nI b)  (sz : Nat) : Met l yX4_knownLines (.code yX4_knownLines cX4_knownLines 4 (some .int) :: zB) (zRm 2) (zPc [.ref (ad (16 + g))] D cy wa N n ad σ sz) (zQi (nI (zkn (σ (32 + g)) b ((b + 39) / 40))) D cy N n ad (σ) sz) 0 0 (zA n ad sz) := by
  refine z_met (by decide) hls (List.forall_mem_cons.mpr ⟨rfl, (fun _ h => nomatch h)⟩) (Nat.le_of_ble_eq_true rfl) (fun p_ e_ s_ m_ below_ meth_ c_ hsz hr X => ?_)
  have X : zX p_ l s_ m_ [.ref (ad (16 + g))].toArray meth_ c_ cX4_knownLines 4 RX4 D cy wa (zA n ad sz) := X
  have hAd : ∀ i, i < n → zA n ad sz (ad i) := fun i hi => Or.inl ⟨i, hi, rfl⟩
  refine zw_run X (is := [(0, .iconst 0, 1), (1, .istore_n 1, 1), (2, .aload_n 0, 1)]) (t' := (3, [some (.ref (ad (16 + g))), some (.int 0), none, none], [.ref (ad (16 + g))])) ⟨dX4_knownLines_0, dX4_knownLines_1, dX4_knownLines_2, trivial⟩ rfl ?_
  refine zw_Vi X hAd (As := []) (rest := []) (d := 0) (i := 16 + g) (by omega) (zc_P hg8) (q := (RX4, TX4, 7)) rfl ⟨zm_349, zm_293, zm_294, zm_81, zm_295, rfl, by decide, by decide, (show (parseMethodDescriptor yX4_leafCount.desc).map (fun d => d.parameters.length) = some 0 by decide +kernel)⟩ (fun sz => c_leafN hls hD hn σ g hg8 b hb eb sz) rfl rfl (Nat.le_of_ble_eq_true rfl) ⟨Nat.le_of_ble_eq_true rfl, Nat.le_of_ble_eq_true rfl⟩ ⟨Nat.zero_le _, Nat.zero_le _⟩ dX4_knownLines_3 ?_
  refine zw_run X (is := [(6, .istore_n 2, 1), (7, .iconst 0, 1), (8, .istore_n 3, 1)]) (t' := (9, [some (.ref (ad (16 + g))), some (.int 0), some (.int (nI ((b + 39) / 40))), some (.int 0)], [])) ⟨dX4_knownLines_6, dX4_knownLines_7, dX4_knownLines_8, trivial⟩ rfl ?_
  refine lp_known X hD hAd hn σ hls ⟨Nat.le_of_ble_eq_true rfl, Nat.le_of_ble_eq_true rfl, Nat.zero_le _, Nat.zero_le _⟩ g hg8 b hb eb ?_ ((b + 39) / 40) 0 (by omega)
  refine zw_run X (is := [(42, .iload_n 1, 1)]) (t' := (43, [some (.ref (ad (16 + g))), some (.int (nI (zkn (σ (32 + g)) b ((b + 39) / 40)))), some (.int (nI ((b + 39) / 40))), some (.int (nI ((b + 39) / 40)))], [.int (nI (zkn (σ (32 + g)) b ((b + 39) / 40)))])) ⟨dX4_knownLines_42, trivial⟩ rfl ?_
  exact zw_iret X hr dX4_knownLines_43 rfl rfl rfl

set_option maxHeartbeats 4000000 in
set_option maxRecDepth 100000 in
theorem c_known {l : Launch} (hls : l.stackTraces = false) {D : va_G} {cy : Nat → ClassId} {wa : Nat → Nat} {N n : Nat} {ad : Nat → Nat} (hD : zD n ad) (hn : 40 ≤ n) (σ : zS) (gc : Nat) (hgc : gc ≤ 8) (e0 : σ 0 11 = nI gc) (g : Nat) (hg : g < gc) (b : Nat) (hb : b ≤ 600) (eb : σ (16 + g) 4 = nI b)  (sz : Nat) : Met l yX7_known (.code yX7_known cX7_known 2 (some .int) :: zB) (zRm 3) (zPc [.ref (ad 0), .int (nI g)] D cy wa N n ad σ sz) (zQi (nI (zkn (σ (32 + g)) b ((b + 39) / 40))) D cy N n ad (σ) sz) 0 0 (zA n ad sz) := by
  refine z_met (by decide) hls (List.forall_mem_cons.mpr ⟨rfl, (List.forall_mem_cons.mpr ⟨rfl, (fun _ h => nomatch h)⟩)⟩) (Nat.le_of_ble_eq_true rfl) (fun p_ e_ s_ m_ below_ meth_ c_ hsz hr X => ?_)
  have X : zX p_ l s_ m_ [.ref (ad 0), .int (nI g)].toArray meth_ c_ cX7_known 2 RX7 D cy wa (zA n ad sz) := X
  have hAd : ∀ i, i < n → zA n ad sz (ad i) := fun i hi => Or.inl ⟨i, hi, rfl⟩
  have hg8 : g < 8 := by omega
  refine zw_run X (is := [(0, .aload_n 0, 1), (1, .iload_n 1, 1)]) (t' := (2, [some (.ref (ad 0)), some (.int (nI g))], [.int (nI g), .ref (ad 0)])) ⟨dX7_known_0, dX7_known_1, trivial⟩ rfl ?_
  refine zw_Vv X hAd (As := [.int (nI g)]) (rest := []) (d := 0) (i := 0) (by omega) zc_0 (q := (RX7, TX7, 16)) rfl ⟨zm_135, zm_136, zm_137, zm_2, zm_138, rfl, by decide, by decide, (show (parseMethodDescriptor yX7_needGuild.desc).map (fun d => d.parameters.length) = some 1 by decide +kernel)⟩ (fun sz => c_needGuild hls hD hn σ gc hgc e0 g hg sz) rfl rfl (Nat.le_of_ble_eq_true rfl) ⟨Nat.le_of_ble_eq_true rfl, Nat.le_of_ble_eq_true rfl⟩ ⟨Nat.zero_le _, Nat.zero_le _⟩ dX7_known_2 ?_
  refine zw_run X (is := [(5, .aload_n 0, 1)]) (t' := (6, [some (.ref (ad 0)), some (.int (nI g))], [.ref (ad 0)])) ⟨dX7_known_5, trivial⟩ rfl ?_
  refine zw_getf X (i := 0) (by omega) zc_0 (C := RX7) (T := TX7) (Nf := 16) rfl zi_X7 0 (by decide) rfl zm_18 rfl dX7_known_6 ?_
  refine zw_run X (is := [(9, .iload_n 1, 1)]) (t' := (10, [some (.ref (ad 0)), some (.int (nI g))], [.int (nI g), .ref (ad 1)])) ⟨dX7_known_9, trivial⟩ rfl ?_
  refine zw_guild X (by omega) (g := g) rfl hg8 dX7_known_10 ?_
  refine zw_getf X (i := 8 + g) (by omega) (zc_G hg8) (C := RX1) (T := TX1) (Nf := 7) rfl zi_X1 6 (by decide) rfl zm_112 rfl dX7_known_11 ?_
  refine zw_Vi X hAd (As := []) (rest := []) (d := 2) (i := 16 + g) (by omega) (zc_P hg8) (q := (RX4, TX4, 7)) rfl ⟨zm_398, zm_399, zm_400, zm_81, zm_401, rfl, by decide, by decide, (show (parseMethodDescriptor yX4_knownLines.desc).map (fun d => d.parameters.length) = some 0 by decide +kernel)⟩ (fun sz => c_knownLines hls hD hn σ g hg8 b hb eb sz) rfl rfl (Nat.le_of_ble_eq_true rfl) ⟨Nat.le_of_ble_eq_true rfl, Nat.le_of_ble_eq_true rfl⟩ ⟨Nat.zero_le _, Nat.zero_le _⟩ dX7_known_14 ?_
  exact zw_iret X hr dX7_known_17 rfl rfl rfl

set_option maxHeartbeats 4000000 in
set_option maxRecDepth 100000 in
theorem c_leavesN {l : Launch} (hls : l.stackTraces = false) {D : va_G} {cy : Nat → ClassId} {wa : Nat → Nat} {N n : Nat} {ad : Nat → Nat} (hD : zD n ad) (hn : 40 ≤ n) (σ : zS) (gc : Nat) (hgc : gc ≤ 8) (e0 : σ 0 11 = nI gc) (g : Nat) (hg : g < gc) (b : Nat) (hb : b ≤ 600) (eb : σ (16 + g) 4 = nI b)  (sz : Nat) : Met l yX7_leaves (.code yX7_leaves cX7_leaves 2 (some .int) :: zB) (zRm 3) (zPc [.ref (ad 0), .int (nI g)] D cy wa N n ad σ sz) (zQi (nI ((b + 39) / 40)) D cy N n ad (σ) sz) 0 0 (zA n ad sz) := by
  refine z_met (by decide) hls (List.forall_mem_cons.mpr ⟨rfl, (List.forall_mem_cons.mpr ⟨rfl, (fun _ h => nomatch h)⟩)⟩) (Nat.le_of_ble_eq_true rfl) (fun p_ e_ s_ m_ below_ meth_ c_ hsz hr X => ?_)
  have X : zX p_ l s_ m_ [.ref (ad 0), .int (nI g)].toArray meth_ c_ cX7_leaves 2 RX7 D cy wa (zA n ad sz) := X
  have hAd : ∀ i, i < n → zA n ad sz (ad i) := fun i hi => Or.inl ⟨i, hi, rfl⟩
  have hg8 : g < 8 := by omega
  refine zw_run X (is := [(0, .aload_n 0, 1), (1, .iload_n 1, 1)]) (t' := (2, [some (.ref (ad 0)), some (.int (nI g))], [.int (nI g), .ref (ad 0)])) ⟨dX7_leaves_0, dX7_leaves_1, trivial⟩ rfl ?_
  refine zw_Vv X hAd (As := [.int (nI g)]) (rest := []) (d := 0) (i := 0) (by omega) zc_0 (q := (RX7, TX7, 16)) rfl ⟨zm_135, zm_136, zm_137, zm_2, zm_138, rfl, by decide, by decide, (show (parseMethodDescriptor yX7_needGuild.desc).map (fun d => d.parameters.length) = some 1 by decide +kernel)⟩ (fun sz => c_needGuild hls hD hn σ gc hgc e0 g hg sz) rfl rfl (Nat.le_of_ble_eq_true rfl) ⟨Nat.le_of_ble_eq_true rfl, Nat.le_of_ble_eq_true rfl⟩ ⟨Nat.zero_le _, Nat.zero_le _⟩ dX7_leaves_2 ?_
  refine zw_run X (is := [(5, .aload_n 0, 1)]) (t' := (6, [some (.ref (ad 0)), some (.int (nI g))], [.ref (ad 0)])) ⟨dX7_leaves_5, trivial⟩ rfl ?_
  refine zw_getf X (i := 0) (by omega) zc_0 (C := RX7) (T := TX7) (Nf := 16) rfl zi_X7 0 (by decide) rfl zm_18 rfl dX7_leaves_6 ?_
  refine zw_run X (is := [(9, .iload_n 1, 1)]) (t' := (10, [some (.ref (ad 0)), some (.int (nI g))], [.int (nI g), .ref (ad 1)])) ⟨dX7_leaves_9, trivial⟩ rfl ?_
  refine zw_guild X (by omega) (g := g) rfl hg8 dX7_leaves_10 ?_
  refine zw_getf X (i := 8 + g) (by omega) (zc_G hg8) (C := RX1) (T := TX1) (Nf := 7) rfl zi_X1 6 (by decide) rfl zm_112 rfl dX7_leaves_11 ?_
  refine zw_Vi X hAd (As := []) (rest := []) (d := 0) (i := 16 + g) (by omega) (zc_P hg8) (q := (RX4, TX4, 7)) rfl ⟨zm_292, zm_293, zm_294, zm_81, zm_295, rfl, by decide, by decide, (show (parseMethodDescriptor yX4_leafCount.desc).map (fun d => d.parameters.length) = some 0 by decide +kernel)⟩ (fun sz => c_leafN hls hD hn σ g hg8 b hb eb sz) rfl rfl (Nat.le_of_ble_eq_true rfl) ⟨Nat.le_of_ble_eq_true rfl, Nat.le_of_ble_eq_true rfl⟩ ⟨Nat.zero_le _, Nat.zero_le _⟩ dX7_leaves_14 ?_
  exact zw_iret X hr dX7_leaves_17 rfl rfl rfl

set_option maxHeartbeats 4000000 in
set_option maxRecDepth 100000 in
theorem c_lose {l : Launch} (hls : l.stackTraces = false) {D : va_G} {cy : Nat → ClassId} {wa : Nat → Nat} {N n : Nat} {ad : Nat → Nat} (hD : zD n ad) (hn : 40 ≤ n) (σ : zS) (gc : Nat) (hgc : gc ≤ 8) (e0 : σ 0 11 = nI gc) (g : Nat) (hg : g < gc) (b : Nat) (hb : b ≤ 600) (eb : σ (16 + g) 4 = nI b) (k : Nat) (hk : k < (b + 39) / 40) (sz : Nat) : Met l yX7_lose (.code yX7_lose cX7_lose 5 (some .boolean) :: zB) (zRm 2) (zPc [.ref (ad 0), .int (nI g), .int (nI k)] D cy wa N n ad σ sz) (zQi (if σ (32 + g) k = 0 then 1 else 0) D cy N n ad (zu σ (32 + g) k 1) sz) 0 0 (zA n ad sz) := by
  refine z_met (by decide) hls (List.forall_mem_cons.mpr ⟨rfl, (List.forall_mem_cons.mpr ⟨rfl, (List.forall_mem_cons.mpr ⟨rfl, (fun _ h => nomatch h)⟩)⟩)⟩) (Nat.le_of_ble_eq_true rfl) (fun p_ e_ s_ m_ below_ meth_ c_ hsz hr X => ?_)
  have X : zX p_ l s_ m_ [.ref (ad 0), .int (nI g), .int (nI k)].toArray meth_ c_ cX7_lose 5 RX7 D cy wa (zA n ad sz) := X
  have hAd : ∀ i, i < n → zA n ad sz (ad i) := fun i hi => Or.inl ⟨i, hi, rfl⟩
  have hg8 : g < 8 := by omega
  refine zw_run X (is := [(0, .aload_n 0, 1), (1, .iload_n 1, 1)]) (t' := (2, [some (.ref (ad 0)), some (.int (nI g)), some (.int (nI k)), none, none], [.int (nI g), .ref (ad 0)])) ⟨dX7_lose_0, dX7_lose_1, trivial⟩ rfl ?_
  refine zw_Vv X hAd (As := [.int (nI g)]) (rest := []) (d := 0) (i := 0) (by omega) zc_0 (q := (RX7, TX7, 16)) rfl ⟨zm_135, zm_136, zm_137, zm_2, zm_138, rfl, by decide, by decide, (show (parseMethodDescriptor yX7_needGuild.desc).map (fun d => d.parameters.length) = some 1 by decide +kernel)⟩ (fun sz => c_needGuild hls hD hn σ gc hgc e0 g hg sz) rfl rfl (Nat.le_of_ble_eq_true rfl) ⟨Nat.le_of_ble_eq_true rfl, Nat.le_of_ble_eq_true rfl⟩ ⟨Nat.zero_le _, Nat.zero_le _⟩ dX7_lose_2 ?_
  refine zw_run X (is := [(5, .aload_n 0, 1)]) (t' := (6, [some (.ref (ad 0)), some (.int (nI g)), some (.int (nI k)), none, none], [.ref (ad 0)])) ⟨dX7_lose_5, trivial⟩ rfl ?_
  refine zw_getf X (i := 0) (by omega) zc_0 (C := RX7) (T := TX7) (Nf := 16) rfl zi_X7 0 (by decide) rfl zm_18 rfl dX7_lose_6 ?_
  refine zw_run X (is := [(9, .iload_n 1, 1)]) (t' := (10, [some (.ref (ad 0)), some (.int (nI g)), some (.int (nI k)), none, none], [.int (nI g), .ref (ad 1)])) ⟨dX7_lose_9, trivial⟩ rfl ?_
  refine zw_guild X (by omega) (g := g) rfl hg8 dX7_lose_10 ?_
  refine zw_getf X (i := 8 + g) (by omega) (zc_G hg8) (C := RX1) (T := TX1) (Nf := 7) rfl zi_X1 6 (by decide) rfl zm_112 rfl dX7_lose_11 ?_
  refine zw_run X (is := [(14, .astore_n 3, 1), (15, .iload_n 2, 1), (16, .iconst 0, 1), (17, .aload_n 3, 1)]) (t' := (18, [some (.ref (ad 0)), some (.int (nI g)), some (.int (nI k)), some (.ref (ad (16 + g))), none], [.ref (ad (16 + g)), .int 0, .int (nI k)])) ⟨dX7_lose_14, dX7_lose_15, dX7_lose_16, dX7_lose_17, trivial⟩ rfl ?_
  refine zw_Vi X hAd (As := []) (rest := [.int 0, .int (nI k)]) (d := 0) (i := 16 + g) (by omega) (zc_P hg8) (q := (RX4, TX4, 7)) rfl ⟨zm_292, zm_293, zm_294, zm_81, zm_295, rfl, by decide, by decide, (show (parseMethodDescriptor yX4_leafCount.desc).map (fun d => d.parameters.length) = some 0 by decide +kernel)⟩ (fun sz => c_leafN hls hD hn σ g hg8 b hb eb sz) rfl rfl (Nat.le_of_ble_eq_true rfl) ⟨Nat.le_of_ble_eq_true rfl, Nat.le_of_ble_eq_true rfl⟩ ⟨Nat.zero_le _, Nat.zero_le _⟩ dX7_lose_18 ?_
  refine zw_run X (is := [(21, .iconst 1, 1), (22, .isub, 1)]) (t' := (23, [some (.ref (ad 0)), some (.int (nI g)), some (.int (nI k)), some (.ref (ad (16 + g))), none], [.int ((nI ((b + 39) / 40)) - 1), .int 0, .int (nI k)])) ⟨dX7_lose_21, dX7_lose_22, trivial⟩ rfl ?_
  refine zw_Sv X hAd (As := [.int (nI k), .int 0, .int ((nI ((b + 39) / 40)) - 1)]) (rest := []) (d := 0) ⟨zm_114, zm_115, zm_2, zm_116, by decide, by decide, (show (parseMethodDescriptor yX7_needRange.desc).map (fun d => d.parameters.length) = some 3 by decide +kernel)⟩ (fun sz => c_needRange hls hD hn σ (nI k) 0 (nI ((b + 39) / 40) - 1) (nI_pos (by omega)) (by rw [show nI ((b + 39) / 40) - 1 = nI ((b + 39) / 40 - 1) from pk_sub (b := 1) (by omega)]; exact nI_le (by omega) (by omega)) sz) rfl rfl (Nat.le_of_ble_eq_true rfl) ⟨Nat.le_of_ble_eq_true rfl, Nat.le_of_ble_eq_true rfl⟩ ⟨Nat.zero_le _, Nat.zero_le _⟩ dX7_lose_23 ?_
  refine zw_run X (is := [(26, .aload_n 3, 1)]) (t' := (27, [some (.ref (ad 0)), some (.int (nI g)), some (.int (nI k)), some (.ref (ad (16 + g))), none], [.ref (ad (16 + g))])) ⟨dX7_lose_26, trivial⟩ rfl ?_
  refine zw_getf X (i := 16 + g) (by omega) (zc_P hg8) (C := RX4) (T := TX4) (Nf := 7) rfl zi_X4 6 (by decide) rfl zm_303 rfl dX7_lose_27 ?_
  refine zw_run X (is := [(30, .iload_n 2, 1)]) (t' := (31, [some (.ref (ad 0)), some (.int (nI g)), some (.int (nI k)), some (.ref (ad (16 + g))), none], [.int (nI k), .ref (ad (32 + g))])) ⟨dX7_lose_30, trivial⟩ rfl ?_
  refine zw_zald X (i := 32 + g) (by omega) (len := 15) (zc_L hg8) (j := k) rfl (by omega) (by decide) dX7_lose_31 ?_
  refine zw_if_ne X (tgt := 39) dX7_lose_32 (by decide) (fun h32 => ?_) (fun h32 => ?_)
  · refine zw_run X (is := [(39, .iconst 0, 1), (40, .istore 4, 2), (42, .aload_n 3, 1)]) (t' := (43, [some (.ref (ad 0)), some (.int (nI g)), some (.int (nI k)), some (.ref (ad (16 + g))), some (.int 0)], [.ref (ad (16 + g))])) ⟨dX7_lose_39, dX7_lose_40, dX7_lose_42, trivial⟩ rfl ?_
    refine zw_getf X (i := 16 + g) (by omega) (zc_P hg8) (C := RX4) (T := TX4) (Nf := 7) rfl zi_X4 6 (by decide) rfl zm_303 rfl dX7_lose_43 ?_
    refine zw_run X (is := [(46, .iload_n 2, 1), (47, .iconst 1, 1)]) (t' := (48, [some (.ref (ad 0)), some (.int (nI g)), some (.int (nI k)), some (.ref (ad (16 + g))), some (.int 0)], [.int 1, .int (nI k), .ref (ad (32 + g))])) ⟨dX7_lose_46, dX7_lose_47, trivial⟩ rfl ?_
    refine zw_zast X hD hAd (i := 32 + g) (by omega) (len := 15) (fun _ => (zc_L hg8)) (j := k) rfl (by omega) (by decide) (by decide) dX7_lose_48 ?_
    refine zw_run X (is := [(49, .iload 4, 2)]) (t' := (51, [some (.ref (ad 0)), some (.int (nI g)), some (.int (nI k)), some (.ref (ad (16 + g))), some (.int 0)], [.int 0])) ⟨dX7_lose_49, trivial⟩ rfl ?_
    exact zw_zret X hr dX7_lose_51 rfl rfl (by simp [h32]) rfl
  · refine zw_run X (is := [(35, .iconst 1, 1)]) (t' := (36, [some (.ref (ad 0)), some (.int (nI g)), some (.int (nI k)), some (.ref (ad (16 + g))), none], [.int 1])) ⟨dX7_lose_35, trivial⟩ rfl ?_
    refine zw_go X (tgt := 40) dX7_lose_36 (by decide) ?_
    refine zw_run X (is := [(40, .istore 4, 2), (42, .aload_n 3, 1)]) (t' := (43, [some (.ref (ad 0)), some (.int (nI g)), some (.int (nI k)), some (.ref (ad (16 + g))), some (.int 1)], [.ref (ad (16 + g))])) ⟨dX7_lose_40, dX7_lose_42, trivial⟩ rfl ?_
    refine zw_getf X (i := 16 + g) (by omega) (zc_P hg8) (C := RX4) (T := TX4) (Nf := 7) rfl zi_X4 6 (by decide) rfl zm_303 rfl dX7_lose_43 ?_
    refine zw_run X (is := [(46, .iload_n 2, 1), (47, .iconst 1, 1)]) (t' := (48, [some (.ref (ad 0)), some (.int (nI g)), some (.int (nI k)), some (.ref (ad (16 + g))), some (.int 1)], [.int 1, .int (nI k), .ref (ad (32 + g))])) ⟨dX7_lose_46, dX7_lose_47, trivial⟩ rfl ?_
    refine zw_zast X hD hAd (i := 32 + g) (by omega) (len := 15) (fun _ => (zc_L hg8)) (j := k) rfl (by omega) (by decide) (by decide) dX7_lose_48 ?_
    refine zw_run X (is := [(49, .iload 4, 2)]) (t' := (51, [some (.ref (ad 0)), some (.int (nI g)), some (.int (nI k)), some (.ref (ad (16 + g))), some (.int 1)], [.int 1])) ⟨dX7_lose_49, trivial⟩ rfl ?_
    exact zw_zret X hr dX7_lose_51 rfl rfl (by simp [h32]) rfl

set_option maxHeartbeats 4000000 in
set_option maxRecDepth 100000 in
theorem c_lose_bad {l : Launch} (hls : l.stackTraces = false) {D : va_G} {cy : Nat → ClassId} {wa : Nat → Nat} {N n : Nat} {ad : Nat → Nat} (hD : zD n ad) (hn : 40 ≤ n) (σ : zS) (gc : Nat) (hgc : gc ≤ 8) (e0 : σ 0 11 = nI gc) (g : Nat) (hg : g < gc) (b : Nat) (hb : b ≤ 600) (eb : σ (16 + g) 4 = nI b) (hb0 : 1 ≤ b) (sz : Nat) : vx_Met l yX7_lose (.code yX7_lose cX7_lose 5 (some .boolean) :: zB) (zRx 2) (zPc [.ref (ad 0), .int (nI g), .int (nI ((b + 39) / 40))] D cy wa N n ad σ sz) zNo (zXC "java/lang/IllegalArgumentException" D cy N n ad (σ) sz) 1 6 (zA n ad sz) := by
  refine z_metx (by decide) hls (List.forall_mem_cons.mpr ⟨rfl, (List.forall_mem_cons.mpr ⟨rfl, (List.forall_mem_cons.mpr ⟨rfl, (fun _ h => nomatch h)⟩)⟩)⟩) (Nat.le_of_ble_eq_true rfl) (fun p_ e_ s_ m_ below_ meth_ c_ hsz hr hno X => ?_)
  have X : zX p_ l s_ m_ [.ref (ad 0), .int (nI g), .int (nI ((b + 39) / 40))].toArray meth_ c_ cX7_lose 5 RX7 D cy wa (zA n ad sz) := X
  have hAd : ∀ i, i < n → zA n ad sz (ad i) := fun i hi => Or.inl ⟨i, hi, rfl⟩
  have hg8 : g < 8 := by omega
  refine zw_run X (is := [(0, .aload_n 0, 1), (1, .iload_n 1, 1)]) (t' := (2, [some (.ref (ad 0)), some (.int (nI g)), some (.int (nI ((b + 39) / 40))), none, none], [.int (nI g), .ref (ad 0)])) ⟨dX7_lose_0, dX7_lose_1, trivial⟩ rfl ?_
  refine zw_Vv X hAd (As := [.int (nI g)]) (rest := []) (d := 0) (i := 0) (by omega) zc_0 (q := (RX7, TX7, 16)) rfl ⟨zm_135, zm_136, zm_137, zm_2, zm_138, rfl, by decide, by decide, (show (parseMethodDescriptor yX7_needGuild.desc).map (fun d => d.parameters.length) = some 1 by decide +kernel)⟩ (fun sz => c_needGuild hls hD hn σ gc hgc e0 g hg sz) rfl rfl (Nat.le_of_ble_eq_true rfl) ⟨Nat.le_of_ble_eq_true rfl, Nat.le_of_ble_eq_true rfl⟩ ⟨Nat.zero_le _, Nat.zero_le _⟩ dX7_lose_2 ?_
  refine zw_run X (is := [(5, .aload_n 0, 1)]) (t' := (6, [some (.ref (ad 0)), some (.int (nI g)), some (.int (nI ((b + 39) / 40))), none, none], [.ref (ad 0)])) ⟨dX7_lose_5, trivial⟩ rfl ?_
  refine zw_getf X (i := 0) (by omega) zc_0 (C := RX7) (T := TX7) (Nf := 16) rfl zi_X7 0 (by decide) rfl zm_18 rfl dX7_lose_6 ?_
  refine zw_run X (is := [(9, .iload_n 1, 1)]) (t' := (10, [some (.ref (ad 0)), some (.int (nI g)), some (.int (nI ((b + 39) / 40))), none, none], [.int (nI g), .ref (ad 1)])) ⟨dX7_lose_9, trivial⟩ rfl ?_
  refine zw_guild X (by omega) (g := g) rfl hg8 dX7_lose_10 ?_
  refine zw_getf X (i := 8 + g) (by omega) (zc_G hg8) (C := RX1) (T := TX1) (Nf := 7) rfl zi_X1 6 (by decide) rfl zm_112 rfl dX7_lose_11 ?_
  refine zw_run X (is := [(14, .astore_n 3, 1), (15, .iload_n 2, 1), (16, .iconst 0, 1), (17, .aload_n 3, 1)]) (t' := (18, [some (.ref (ad 0)), some (.int (nI g)), some (.int (nI ((b + 39) / 40))), some (.ref (ad (16 + g))), none], [.ref (ad (16 + g)), .int 0, .int (nI ((b + 39) / 40))])) ⟨dX7_lose_14, dX7_lose_15, dX7_lose_16, dX7_lose_17, trivial⟩ rfl ?_
  refine zw_Vi X hAd (As := []) (rest := [.int 0, .int (nI ((b + 39) / 40))]) (d := 0) (i := 16 + g) (by omega) (zc_P hg8) (q := (RX4, TX4, 7)) rfl ⟨zm_292, zm_293, zm_294, zm_81, zm_295, rfl, by decide, by decide, (show (parseMethodDescriptor yX4_leafCount.desc).map (fun d => d.parameters.length) = some 0 by decide +kernel)⟩ (fun sz => c_leafN hls hD hn σ g hg8 b hb eb sz) rfl rfl (Nat.le_of_ble_eq_true rfl) ⟨Nat.le_of_ble_eq_true rfl, Nat.le_of_ble_eq_true rfl⟩ ⟨Nat.zero_le _, Nat.zero_le _⟩ dX7_lose_18 ?_
  refine zw_run X (is := [(21, .iconst 1, 1), (22, .isub, 1)]) (t' := (23, [some (.ref (ad 0)), some (.int (nI g)), some (.int (nI ((b + 39) / 40))), some (.ref (ad (16 + g))), none], [.int ((nI ((b + 39) / 40)) - 1), .int 0, .int (nI ((b + 39) / 40))])) ⟨dX7_lose_21, dX7_lose_22, trivial⟩ rfl ?_
  exact zw_So X hno hAd rfl (As := [.int (nI ((b + 39) / 40)), .int 0, .int ((nI ((b + 39) / 40)) - 1)]) (rest := []) (d := 0) ⟨zm_114, zm_115, zm_2, zm_116, by decide, by decide, (show (parseMethodDescriptor yX7_needRange.desc).map (fun d => d.parameters.length) = some 3 by decide +kernel)⟩ (fun sz => c_needRange_hi hls hD hn σ (nI ((b + 39) / 40)) 0 (nI ((b + 39) / 40) - 1) (nI_pos (by omega)) (by rw [show nI ((b + 39) / 40) - 1 = nI ((b + 39) / 40 - 1) from pk_sub (b := 1) (by omega)]; exact nI_ge (by omega) (by omega)) sz) rfl rfl (Nat.le_of_ble_eq_true rfl) ⟨Nat.le_of_ble_eq_true rfl, Nat.le_of_ble_eq_true rfl⟩ ⟨Nat.le_of_ble_eq_true rfl, Nat.le_of_ble_eq_true rfl⟩ dX7_lose_23

set_option maxHeartbeats 4000000 in
set_option maxRecDepth 100000 in
theorem lp_find {p : Program} {l : Launch} {e : Env} {R : Room} {s : State} {m : MethodId} {args : Array Value} {below : List Frame} {meth : Method} {c : Code} {D : va_G} {cy : Nat → ClassId} {wa : Nat → Nat} {N : Nat} {A : Nat → Prop} {n : Nat} {ad : Nat → Nat} {cells slots : Nat} {Q : State → Prop} (X : zX p l s m args meth c cX4_findLeavesUpTo 4 RX4 D cy wa A) (hD : zD n ad) (hAd : ∀ i, i < n → A (ad i)) (hn : 40 ≤ n) (σ : zS) (hls : l.stackTraces = false) (hR : 2 ≤ R.frames ∧ 80 ≤ R.locals ∧ cells ≤ R.cells ∧ slots ≤ R.slots) (g : Nat) (hg8 : g < 8) (b : Nat) (hb : b ≤ 600) (eb : σ (16 + g) 4 = nI b)  (kk : zW p l e R s m args below meth c D cy N A n ad cells slots Q (34, [some (.ref (ad (16 + g))), some (.int (nI b)), some (.int (nI ((b + 39) / 40))), some (.int (nI ((b + 39) / 40)))], []) (zcl σ (32 + g) ((b + 39) / 40))) : ∀ (d k : Nat), k + d = (b + 39) / 40 → zW p l e R s m args below meth c D cy N A n ad cells slots Q (7, [some (.ref (ad (16 + g))), some (.int (nI b)), some (.int (nI ((b + 39) / 40))), some (.int (nI k))], []) (zcl σ (32 + g) k) := by
  intro d
  induction d with
  | zero =>
    intro k hk
    obtain rfl : k = (b + 39) / 40 := by omega
    refine zw_run X (is := [(7, .iload_n 3, 1), (8, .iload_n 2, 1)]) (t' := (9, [some (.ref (ad (16 + g))), some (.int (nI b)), some (.int (nI ((b + 39) / 40))), some (.int (nI ((b + 39) / 40)))], [.int (nI ((b + 39) / 40)), .int (nI ((b + 39) / 40))])) ⟨dX4_findLeavesUpTo_7, dX4_findLeavesUpTo_8, trivial⟩ rfl ?_
    refine zw_icmp_ge X (tgt := 34) dX4_findLeavesUpTo_9 (by decide) (fun _ => ?_) (fun h_ => absurd (nI_le (Nat.le_refl _) (by omega)) h_)
    exact kk
  | succ d ih =>
    intro k hk
    have hk15 : k < 15 := by omega
    refine zw_run X (is := [(7, .iload_n 3, 1), (8, .iload_n 2, 1)]) (t' := (9, [some (.ref (ad (16 + g))), some (.int (nI b)), some (.int (nI ((b + 39) / 40))), some (.int (nI k))], [.int (nI ((b + 39) / 40)), .int (nI k)])) ⟨dX4_findLeavesUpTo_7, dX4_findLeavesUpTo_8, trivial⟩ rfl ?_
    refine zw_icmp_ge X (tgt := 34) dX4_findLeavesUpTo_9 (by decide) (fun h_ => absurd h_ (nI_ge (by omega) (by omega))) (fun _ => ?_)
    refine zw_run X (is := [(12, .aload_n 0, 1), (13, .iload_n 3, 1)]) (t' := (14, [some (.ref (ad (16 + g))), some (.int (nI b)), some (.int (nI ((b + 39) / 40))), some (.int (nI k))], [.int (nI k), .ref (ad (16 + g))])) ⟨dX4_findLeavesUpTo_12, dX4_findLeavesUpTo_13, trivial⟩ rfl ?_
    refine zw_Vi X hAd (As := [.int (nI k)]) (rest := []) (d := 1) (i := 16 + g) (by omega) (zc_P hg8) (q := (RX4, TX4, 7)) rfl ⟨zm_350, zm_351, zm_352, zm_81, zm_353, rfl, by decide, by decide, (show (parseMethodDescriptor yX4_lastLineOf.desc).map (fun d => d.parameters.length) = some 1 by decide +kernel)⟩ (fun sz => c_lastLine hls hD hn (zcl σ (32 + g) k) g hg8 b hb (by rw [zcl_off (by omega)]; exact eb) k hk15 sz) rfl rfl (Nat.le_of_ble_eq_true rfl) ⟨by omega, by omega⟩ ⟨hR.2.2.1, hR.2.2.2⟩ dX4_findLeavesUpTo_14 ?_
    refine zw_run X (is := [(17, .iload_n 1, 1)]) (t' := (18, [some (.ref (ad (16 + g))), some (.int (nI b)), some (.int (nI ((b + 39) / 40))), some (.int (nI k))], [.int (nI b), .int (nI (min b ((k + 1) * 40)))])) ⟨dX4_findLeavesUpTo_17, trivial⟩ rfl ?_
    refine zw_icmp_gt X (tgt := 28) dX4_findLeavesUpTo_18 (by decide) (fun h_ => absurd h_ (nI_nlt (by omega) (by omega))) (fun _ => ?_)
    refine zw_run X (is := [(21, .aload_n 0, 1)]) (t' := (22, [some (.ref (ad (16 + g))), some (.int (nI b)), some (.int (nI ((b + 39) / 40))), some (.int (nI k))], [.ref (ad (16 + g))])) ⟨dX4_findLeavesUpTo_21, trivial⟩ rfl ?_
    refine zw_getf X (i := 16 + g) (by omega) (zc_P hg8) (C := RX4) (T := TX4) (Nf := 7) rfl zi_X4 6 (by decide) rfl zm_88 rfl dX4_findLeavesUpTo_22 ?_
    refine zw_run X (is := [(25, .iload_n 3, 1), (26, .iconst 0, 1)]) (t' := (27, [some (.ref (ad (16 + g))), some (.int (nI b)), some (.int (nI ((b + 39) / 40))), some (.int (nI k))], [.int 0, .int (nI k), .ref (ad (32 + g))])) ⟨dX4_findLeavesUpTo_25, dX4_findLeavesUpTo_26, trivial⟩ rfl ?_
    refine zw_zast X hD hAd (i := 32 + g) (by omega) (len := 15) (fun _ => (zc_L hg8)) (j := k) rfl hk15 (by decide) (by decide) dX4_findLeavesUpTo_27 ?_
    refine zw_run X (is := [(28, .iinc 3 1, 3)]) (t' := (31, [some (.ref (ad (16 + g))), some (.int (nI b)), some (.int (nI ((b + 39) / 40))), some (.int (nI k + 1))], [])) ⟨dX4_findLeavesUpTo_28, trivial⟩ rfl ?_
    refine zw_go X (tgt := 7) dX4_findLeavesUpTo_31 (by decide) ?_
    rw [nI_1]
    exact ih (k + 1) (by omega)

set_option maxHeartbeats 4000000 in
set_option maxRecDepth 100000 in
theorem c_findLeaves {l : Launch} (hls : l.stackTraces = false) {D : va_G} {cy : Nat → ClassId} {wa : Nat → Nat} {N n : Nat} {ad : Nat → Nat} (hD : zD n ad) (hn : 40 ≤ n) (σ : zS) (g : Nat) (hg8 : g < 8) (b : Nat) (hb : b ≤ 600) (eb : σ (16 + g) 4 = nI b)  (sz : Nat) : Met l yX4_findLeavesUpTo (.code yX4_findLeavesUpTo cX4_findLeavesUpTo 4 none :: zB) (zRm 2) (zPc [.ref (ad (16 + g)), .int (nI b)] D cy wa N n ad σ sz) (zQv D cy N n ad (zcl σ (32 + g) ((b + 39) / 40)) sz) 0 0 (zA n ad sz) := by
  refine z_met (by decide) hls (List.forall_mem_cons.mpr ⟨rfl, (List.forall_mem_cons.mpr ⟨rfl, (fun _ h => nomatch h)⟩)⟩) (Nat.le_of_ble_eq_true rfl) (fun p_ e_ s_ m_ below_ meth_ c_ hsz hr X => ?_)
  have X : zX p_ l s_ m_ [.ref (ad (16 + g)), .int (nI b)].toArray meth_ c_ cX4_findLeavesUpTo 4 RX4 D cy wa (zA n ad sz) := X
  have hAd : ∀ i, i < n → zA n ad sz (ad i) := fun i hi => Or.inl ⟨i, hi, rfl⟩
  refine zw_run X (is := [(0, .aload_n 0, 1)]) (t' := (1, [some (.ref (ad (16 + g))), some (.int (nI b)), none, none], [.ref (ad (16 + g))])) ⟨dX4_findLeavesUpTo_0, trivial⟩ rfl ?_
  refine zw_Vi X hAd (As := []) (rest := []) (d := 0) (i := 16 + g) (by omega) (zc_P hg8) (q := (RX4, TX4, 7)) rfl ⟨zm_349, zm_293, zm_294, zm_81, zm_295, rfl, by decide, by decide, (show (parseMethodDescriptor yX4_leafCount.desc).map (fun d => d.parameters.length) = some 0 by decide +kernel)⟩ (fun sz => c_leafN hls hD hn σ g hg8 b hb eb sz) rfl rfl (Nat.le_of_ble_eq_true rfl) ⟨Nat.le_of_ble_eq_true rfl, Nat.le_of_ble_eq_true rfl⟩ ⟨Nat.zero_le _, Nat.zero_le _⟩ dX4_findLeavesUpTo_1 ?_
  refine zw_run X (is := [(4, .istore_n 2, 1), (5, .iconst 0, 1), (6, .istore_n 3, 1)]) (t' := (7, [some (.ref (ad (16 + g))), some (.int (nI b)), some (.int (nI ((b + 39) / 40))), some (.int 0)], [])) ⟨dX4_findLeavesUpTo_4, dX4_findLeavesUpTo_5, dX4_findLeavesUpTo_6, trivial⟩ rfl ?_
  refine lp_find X hD hAd hn σ hls ⟨Nat.le_of_ble_eq_true rfl, Nat.le_of_ble_eq_true rfl, Nat.zero_le _, Nat.zero_le _⟩ g hg8 b hb eb ?_ ((b + 39) / 40) 0 (by omega)
  exact zw_vret X hr dX4_findLeavesUpTo_34 rfl rfl

def zbb (σ : zS) (g t : Nat) : zS := zcl (zu σ (16 + g) 4 (nI t)) (32 + g) ((t + 39) / 40)

set_option maxHeartbeats 4000000 in
set_option maxRecDepth 100000 in
theorem c_bringBook {l : Launch} (hls : l.stackTraces = false) {D : va_G} {cy : Nat → ClassId} {wa : Nat → Nat} {N n : Nat} {ad : Nat → Nat} (hD : zD n ad) (hn : 40 ≤ n) (σ : zS) (g : Nat) (hg8 : g < 8) (t : Nat) (ht : t ≤ 600) (et : σ (16 + g) 0 = nI t) (sz : Nat) : Met l yX4_bringBookUpToDate (.code yX4_bringBookUpToDate cX4_bringBookUpToDate 1 none :: zB) (zRm 3) (zPc [.ref (ad (16 + g))] D cy wa N n ad σ sz) (zQv D cy N n ad (zbb σ g t) sz) 0 0 (zA n ad sz) := by
  refine z_met (by decide) hls (List.forall_mem_cons.mpr ⟨rfl, (fun _ h => nomatch h)⟩) (Nat.le_of_ble_eq_true rfl) (fun p_ e_ s_ m_ below_ meth_ c_ hsz hr X => ?_)
  have X : zX p_ l s_ m_ [.ref (ad (16 + g))].toArray meth_ c_ cX4_bringBookUpToDate 1 RX4 D cy wa (zA n ad sz) := X
  have hAd : ∀ i, i < n → zA n ad sz (ad i) := fun i hi => Or.inl ⟨i, hi, rfl⟩
  refine zw_run X (is := [(0, .aload_n 0, 1), (1, .aload_n 0, 1)]) (t' := (2, [some (.ref (ad (16 + g)))], [.ref (ad (16 + g)), .ref (ad (16 + g))])) ⟨dX4_bringBookUpToDate_0, dX4_bringBookUpToDate_1, trivial⟩ rfl ?_
  refine zw_getf X (i := 16 + g) (by omega) (zc_P hg8) (C := RX4) (T := TX4) (Nf := 7) rfl zi_X4 0 (by decide) rfl zm_123 rfl dX4_bringBookUpToDate_2 ?_
  rw [et]
  refine zw_put X hD hAd (i := 16 + g) (by omega) (zc_P hg8) (C := RX4) (T := TX4) (Nf := 7) rfl zi_X4 tyX4 tyX4_ok nmX4 4 (by decide) rfl rfl zm_124 (ty := .int) (by decide +kernel) rfl rfl (Nat.le_of_ble_eq_true rfl) (zc_P hg8) dX4_bringBookUpToDate_5 ?_
  refine zw_run X (is := [(8, .aload_n 0, 1), (9, .aload_n 0, 1)]) (t' := (10, [some (.ref (ad (16 + g)))], [.ref (ad (16 + g)), .ref (ad (16 + g))])) ⟨dX4_bringBookUpToDate_8, dX4_bringBookUpToDate_9, trivial⟩ rfl ?_
  refine zw_getf X (i := 16 + g) (by omega) (zc_P hg8) (C := RX4) (T := TX4) (Nf := 7) rfl zi_X4 0 (by decide) rfl zm_123 rfl dX4_bringBookUpToDate_10 ?_
  rw [zu_n (by omega), et]
  refine zw_Vv X hAd (As := [.int (nI t)]) (rest := []) (d := 2) (i := 16 + g) (by omega) (zc_P hg8) (q := (RX4, TX4, 7)) rfl ⟨zm_345, zm_346, zm_347, zm_81, zm_348, rfl, by decide, by decide, (show (parseMethodDescriptor yX4_findLeavesUpTo.desc).map (fun d => d.parameters.length) = some 1 by decide +kernel)⟩ (fun sz => c_findLeaves hls hD hn (zu σ (16 + g) 4 (nI t)) g hg8 t ht zu_s sz) rfl rfl (Nat.le_of_ble_eq_true rfl) ⟨Nat.le_of_ble_eq_true rfl, Nat.le_of_ble_eq_true rfl⟩ ⟨Nat.zero_le _, Nat.zero_le _⟩ dX4_bringBookUpToDate_13 ?_
  exact zw_vret X hr dX4_bringBookUpToDate_16 rfl rfl
end
section
set_option maxHeartbeats 4000000 in
set_option maxRecDepth 100000 in
theorem c_addGuild {l : Launch} (hls : l.stackTraces = false) {D : va_G} {cy : Nat → ClassId} {wa : Nat → Nat} {N n : Nat} {ad : Nat → Nat} (hD : zD n ad) (hn : 40 ≤ n) (σ : zS) (gc : Nat) (hgc : gc < 8) (e0 : σ 0 11 = nI gc) (x y z : Int32) (h1 : ¬ x < 0) (h2 : x ≤ 9999) (h3 : ¬ y < 20) (h4 : y ≤ 400) (h5 : ¬ z < 1) (h6 : z ≤ 8)  (sz : Nat) : Met l yX7_addGuild (.code yX7_addGuild cX7_addGuild 6 (some .int) :: zB) (zRm 2) (zPc [.ref (ad 0), .int x, .int y, .int z] D cy wa N n ad σ sz) (zQi (nI gc) D cy N n ad (zu (zu (zu (zu (zu (zu (zu σ (8 + gc) 0 x) (16 + gc) 0 y) (16 + gc) 4 y) (16 + gc) 1 z) (0) 14 (((zu (zu (zu (zu σ (8 + gc) 0 x) (16 + gc) 0 y) (16 + gc) 4 y) (16 + gc) 1 z) (0) 14) + x)) (2) gc (nI gc)) (0) 11 (((zu (zu (zu (zu (zu (zu σ (8 + gc) 0 x) (16 + gc) 0 y) (16 + gc) 4 y) (16 + gc) 1 z) (0) 14 (((zu (zu (zu (zu σ (8 + gc) 0 x) (16 + gc) 0 y) (16 + gc) 4 y) (16 + gc) 1 z) (0) 14) + x)) (2) gc (nI gc)) (0) 11) + 1)) sz) 0 0 (zA n ad sz) := by
  refine z_met (by decide) hls (List.forall_mem_cons.mpr ⟨rfl, (List.forall_mem_cons.mpr ⟨rfl, (List.forall_mem_cons.mpr ⟨rfl, (List.forall_mem_cons.mpr ⟨rfl, (fun _ h => nomatch h)⟩)⟩)⟩)⟩) (Nat.le_of_ble_eq_true rfl) (fun p_ e_ s_ m_ below_ meth_ c_ hsz hr X => ?_)
  have X : zX p_ l s_ m_ [.ref (ad 0), .int x, .int y, .int z].toArray meth_ c_ cX7_addGuild 6 RX7 D cy wa (zA n ad sz) := X
  have hAd : ∀ i, i < n → zA n ad sz (ad i) := fun i hi => Or.inl ⟨i, hi, rfl⟩
  refine zw_run X (is := [(0, .iload_n 1, 1), (1, .iconst 0, 1), (2, .sipush 9999, 3)]) (t' := (5, [some (.ref (ad 0)), some (.int x), some (.int y), some (.int z), none, none], [.int 9999, .int 0, .int x])) ⟨dX7_addGuild_0, dX7_addGuild_1, dX7_addGuild_2, trivial⟩ rfl ?_
  refine zw_Sv X hAd (As := [.int x, .int 0, .int 9999]) (rest := []) (d := 0) ⟨zm_114, zm_115, zm_2, zm_116, by decide, by decide, (show (parseMethodDescriptor yX7_needRange.desc).map (fun d => d.parameters.length) = some 3 by decide +kernel)⟩ (fun sz => c_needRange hls hD hn σ x 0 9999 h1 h2 sz) rfl rfl (Nat.le_of_ble_eq_true rfl) ⟨Nat.le_of_ble_eq_true rfl, Nat.le_of_ble_eq_true rfl⟩ ⟨Nat.zero_le _, Nat.zero_le _⟩ dX7_addGuild_5 ?_
  refine zw_run X (is := [(8, .iload_n 2, 1), (9, .bipush 20, 2), (11, .sipush 400, 3)]) (t' := (14, [some (.ref (ad 0)), some (.int x), some (.int y), some (.int z), none, none], [.int 400, .int 20, .int y])) ⟨dX7_addGuild_8, dX7_addGuild_9, dX7_addGuild_11, trivial⟩ rfl ?_
  refine zw_Sv X hAd (As := [.int y, .int 20, .int 400]) (rest := []) (d := 0) ⟨zm_114, zm_115, zm_2, zm_116, by decide, by decide, (show (parseMethodDescriptor yX7_needRange.desc).map (fun d => d.parameters.length) = some 3 by decide +kernel)⟩ (fun sz => c_needRange hls hD hn σ y 20 400 h3 h4 sz) rfl rfl (Nat.le_of_ble_eq_true rfl) ⟨Nat.le_of_ble_eq_true rfl, Nat.le_of_ble_eq_true rfl⟩ ⟨Nat.zero_le _, Nat.zero_le _⟩ dX7_addGuild_14 ?_
  refine zw_run X (is := [(17, .iload_n 3, 1), (18, .iconst 1, 1), (19, .bipush 8, 2)]) (t' := (21, [some (.ref (ad 0)), some (.int x), some (.int y), some (.int z), none, none], [.int 8, .int 1, .int z])) ⟨dX7_addGuild_17, dX7_addGuild_18, dX7_addGuild_19, trivial⟩ rfl ?_
  refine zw_Sv X hAd (As := [.int z, .int 1, .int 8]) (rest := []) (d := 0) ⟨zm_114, zm_115, zm_2, zm_116, by decide, by decide, (show (parseMethodDescriptor yX7_needRange.desc).map (fun d => d.parameters.length) = some 3 by decide +kernel)⟩ (fun sz => c_needRange hls hD hn σ z 1 8 h5 h6 sz) rfl rfl (Nat.le_of_ble_eq_true rfl) ⟨Nat.le_of_ble_eq_true rfl, Nat.le_of_ble_eq_true rfl⟩ ⟨Nat.zero_le _, Nat.zero_le _⟩ dX7_addGuild_21 ?_
  refine zw_run X (is := [(24, .aload_n 0, 1)]) (t' := (25, [some (.ref (ad 0)), some (.int x), some (.int y), some (.int z), none, none], [.ref (ad 0)])) ⟨dX7_addGuild_24, trivial⟩ rfl ?_
  refine zw_getf X (i := 0) (by omega) zc_0 (C := RX7) (T := TX7) (Nf := 16) rfl zi_X7 11 (by decide) rfl zm_110 rfl dX7_addGuild_25 ?_
  rw [e0]
  refine zw_run X (is := [(28, .bipush 8, 2)]) (t' := (30, [some (.ref (ad 0)), some (.int x), some (.int y), some (.int z), none, none], [.int 8, .int (nI gc)])) ⟨dX7_addGuild_28, trivial⟩ rfl ?_
  refine zw_icmp_lt X (tgt := 43) dX7_addGuild_30 (by decide) (fun _ => ?_) (fun h_ => absurd (nI_lt hgc (by decide)) h_)
  refine zw_run X (is := [(43, .aload_n 0, 1)]) (t' := (44, [some (.ref (ad 0)), some (.int x), some (.int y), some (.int z), none, none], [.ref (ad 0)])) ⟨dX7_addGuild_43, trivial⟩ rfl ?_
  refine zw_getf X (i := 0) (by omega) zc_0 (C := RX7) (T := TX7) (Nf := 16) rfl zi_X7 11 (by decide) rfl zm_110 rfl dX7_addGuild_44 ?_
  rw [e0]
  refine zw_run X (is := [(47, .istore 4, 2), (49, .aload_n 0, 1)]) (t' := (50, [some (.ref (ad 0)), some (.int x), some (.int y), some (.int z), some (.int (nI gc)), none], [.ref (ad 0)])) ⟨dX7_addGuild_47, dX7_addGuild_49, trivial⟩ rfl ?_
  refine zw_getf X (i := 0) (by omega) zc_0 (C := RX7) (T := TX7) (Nf := 16) rfl zi_X7 0 (by decide) rfl zm_18 rfl dX7_addGuild_50 ?_
  refine zw_run X (is := [(53, .iload 4, 2)]) (t' := (55, [some (.ref (ad 0)), some (.int x), some (.int y), some (.int z), some (.int (nI gc)), none], [.int (nI gc), .ref (ad 1)])) ⟨dX7_addGuild_53, trivial⟩ rfl ?_
  refine zw_guild X (by omega) (g := gc) rfl hgc dX7_addGuild_55 ?_
  refine zw_run X (is := [(56, .astore 5, 2), (58, .aload 5, 2), (60, .iload_n 1, 1)]) (t' := (61, [some (.ref (ad 0)), some (.int x), some (.int y), some (.int z), some (.int (nI gc)), some (.ref (ad (8 + gc)))], [.int x, .ref (ad (8 + gc))])) ⟨dX7_addGuild_56, dX7_addGuild_58, dX7_addGuild_60, trivial⟩ rfl ?_
  refine zw_put X hD hAd (i := 8 + gc) (by omega) (zc_G hgc) (C := RX1) (T := TX1) (Nf := 7) rfl zi_X1 tyX1 tyX1_ok nmX1 0 (by decide) rfl rfl zm_111 (ty := .int) (by decide +kernel) rfl rfl (Nat.le_of_ble_eq_true rfl) (zc_G hgc) dX7_addGuild_61 ?_
  refine zw_run X (is := [(64, .aload 5, 2)]) (t' := (66, [some (.ref (ad 0)), some (.int x), some (.int y), some (.int z), some (.int (nI gc)), some (.ref (ad (8 + gc)))], [.ref (ad (8 + gc))])) ⟨dX7_addGuild_64, trivial⟩ rfl ?_
  refine zw_getf X (i := 8 + gc) (by omega) (zc_G hgc) (C := RX1) (T := TX1) (Nf := 7) rfl zi_X1 6 (by decide) rfl zm_112 rfl dX7_addGuild_66 ?_
  refine zw_run X (is := [(69, .iload_n 2, 1), (70, .iload_n 3, 1)]) (t' := (71, [some (.ref (ad 0)), some (.int x), some (.int y), some (.int z), some (.int (nI gc)), some (.ref (ad (8 + gc)))], [.int z, .int y, .ref (ad (16 + gc))])) ⟨dX7_addGuild_69, dX7_addGuild_70, trivial⟩ rfl ?_
  refine zw_Vv X hAd (As := [.int y, .int z]) (rest := []) (d := 0) (i := 16 + gc) (by omega) (zc_P hgc) (q := (RX4, TX4, 7)) rfl ⟨zm_119, zm_120, zm_121, zm_81, zm_122, rfl, by decide, by decide, (show (parseMethodDescriptor yX4_write.desc).map (fun d => d.parameters.length) = some 2 by decide +kernel)⟩ (fun sz => c_write hls hD hn (zu σ (8 + gc) 0 x) gc hgc y z sz) rfl rfl (Nat.le_of_ble_eq_true rfl) ⟨Nat.le_of_ble_eq_true rfl, Nat.le_of_ble_eq_true rfl⟩ ⟨Nat.zero_le _, Nat.zero_le _⟩ dX7_addGuild_71 ?_
  refine zw_run X (is := [(74, .aload_n 0, 1), (75, .dup, 1)]) (t' := (76, [some (.ref (ad 0)), some (.int x), some (.int y), some (.int z), some (.int (nI gc)), some (.ref (ad (8 + gc)))], [.ref (ad 0), .ref (ad 0)])) ⟨dX7_addGuild_74, dX7_addGuild_75, trivial⟩ rfl ?_
  refine zw_getf X (i := 0) (by omega) zc_0 (C := RX7) (T := TX7) (Nf := 16) rfl zi_X7 14 (by decide) rfl zm_113 rfl dX7_addGuild_76 ?_
  refine zw_run X (is := [(79, .iload_n 1, 1), (80, .iadd, 1)]) (t' := (81, [some (.ref (ad 0)), some (.int x), some (.int y), some (.int z), some (.int (nI gc)), some (.ref (ad (8 + gc)))], [.int (((zu (zu (zu (zu σ (8 + gc) 0 x) (16 + gc) 0 y) (16 + gc) 4 y) (16 + gc) 1 z) (0) 14) + x), .ref (ad 0)])) ⟨dX7_addGuild_79, dX7_addGuild_80, trivial⟩ rfl ?_
  refine zw_put X hD hAd (i := 0) (by omega) zc_0 (C := RX7) (T := TX7) (Nf := 16) rfl zi_X7 tyX7 tyX7_ok nmX7 14 (by decide) rfl rfl zm_113 (ty := .int) (by decide +kernel) rfl rfl (Nat.le_of_ble_eq_true rfl) zc_0 dX7_addGuild_81 ?_
  refine zw_run X (is := [(84, .aload_n 0, 1)]) (t' := (85, [some (.ref (ad 0)), some (.int x), some (.int y), some (.int z), some (.int (nI gc)), some (.ref (ad (8 + gc)))], [.ref (ad 0)])) ⟨dX7_addGuild_84, trivial⟩ rfl ?_
  refine zw_getf X (i := 0) (by omega) zc_0 (C := RX7) (T := TX7) (Nf := 16) rfl zi_X7 1 (by decide) rfl zm_19 rfl dX7_addGuild_85 ?_
  refine zw_run X (is := [(88, .iload 4, 2), (90, .iload 4, 2)]) (t' := (92, [some (.ref (ad 0)), some (.int x), some (.int y), some (.int z), some (.int (nI gc)), some (.ref (ad (8 + gc)))], [.int (nI gc), .int (nI gc), .ref (ad 2)])) ⟨dX7_addGuild_88, dX7_addGuild_90, trivial⟩ rfl ?_
  refine zw_iast X hD hAd (i := 2) (by omega) (len := 8) (fun _ => zc_2) (j := gc) rfl hgc (by decide) dX7_addGuild_92 ?_
  refine zw_run X (is := [(93, .aload_n 0, 1), (94, .dup, 1)]) (t' := (95, [some (.ref (ad 0)), some (.int x), some (.int y), some (.int z), some (.int (nI gc)), some (.ref (ad (8 + gc)))], [.ref (ad 0), .ref (ad 0)])) ⟨dX7_addGuild_93, dX7_addGuild_94, trivial⟩ rfl ?_
  refine zw_getf X (i := 0) (by omega) zc_0 (C := RX7) (T := TX7) (Nf := 16) rfl zi_X7 11 (by decide) rfl zm_110 rfl dX7_addGuild_95 ?_
  refine zw_run X (is := [(98, .iconst 1, 1), (99, .iadd, 1)]) (t' := (100, [some (.ref (ad 0)), some (.int x), some (.int y), some (.int z), some (.int (nI gc)), some (.ref (ad (8 + gc)))], [.int (((zu (zu (zu (zu (zu (zu σ (8 + gc) 0 x) (16 + gc) 0 y) (16 + gc) 4 y) (16 + gc) 1 z) (0) 14 (((zu (zu (zu (zu σ (8 + gc) 0 x) (16 + gc) 0 y) (16 + gc) 4 y) (16 + gc) 1 z) (0) 14) + x)) (2) gc (nI gc)) (0) 11) + 1), .ref (ad 0)])) ⟨dX7_addGuild_98, dX7_addGuild_99, trivial⟩ rfl ?_
  refine zw_put X hD hAd (i := 0) (by omega) zc_0 (C := RX7) (T := TX7) (Nf := 16) rfl zi_X7 tyX7 tyX7_ok nmX7 11 (by decide) rfl rfl zm_110 (ty := .int) (by decide +kernel) rfl rfl (Nat.le_of_ble_eq_true rfl) zc_0 dX7_addGuild_100 ?_
  refine zw_run X (is := [(103, .iload 4, 2)]) (t' := (105, [some (.ref (ad 0)), some (.int x), some (.int y), some (.int z), some (.int (nI gc)), some (.ref (ad (8 + gc)))], [.int (nI gc)])) ⟨dX7_addGuild_103, trivial⟩ rfl ?_
  exact zw_iret X hr dX7_addGuild_105 rfl rfl rfl

set_option maxHeartbeats 4000000 in
set_option maxRecDepth 100000 in
theorem c_addGuild_w {l : Launch} (hls : l.stackTraces = false) {D : va_G} {cy : Nat → ClassId} {wa : Nat → Nat} {N n : Nat} {ad : Nat → Nat} (hD : zD n ad) (hn : 40 ≤ n) (σ : zS) (y z : Int32) (sz : Nat) : vx_Met l yX7_addGuild (.code yX7_addGuild cX7_addGuild 6 (some .int) :: zB) (zRx 2) (zPc [.ref (ad 0), .int 10000, .int y, .int z] D cy wa N n ad σ sz) zNo (zXC "java/lang/IllegalArgumentException" D cy N n ad (σ) sz) 1 6 (zA n ad sz) := by
  refine z_metx (by decide) hls (List.forall_mem_cons.mpr ⟨rfl, (List.forall_mem_cons.mpr ⟨rfl, (List.forall_mem_cons.mpr ⟨rfl, (List.forall_mem_cons.mpr ⟨rfl, (fun _ h => nomatch h)⟩)⟩)⟩)⟩) (Nat.le_of_ble_eq_true rfl) (fun p_ e_ s_ m_ below_ meth_ c_ hsz hr hno X => ?_)
  have X : zX p_ l s_ m_ [.ref (ad 0), .int 10000, .int y, .int z].toArray meth_ c_ cX7_addGuild 6 RX7 D cy wa (zA n ad sz) := X
  have hAd : ∀ i, i < n → zA n ad sz (ad i) := fun i hi => Or.inl ⟨i, hi, rfl⟩
  refine zw_run X (is := [(0, .iload_n 1, 1), (1, .iconst 0, 1), (2, .sipush 9999, 3)]) (t' := (5, [some (.ref (ad 0)), some (.int 10000), some (.int y), some (.int z), none, none], [.int 9999, .int 0, .int 10000])) ⟨dX7_addGuild_0, dX7_addGuild_1, dX7_addGuild_2, trivial⟩ rfl ?_
  exact zw_So X hno hAd rfl (As := [.int 10000, .int 0, .int 9999]) (rest := []) (d := 0) ⟨zm_114, zm_115, zm_2, zm_116, by decide, by decide, (show (parseMethodDescriptor yX7_needRange.desc).map (fun d => d.parameters.length) = some 3 by decide +kernel)⟩ (fun sz => c_needRange_hi hls hD hn σ 10000 0 9999 (by decide) (by decide) sz) rfl rfl (Nat.le_of_ble_eq_true rfl) ⟨Nat.le_of_ble_eq_true rfl, Nat.le_of_ble_eq_true rfl⟩ ⟨Nat.le_of_ble_eq_true rfl, Nat.le_of_ble_eq_true rfl⟩ dX7_addGuild_5

set_option maxHeartbeats 4000000 in
set_option maxRecDepth 100000 in
theorem c_addGuild_l {l : Launch} (hls : l.stackTraces = false) {D : va_G} {cy : Nat → ClassId} {wa : Nat → Nat} {N n : Nat} {ad : Nat → Nat} (hD : zD n ad) (hn : 40 ≤ n) (σ : zS) (x z : Int32) (h1 : ¬ x < 0) (h2 : x ≤ 9999) (sz : Nat) : vx_Met l yX7_addGuild (.code yX7_addGuild cX7_addGuild 6 (some .int) :: zB) (zRx 2) (zPc [.ref (ad 0), .int x, .int 19, .int z] D cy wa N n ad σ sz) zNo (zXC "java/lang/IllegalArgumentException" D cy N n ad (σ) sz) 1 6 (zA n ad sz) := by
  refine z_metx (by decide) hls (List.forall_mem_cons.mpr ⟨rfl, (List.forall_mem_cons.mpr ⟨rfl, (List.forall_mem_cons.mpr ⟨rfl, (List.forall_mem_cons.mpr ⟨rfl, (fun _ h => nomatch h)⟩)⟩)⟩)⟩) (Nat.le_of_ble_eq_true rfl) (fun p_ e_ s_ m_ below_ meth_ c_ hsz hr hno X => ?_)
  have X : zX p_ l s_ m_ [.ref (ad 0), .int x, .int 19, .int z].toArray meth_ c_ cX7_addGuild 6 RX7 D cy wa (zA n ad sz) := X
  have hAd : ∀ i, i < n → zA n ad sz (ad i) := fun i hi => Or.inl ⟨i, hi, rfl⟩
  refine zw_run X (is := [(0, .iload_n 1, 1), (1, .iconst 0, 1), (2, .sipush 9999, 3)]) (t' := (5, [some (.ref (ad 0)), some (.int x), some (.int 19), some (.int z), none, none], [.int 9999, .int 0, .int x])) ⟨dX7_addGuild_0, dX7_addGuild_1, dX7_addGuild_2, trivial⟩ rfl ?_
  refine zw_Sv X hAd (As := [.int x, .int 0, .int 9999]) (rest := []) (d := 0) ⟨zm_114, zm_115, zm_2, zm_116, by decide, by decide, (show (parseMethodDescriptor yX7_needRange.desc).map (fun d => d.parameters.length) = some 3 by decide +kernel)⟩ (fun sz => c_needRange hls hD hn σ x 0 9999 h1 h2 sz) rfl rfl (Nat.le_of_ble_eq_true rfl) ⟨Nat.le_of_ble_eq_true rfl, Nat.le_of_ble_eq_true rfl⟩ ⟨Nat.zero_le _, Nat.zero_le _⟩ dX7_addGuild_5 ?_
  refine zw_run X (is := [(8, .iload_n 2, 1), (9, .bipush 20, 2), (11, .sipush 400, 3)]) (t' := (14, [some (.ref (ad 0)), some (.int x), some (.int 19), some (.int z), none, none], [.int 400, .int 20, .int 19])) ⟨dX7_addGuild_8, dX7_addGuild_9, dX7_addGuild_11, trivial⟩ rfl ?_
  exact zw_So X hno hAd rfl (As := [.int 19, .int 20, .int 400]) (rest := []) (d := 0) ⟨zm_114, zm_115, zm_2, zm_116, by decide, by decide, (show (parseMethodDescriptor yX7_needRange.desc).map (fun d => d.parameters.length) = some 3 by decide +kernel)⟩ (fun sz => c_needRange_lo hls hD hn σ 19 20 400 (by decide) sz) rfl rfl (Nat.le_of_ble_eq_true rfl) ⟨Nat.le_of_ble_eq_true rfl, Nat.le_of_ble_eq_true rfl⟩ ⟨Nat.le_of_ble_eq_true rfl, Nat.le_of_ble_eq_true rfl⟩ dX7_addGuild_14

set_option maxHeartbeats 4000000 in
set_option maxRecDepth 100000 in
theorem c_addGuild_p {l : Launch} (hls : l.stackTraces = false) {D : va_G} {cy : Nat → ClassId} {wa : Nat → Nat} {N n : Nat} {ad : Nat → Nat} (hD : zD n ad) (hn : 40 ≤ n) (σ : zS) (x y : Int32) (h1 : ¬ x < 0) (h2 : x ≤ 9999) (h3 : ¬ y < 20) (h4 : y ≤ 400) (sz : Nat) : vx_Met l yX7_addGuild (.code yX7_addGuild cX7_addGuild 6 (some .int) :: zB) (zRx 2) (zPc [.ref (ad 0), .int x, .int y, .int 9] D cy wa N n ad σ sz) zNo (zXC "java/lang/IllegalArgumentException" D cy N n ad (σ) sz) 1 6 (zA n ad sz) := by
  refine z_metx (by decide) hls (List.forall_mem_cons.mpr ⟨rfl, (List.forall_mem_cons.mpr ⟨rfl, (List.forall_mem_cons.mpr ⟨rfl, (List.forall_mem_cons.mpr ⟨rfl, (fun _ h => nomatch h)⟩)⟩)⟩)⟩) (Nat.le_of_ble_eq_true rfl) (fun p_ e_ s_ m_ below_ meth_ c_ hsz hr hno X => ?_)
  have X : zX p_ l s_ m_ [.ref (ad 0), .int x, .int y, .int 9].toArray meth_ c_ cX7_addGuild 6 RX7 D cy wa (zA n ad sz) := X
  have hAd : ∀ i, i < n → zA n ad sz (ad i) := fun i hi => Or.inl ⟨i, hi, rfl⟩
  refine zw_run X (is := [(0, .iload_n 1, 1), (1, .iconst 0, 1), (2, .sipush 9999, 3)]) (t' := (5, [some (.ref (ad 0)), some (.int x), some (.int y), some (.int 9), none, none], [.int 9999, .int 0, .int x])) ⟨dX7_addGuild_0, dX7_addGuild_1, dX7_addGuild_2, trivial⟩ rfl ?_
  refine zw_Sv X hAd (As := [.int x, .int 0, .int 9999]) (rest := []) (d := 0) ⟨zm_114, zm_115, zm_2, zm_116, by decide, by decide, (show (parseMethodDescriptor yX7_needRange.desc).map (fun d => d.parameters.length) = some 3 by decide +kernel)⟩ (fun sz => c_needRange hls hD hn σ x 0 9999 h1 h2 sz) rfl rfl (Nat.le_of_ble_eq_true rfl) ⟨Nat.le_of_ble_eq_true rfl, Nat.le_of_ble_eq_true rfl⟩ ⟨Nat.zero_le _, Nat.zero_le _⟩ dX7_addGuild_5 ?_
  refine zw_run X (is := [(8, .iload_n 2, 1), (9, .bipush 20, 2), (11, .sipush 400, 3)]) (t' := (14, [some (.ref (ad 0)), some (.int x), some (.int y), some (.int 9), none, none], [.int 400, .int 20, .int y])) ⟨dX7_addGuild_8, dX7_addGuild_9, dX7_addGuild_11, trivial⟩ rfl ?_
  refine zw_Sv X hAd (As := [.int y, .int 20, .int 400]) (rest := []) (d := 0) ⟨zm_114, zm_115, zm_2, zm_116, by decide, by decide, (show (parseMethodDescriptor yX7_needRange.desc).map (fun d => d.parameters.length) = some 3 by decide +kernel)⟩ (fun sz => c_needRange hls hD hn σ y 20 400 h3 h4 sz) rfl rfl (Nat.le_of_ble_eq_true rfl) ⟨Nat.le_of_ble_eq_true rfl, Nat.le_of_ble_eq_true rfl⟩ ⟨Nat.zero_le _, Nat.zero_le _⟩ dX7_addGuild_14 ?_
  refine zw_run X (is := [(17, .iload_n 3, 1), (18, .iconst 1, 1), (19, .bipush 8, 2)]) (t' := (21, [some (.ref (ad 0)), some (.int x), some (.int y), some (.int 9), none, none], [.int 8, .int 1, .int 9])) ⟨dX7_addGuild_17, dX7_addGuild_18, dX7_addGuild_19, trivial⟩ rfl ?_
  exact zw_So X hno hAd rfl (As := [.int 9, .int 1, .int 8]) (rest := []) (d := 0) ⟨zm_114, zm_115, zm_2, zm_116, by decide, by decide, (show (parseMethodDescriptor yX7_needRange.desc).map (fun d => d.parameters.length) = some 3 by decide +kernel)⟩ (fun sz => c_needRange_hi hls hD hn σ 9 1 8 (by decide) (by decide) sz) rfl rfl (Nat.le_of_ble_eq_true rfl) ⟨Nat.le_of_ble_eq_true rfl, Nat.le_of_ble_eq_true rfl⟩ ⟨Nat.le_of_ble_eq_true rfl, Nat.le_of_ble_eq_true rfl⟩ dX7_addGuild_21

theorem z_forget {k : Nat} (hk : k ≤ 100) : (if (0 : Int32) < nI k - 30 then nI k - 30 else 0) = nI (k - 30) := by
  by_cases h : 30 < k
  · rw [show nI k - 30 = nI (k - 30) from pk_sub (b := 30) (by omega), if_pos (show (0 : Int32) < nI (k - 30) from nI_lt (a := 0) (b := k - 30) (by omega) (by omega))]
  · by_cases h3 : k = 30
    · subst h3
      rfl
    · rw [if_neg (fun q => absurd (pk_sneg (a := k) (b := 30) (by decide) (by omega)) (by
        have q1 : (0 : Int32) < nI k - nI 30 := q
        rw [Int32.lt_iff_toInt_lt] at q1 ⊢
        intro q2
        have e : (0 : Int32).toInt = 0 := rfl
        rw [e] at q1 q2
        omega)), show k - 30 = 0 by omega]
      rfl
/-- every guild's learning, a year on -/
def zyr (σ : zS) (E : Nat → Nat) : Nat → zS
  | 0 => σ
  | k + 1 => zu (zyr σ E k) (16 + k) 3 (nI (E k - 30))
theorem zyr_off {σ : zS} {E : Nat → Nat} {a b : Nat} (h : b ≠ 3 ∨ a < 16) : ∀ k, zyr σ E k a b = σ a b
  | 0 => rfl
  | k + 1 => by
    show zu (zyr σ E k) (16 + k) 3 _ a b = σ a b
    rw [zu_n (by omega), zyr_off h k]
theorem zyr_hi {σ : zS} {E : Nat → Nat} {g : Nat} : ∀ k, k ≤ g → zyr σ E k (16 + g) 3 = σ (16 + g) 3
  | 0, _ => rfl
  | k + 1, h => by
    show zu (zyr σ E k) (16 + k) 3 _ (16 + g) 3 = _
    rw [zu_n (by omega), zyr_hi k (by omega)]
theorem zyr_lo {σ : zS} {E : Nat → Nat} {g : Nat} : ∀ k, g < k → zyr σ E k (16 + g) 3 = nI (E g - 30)
  | 0, h => absurd h (by omega)
  | k + 1, h => by
    show zu (zyr σ E k) (16 + k) 3 _ (16 + g) 3 = _
    by_cases e : g = k
    · subst e
      exact zu_s
    · rw [zu_n (by omega), zyr_lo k (by omega)]
theorem zyr_big {σ : zS} {E : Nat → Nat} {a b : Nat} (h : 24 ≤ a) : ∀ k, k ≤ 8 → zyr σ E k a b = σ a b
  | 0, _ => rfl
  | k + 1, hk => by
    show zu (zyr σ E k) (16 + k) 3 _ a b = σ a b
    rw [zu_n (by omega), zyr_big h k (by omega)]

set_option maxHeartbeats 4000000 in
set_option maxRecDepth 100000 in
theorem c_forget {l : Launch} (hls : l.stackTraces = false) {D : va_G} {cy : Nat → ClassId} {wa : Nat → Nat} {N n : Nat} {ad : Nat → Nat} (hD : zD n ad) (hn : 40 ≤ n) (σ : zS) (g : Nat) (hg8 : g < 8) (k : Nat) (hk : k ≤ 100) (ek : σ (16 + g) 3 = nI k) (sz : Nat) : Met l yX4_forget (.code yX4_forget cX4_forget 1 none :: zB) (zRm 1) (zPc [.ref (ad (16 + g))] D cy wa N n ad σ sz) (zQv D cy N n ad (zu σ (16 + g) 3 (nI (k - 30))) sz) 0 0 (zA n ad sz) := by
  refine z_met (by decide) hls (List.forall_mem_cons.mpr ⟨rfl, (fun _ h => nomatch h)⟩) (Nat.le_of_ble_eq_true rfl) (fun p_ e_ s_ m_ below_ meth_ c_ hsz hr X => ?_)
  have X : zX p_ l s_ m_ [.ref (ad (16 + g))].toArray meth_ c_ cX4_forget 1 RX4 D cy wa (zA n ad sz) := X
  have hAd : ∀ i, i < n → zA n ad sz (ad i) := fun i hi => Or.inl ⟨i, hi, rfl⟩
  refine zw_run X (is := [(0, .aload_n 0, 1), (1, .iconst 0, 1), (2, .aload_n 0, 1)]) (t' := (3, [some (.ref (ad (16 + g)))], [.ref (ad (16 + g)), .int 0, .ref (ad (16 + g))])) ⟨dX4_forget_0, dX4_forget_1, dX4_forget_2, trivial⟩ rfl ?_
  refine zw_getf X (i := 16 + g) (by omega) (zc_P hg8) (C := RX4) (T := TX4) (Nf := 7) rfl zi_X4 3 (by decide) rfl zm_370 rfl dX4_forget_3 ?_
  rw [ek]
  refine zw_run X (is := [(6, .bipush 30, 2), (8, .isub, 1)]) (t' := (9, [some (.ref (ad (16 + g)))], [.int ((nI k) - 30), .int 0, .ref (ad (16 + g))])) ⟨dX4_forget_6, dX4_forget_8, trivial⟩ rfl ?_
  refine zw_max X zm_371 zm_372 zm_238 zm_373 rfl ⟨Nat.le_of_ble_eq_true rfl, Nat.le_of_ble_eq_true rfl⟩ ⟨Nat.zero_le _, Nat.zero_le _⟩ (v := nI (k - 30)) (z_forget hk) dX4_forget_9 ?_
  refine zw_put X hD hAd (i := 16 + g) (by omega) (zc_P hg8) (C := RX4) (T := TX4) (Nf := 7) rfl zi_X4 tyX4 tyX4_ok nmX4 3 (by decide) rfl rfl zm_370 (ty := .int) (by decide +kernel) rfl rfl (Nat.le_of_ble_eq_true rfl) (zc_P hg8) dX4_forget_12 ?_
  exact zw_vret X hr dX4_forget_15 rfl rfl

set_option maxHeartbeats 4000000 in
set_option maxRecDepth 100000 in
theorem lp_year {p : Program} {l : Launch} {e : Env} {R : Room} {s : State} {m : MethodId} {args : Array Value} {below : List Frame} {meth : Method} {c : Code} {D : va_G} {cy : Nat → ClassId} {wa : Nat → Nat} {N : Nat} {A : Nat → Prop} {n : Nat} {ad : Nat → Nat} {cells slots : Nat} {Q : State → Prop} (X : zX p l s m args meth c cX7_year 2 RX7 D cy wa A) (hD : zD n ad) (hAd : ∀ i, i < n → A (ad i)) (hn : 40 ≤ n) (σ : zS) (hls : l.stackTraces = false) (hR : 5 ≤ R.frames ∧ 200 ≤ R.locals ∧ cells ≤ R.cells ∧ slots ≤ R.slots) (gc : Nat) (hgc : gc ≤ 8) (e0 : σ 0 11 = nI gc) (E : Nat → Nat) (hE : ∀ k, k < gc → σ (16 + k) 3 = nI (E k) ∧ E k ≤ 100)  (kk : zW p l e R s m args below meth c D cy N A n ad cells slots Q (63, [some (.ref (ad 0)), some (.int (nI gc))], []) (zyr σ E gc)) : ∀ (d k : Nat), k + d = gc → zW p l e R s m args below meth c D cy N A n ad cells slots Q (37, [some (.ref (ad 0)), some (.int (nI k))], []) (zyr σ E k) := by
  intro d
  induction d with
  | zero =>
    intro k hk
    obtain rfl : k = gc := by omega
    refine zw_run X (is := [(37, .iload_n 1, 1), (38, .aload_n 0, 1)]) (t' := (39, [some (.ref (ad 0)), some (.int (nI k))], [.ref (ad 0), .int (nI k)])) ⟨dX7_year_37, dX7_year_38, trivial⟩ rfl ?_
    refine zw_getf X (i := 0) (by omega) zc_0 (C := RX7) (T := TX7) (Nf := 16) rfl zi_X7 11 (by decide) rfl zm_110 rfl dX7_year_39 ?_
    refine zw_icmp_ge X (tgt := 63) dX7_year_42 (by decide) (fun _ => ?_) (fun h_ => absurd (by rw [zyr_off (by omega), e0]; exact nI_le (Nat.le_refl _) (by omega)) h_)
    exact kk
  | succ d ih =>
    intro k hk
    have hk8 : k < 8 := by omega
    obtain ⟨ek, hk1⟩ := hE k (by omega)
    refine zw_run X (is := [(37, .iload_n 1, 1), (38, .aload_n 0, 1)]) (t' := (39, [some (.ref (ad 0)), some (.int (nI k))], [.ref (ad 0), .int (nI k)])) ⟨dX7_year_37, dX7_year_38, trivial⟩ rfl ?_
    refine zw_getf X (i := 0) (by omega) zc_0 (C := RX7) (T := TX7) (Nf := 16) rfl zi_X7 11 (by decide) rfl zm_110 rfl dX7_year_39 ?_
    refine zw_icmp_ge X (tgt := 63) dX7_year_42 (by decide) (fun h_ => absurd h_ (by rw [zyr_off (by omega), e0]; exact nI_ge (by omega) (by omega))) (fun _ => ?_)
    refine zw_run X (is := [(45, .aload_n 0, 1)]) (t' := (46, [some (.ref (ad 0)), some (.int (nI k))], [.ref (ad 0)])) ⟨dX7_year_45, trivial⟩ rfl ?_
    refine zw_getf X (i := 0) (by omega) zc_0 (C := RX7) (T := TX7) (Nf := 16) rfl zi_X7 0 (by decide) rfl zm_18 rfl dX7_year_46 ?_
    refine zw_run X (is := [(49, .iload_n 1, 1)]) (t' := (50, [some (.ref (ad 0)), some (.int (nI k))], [.int (nI k), .ref (ad 1)])) ⟨dX7_year_49, trivial⟩ rfl ?_
    refine zw_guild X (by omega) (g := k) rfl hk8 dX7_year_50 ?_
    refine zw_getf X (i := 8 + k) (by omega) (zc_G hk8) (C := RX1) (T := TX1) (Nf := 7) rfl zi_X1 6 (by decide) rfl zm_112 rfl dX7_year_51 ?_
    refine zw_Vv X hAd (As := []) (rest := []) (d := 1) (i := 16 + k) (by omega) (zc_P hk8) (q := (RX4, TX4, 7)) rfl ⟨zm_366, zm_367, zm_368, zm_81, zm_369, rfl, by decide, by decide, (show (parseMethodDescriptor yX4_forget.desc).map (fun d => d.parameters.length) = some 0 by decide +kernel)⟩ (fun sz => c_forget hls hD hn (zyr σ E k) k hk8 (E k) hk1 (by rw [zyr_hi k (Nat.le_refl _)]; exact ek) sz) rfl rfl (Nat.le_of_ble_eq_true rfl) ⟨by omega, by omega⟩ ⟨hR.2.2.1, hR.2.2.2⟩ dX7_year_54 ?_
    refine zw_run X (is := [(57, .iinc 1 1, 3)]) (t' := (60, [some (.ref (ad 0)), some (.int (nI k + 1))], [])) ⟨dX7_year_57, trivial⟩ rfl ?_
    refine zw_go X (tgt := 37) dX7_year_60 (by decide) ?_
    rw [nI_1]
    exact ih (k + 1) (by omega)

set_option maxHeartbeats 4000000 in
set_option maxRecDepth 100000 in
theorem c_year {l : Launch} (hls : l.stackTraces = false) {D : va_G} {cy : Nat → ClassId} {wa : Nat → Nat} {N n : Nat} {ad : Nat → Nat} (hD : zD n ad) (hn : 40 ≤ n) (σ : zS) (gc : Nat) (hgc : gc ≤ 8) (e0 : σ 0 11 = nI gc) (E : Nat → Nat) (hE : ∀ k, k < gc → σ (16 + k) 3 = nI (E k) ∧ E k ≤ 100) (e3 : σ 3 2 = 0) (y : Nat) (hy : y < 99) (e12 : σ 0 12 = nI y) (sz : Nat) : Met l yX7_year (.code yX7_year cX7_year 2 (some .int) :: zB) (zRm 5) (zPc [.ref (ad 0)] D cy wa N n ad σ sz) (zQi (nI (y + 1)) D cy N n ad (zyr (zu (zu σ 0 12 (nI (y + 1))) 0 15 0) E gc) sz) 0 0 (zA n ad sz) := by
  refine z_met (by decide) hls (List.forall_mem_cons.mpr ⟨rfl, (fun _ h => nomatch h)⟩) (Nat.le_of_ble_eq_true rfl) (fun p_ e_ s_ m_ below_ meth_ c_ hsz hr X => ?_)
  have X : zX p_ l s_ m_ [.ref (ad 0)].toArray meth_ c_ cX7_year 2 RX7 D cy wa (zA n ad sz) := X
  have hAd : ∀ i, i < n → zA n ad sz (ad i) := fun i hi => Or.inl ⟨i, hi, rfl⟩
  refine zw_run X (is := [(0, .aload_n 0, 1)]) (t' := (1, [some (.ref (ad 0)), none], [.ref (ad 0)])) ⟨dX7_year_0, trivial⟩ rfl ?_
  refine zw_getf X (i := 0) (by omega) zc_0 (C := RX7) (T := TX7) (Nf := 16) rfl zi_X7 12 (by decide) rfl zm_362 rfl dX7_year_1 ?_
  rw [e12]
  refine zw_run X (is := [(4, .bipush 99, 2)]) (t' := (6, [some (.ref (ad 0)), none], [.int 99, .int (nI y)])) ⟨dX7_year_4, trivial⟩ rfl ?_
  refine zw_icmp_lt X (tgt := 20) dX7_year_6 (by decide) (fun _ => ?_) (fun h_ => absurd (nI_lt hy (by decide)) h_)
  refine zw_run X (is := [(20, .aload_n 0, 1), (21, .dup, 1)]) (t' := (22, [some (.ref (ad 0)), none], [.ref (ad 0), .ref (ad 0)])) ⟨dX7_year_20, dX7_year_21, trivial⟩ rfl ?_
  refine zw_getf X (i := 0) (by omega) zc_0 (C := RX7) (T := TX7) (Nf := 16) rfl zi_X7 12 (by decide) rfl zm_362 rfl dX7_year_22 ?_
  rw [e12]
  refine zw_run X (is := [(25, .iconst 1, 1), (26, .iadd, 1)]) (t' := (27, [some (.ref (ad 0)), none], [.int ((nI y) + 1), .ref (ad 0)])) ⟨dX7_year_25, dX7_year_26, trivial⟩ rfl ?_
  rw [nI_1]
  refine zw_put X hD hAd (i := 0) (by omega) zc_0 (C := RX7) (T := TX7) (Nf := 16) rfl zi_X7 tyX7 tyX7_ok nmX7 12 (by decide) rfl rfl zm_362 (ty := .int) (by decide +kernel) rfl rfl (Nat.le_of_ble_eq_true rfl) zc_0 dX7_year_27 ?_
  refine zw_run X (is := [(30, .aload_n 0, 1), (31, .iconst 0, 1)]) (t' := (32, [some (.ref (ad 0)), none], [.int 0, .ref (ad 0)])) ⟨dX7_year_30, dX7_year_31, trivial⟩ rfl ?_
  refine zw_put X hD hAd (i := 0) (by omega) zc_0 (C := RX7) (T := TX7) (Nf := 16) rfl zi_X7 tyX7 tyX7_ok nmX7 15 (by decide) rfl rfl zm_363 (ty := .boolean) (by decide +kernel) (by decide) (by decide) (Nat.le_of_ble_eq_true rfl) zc_0 dX7_year_32 ?_
  refine zw_run X (is := [(35, .iconst 0, 1), (36, .istore_n 1, 1)]) (t' := (37, [some (.ref (ad 0)), some (.int 0)], [])) ⟨dX7_year_35, dX7_year_36, trivial⟩ rfl ?_
  refine lp_year X hD hAd hn (zu (zu σ 0 12 (nI (y + 1))) 0 15 0) hls ⟨Nat.le_of_ble_eq_true rfl, Nat.le_of_ble_eq_true rfl, Nat.zero_le _, Nat.zero_le _⟩ gc hgc (by rw [zu_n (by omega), zu_n (by omega)]; exact e0) E (fun k hk => by rw [zu_n (by omega), zu_n (by omega)]; exact hE k hk) ?_ gc 0 (by omega)
  refine zw_run X (is := [(63, .iconst 0, 1), (64, .istore_n 1, 1), (65, .iload_n 1, 1), (66, .aload_n 0, 1)]) (t' := (67, [some (.ref (ad 0)), some (.int 0)], [.ref (ad 0), .int 0])) ⟨dX7_year_63, dX7_year_64, dX7_year_65, dX7_year_66, trivial⟩ rfl ?_
  refine zw_getf X (i := 0) (by omega) zc_0 (C := RX7) (T := TX7) (Nf := 16) rfl zi_X7 2 (by decide) rfl zm_23 rfl dX7_year_67 ?_
  refine zw_getf X (i := 3) (by omega) zc_3 (C := RX0) (T := TX0) (Nf := 3) rfl zi_X0 2 (by decide) rfl zm_364 rfl dX7_year_70 ?_
  refine zw_icmp_ge X (tgt := 94) dX7_year_73 (by decide) (fun _ => ?_) (fun h_ => absurd (by rw [zyr_off (by omega), zu_n (by omega), zu_n (by omega), e3]; decide) h_)
  refine zw_run X (is := [(94, .aload_n 0, 1)]) (t' := (95, [some (.ref (ad 0)), some (.int 0)], [.ref (ad 0)])) ⟨dX7_year_94, trivial⟩ rfl ?_
  refine zw_getf X (i := 0) (by omega) zc_0 (C := RX7) (T := TX7) (Nf := 16) rfl zi_X7 12 (by decide) rfl zm_362 rfl dX7_year_95 ?_
  exact zw_iret X hr dX7_year_98 rfl (by rw [zyr_off (by omega), zu_n (by omega), zu_s]) rfl

/-- the book brought up to date for the first k guilds -/
def zca (σ : zS) (T : Nat → Nat) : Nat → zS
  | 0 => σ
  | k + 1 => zbb (zca σ T k) k (T k)
theorem zbb_off {σ : zS} {g t a b : Nat} (h1 : a ≠ 32 + g) (h2 : ¬ (a = 16 + g ∧ b = 4)) : zbb σ g t a b = σ a b := by
  unfold zbb
  rw [zcl_off h1, zu_n h2]
theorem zca_off {σ : zS} {T : Nat → Nat} {a b : Nat} (h1 : a < 32 ∨ 40 ≤ a) (h2 : b ≠ 4 ∨ a < 16 ∨ 24 ≤ a) : ∀ k, k ≤ 8 → zca σ T k a b = σ a b
  | 0, _ => rfl
  | k + 1, hk => by
    show zbb (zca σ T k) k (T k) a b = σ a b
    rw [zbb_off (by omega) (by omega), zca_off h1 h2 k (by omega)]
theorem zca_hi {σ : zS} {T : Nat → Nat} {g b : Nat} (hg : g < 8) : ∀ k, k ≤ g → k ≤ 8 → zca σ T k (16 + g) b = σ (16 + g) b
  | 0, _, _ => rfl
  | k + 1, h, hk => by
    show zbb (zca σ T k) k (T k) (16 + g) b = _
    rw [zbb_off (by omega) (by omega), zca_hi hg k (by omega) (by omega)]
def zsm (f : Nat → Nat) : Nat → Nat
  | 0 => 0
  | k + 1 => zsm f k + f k

set_option maxHeartbeats 4000000 in
set_option maxRecDepth 100000 in
theorem lp_callIn {p : Program} {l : Launch} {e : Env} {R : Room} {s : State} {m : MethodId} {args : Array Value} {below : List Frame} {meth : Method} {c : Code} {D : va_G} {cy : Nat → ClassId} {wa : Nat → Nat} {N : Nat} {A : Nat → Prop} {n : Nat} {ad : Nat → Nat} {cells slots : Nat} {Q : State → Prop} (X : zX p l s m args meth c cX7_callIn 3 RX7 D cy wa A) (hD : zD n ad) (hAd : ∀ i, i < n → A (ad i)) (hn : 40 ≤ n) (σ : zS) (hls : l.stackTraces = false) (hR : 5 ≤ R.frames ∧ 200 ≤ R.locals ∧ cells ≤ R.cells ∧ slots ≤ R.slots) (gc : Nat) (hgc : gc ≤ 8) (e0 : σ 0 11 = nI gc) (T B : Nat → Nat) (hT : ∀ k, k < gc → σ (16 + k) 0 = nI (T k) ∧ T k ≤ 600 ∧ σ (16 + k) 4 = nI (B k) ∧ B k ≤ T k)  (kk : zW p l e R s m args below meth c D cy N A n ad cells slots Q (45, [some (.ref (ad 0)), some (.int (nI (zsm (fun i => T i - B i) gc))), some (.int (nI gc))], []) (zca σ T gc)) : ∀ (d k : Nat), k + d = gc → zW p l e R s m args below meth c D cy N A n ad cells slots Q (4, [some (.ref (ad 0)), some (.int (nI (zsm (fun i => T i - B i) k))), some (.int (nI k))], []) (zca σ T k) := by
  intro d
  induction d with
  | zero =>
    intro k hk
    obtain rfl : k = gc := by omega
    refine zw_run X (is := [(4, .iload_n 2, 1), (5, .aload_n 0, 1)]) (t' := (6, [some (.ref (ad 0)), some (.int (nI (zsm (fun i => T i - B i) k))), some (.int (nI k))], [.ref (ad 0), .int (nI k)])) ⟨dX7_callIn_4, dX7_callIn_5, trivial⟩ rfl ?_
    refine zw_getf X (i := 0) (by omega) zc_0 (C := RX7) (T := TX7) (Nf := 16) rfl zi_X7 11 (by decide) rfl zm_110 rfl dX7_callIn_6 ?_
    refine zw_icmp_ge X (tgt := 45) dX7_callIn_9 (by decide) (fun _ => ?_) (fun h_ => absurd (by rw [zca_off (by omega) (by omega) k (by omega), e0]; exact nI_le (Nat.le_refl _) (by omega)) h_)
    exact kk
  | succ d ih =>
    intro k hk
    have hk8 : k < 8 := by omega
    obtain ⟨eT, hT6, eB, hBT⟩ := hT k (by omega)
    refine zw_run X (is := [(4, .iload_n 2, 1), (5, .aload_n 0, 1)]) (t' := (6, [some (.ref (ad 0)), some (.int (nI (zsm (fun i => T i - B i) k))), some (.int (nI k))], [.ref (ad 0), .int (nI k)])) ⟨dX7_callIn_4, dX7_callIn_5, trivial⟩ rfl ?_
    refine zw_getf X (i := 0) (by omega) zc_0 (C := RX7) (T := TX7) (Nf := 16) rfl zi_X7 11 (by decide) rfl zm_110 rfl dX7_callIn_6 ?_
    refine zw_icmp_ge X (tgt := 45) dX7_callIn_9 (by decide) (fun h_ => absurd h_ (by rw [zca_off (by omega) (by omega) k (by omega), e0]; exact nI_ge (by omega) (by omega))) (fun _ => ?_)
    refine zw_run X (is := [(12, .iload_n 1, 1), (13, .aload_n 0, 1)]) (t' := (14, [some (.ref (ad 0)), some (.int (nI (zsm (fun i => T i - B i) k))), some (.int (nI k))], [.ref (ad 0), .int (nI (zsm (fun i => T i - B i) k))])) ⟨dX7_callIn_12, dX7_callIn_13, trivial⟩ rfl ?_
    refine zw_getf X (i := 0) (by omega) zc_0 (C := RX7) (T := TX7) (Nf := 16) rfl zi_X7 0 (by decide) rfl zm_18 rfl dX7_callIn_14 ?_
    refine zw_run X (is := [(17, .iload_n 2, 1)]) (t' := (18, [some (.ref (ad 0)), some (.int (nI (zsm (fun i => T i - B i) k))), some (.int (nI k))], [.int (nI k), .ref (ad 1), .int (nI (zsm (fun i => T i - B i) k))])) ⟨dX7_callIn_17, trivial⟩ rfl ?_
    refine zw_guild X (by omega) (g := k) rfl hk8 dX7_callIn_18 ?_
    refine zw_getf X (i := 8 + k) (by omega) (zc_G hk8) (C := RX1) (T := TX1) (Nf := 7) rfl zi_X1 6 (by decide) rfl zm_112 rfl dX7_callIn_19 ?_
    refine zw_Vi X hAd (As := []) (rest := [.int (nI (zsm (fun i => T i - B i) k))]) (d := 0) (i := 16 + k) (by omega) (zc_P hk8) (q := (RX4, TX4, 7)) rfl ⟨zm_281, zm_282, zm_283, zm_81, zm_284, rfl, by decide, by decide, (show (parseMethodDescriptor yX4_linesNotInBook.desc).map (fun d => d.parameters.length) = some 0 by decide +kernel)⟩ (fun sz => c_lnib hls hD hn (zca σ T k) k hk8 sz) rfl rfl (Nat.le_of_ble_eq_true rfl) ⟨by omega, by omega⟩ ⟨hR.2.2.1, hR.2.2.2⟩ dX7_callIn_22 ?_
    rw [zca_hi hk8 k (Nat.le_refl _) (by omega), zca_hi hk8 k (Nat.le_refl _) (by omega), eT, eB, pk_sub hBT]
    refine zw_run X (is := [(25, .iadd, 1), (26, .istore_n 1, 1)]) (t' := (27, [some (.ref (ad 0)), some (.int ((nI (zsm (fun i => T i - B i) k)) + (nI (T k - B k)))), some (.int (nI k))], [])) ⟨dX7_callIn_25, dX7_callIn_26, trivial⟩ rfl ?_
    rw [show nI (zsm (fun i => T i - B i) k) + nI (T k - B k) = nI (zsm (fun i => T i - B i) (k + 1)) from nI_add _ _]
    refine zw_run X (is := [(27, .aload_n 0, 1)]) (t' := (28, [some (.ref (ad 0)), some (.int (nI (zsm (fun i => T i - B i) (k + 1)))), some (.int (nI k))], [.ref (ad 0)])) ⟨dX7_callIn_27, trivial⟩ rfl ?_
    refine zw_getf X (i := 0) (by omega) zc_0 (C := RX7) (T := TX7) (Nf := 16) rfl zi_X7 0 (by decide) rfl zm_18 rfl dX7_callIn_28 ?_
    refine zw_run X (is := [(31, .iload_n 2, 1)]) (t' := (32, [some (.ref (ad 0)), some (.int (nI (zsm (fun i => T i - B i) (k + 1)))), some (.int (nI k))], [.int (nI k), .ref (ad 1)])) ⟨dX7_callIn_31, trivial⟩ rfl ?_
    refine zw_guild X (by omega) (g := k) rfl hk8 dX7_callIn_32 ?_
    refine zw_getf X (i := 8 + k) (by omega) (zc_G hk8) (C := RX1) (T := TX1) (Nf := 7) rfl zi_X1 6 (by decide) rfl zm_112 rfl dX7_callIn_33 ?_
    refine zw_Vv X hAd (As := []) (rest := []) (d := 3) (i := 16 + k) (by omega) (zc_P hk8) (q := (RX4, TX4, 7)) rfl ⟨zm_341, zm_342, zm_343, zm_81, zm_344, rfl, by decide, by decide, (show (parseMethodDescriptor yX4_bringBookUpToDate.desc).map (fun d => d.parameters.length) = some 0 by decide +kernel)⟩ (fun sz => c_bringBook hls hD hn (zca σ T k) k hk8 (T k) hT6 (by rw [zca_hi hk8 k (Nat.le_refl _) (by omega)]; exact eT) sz) rfl rfl (Nat.le_of_ble_eq_true rfl) ⟨by omega, by omega⟩ ⟨hR.2.2.1, hR.2.2.2⟩ dX7_callIn_36 ?_
    refine zw_run X (is := [(39, .iinc 2 1, 3)]) (t' := (42, [some (.ref (ad 0)), some (.int (nI (zsm (fun i => T i - B i) (k + 1)))), some (.int (nI k + 1))], [])) ⟨dX7_callIn_39, trivial⟩ rfl ?_
    refine zw_go X (tgt := 4) dX7_callIn_42 (by decide) ?_
    rw [nI_1]
    exact ih (k + 1) (by omega)

set_option maxHeartbeats 4000000 in
set_option maxRecDepth 100000 in
theorem c_callIn {l : Launch} (hls : l.stackTraces = false) {D : va_G} {cy : Nat → ClassId} {wa : Nat → Nat} {N n : Nat} {ad : Nat → Nat} (hD : zD n ad) (hn : 40 ≤ n) (σ : zS) (gc : Nat) (hgc : gc ≤ 8) (e0 : σ 0 11 = nI gc) (T B : Nat → Nat) (hT : ∀ k, k < gc → σ (16 + k) 0 = nI (T k) ∧ T k ≤ 600 ∧ σ (16 + k) 4 = nI (B k) ∧ B k ≤ T k)  (sz : Nat) : Met l yX7_callIn (.code yX7_callIn cX7_callIn 3 (some .int) :: zB) (zRm 5) (zPc [.ref (ad 0)] D cy wa N n ad σ sz) (zQi (nI (zsm (fun i => T i - B i) gc)) D cy N n ad (zca σ T gc) sz) 0 0 (zA n ad sz) := by
  refine z_met (by decide) hls (List.forall_mem_cons.mpr ⟨rfl, (fun _ h => nomatch h)⟩) (Nat.le_of_ble_eq_true rfl) (fun p_ e_ s_ m_ below_ meth_ c_ hsz hr X => ?_)
  have X : zX p_ l s_ m_ [.ref (ad 0)].toArray meth_ c_ cX7_callIn 3 RX7 D cy wa (zA n ad sz) := X
  have hAd : ∀ i, i < n → zA n ad sz (ad i) := fun i hi => Or.inl ⟨i, hi, rfl⟩
  refine zw_run X (is := [(0, .iconst 0, 1), (1, .istore_n 1, 1), (2, .iconst 0, 1), (3, .istore_n 2, 1)]) (t' := (4, [some (.ref (ad 0)), some (.int 0), some (.int 0)], [])) ⟨dX7_callIn_0, dX7_callIn_1, dX7_callIn_2, dX7_callIn_3, trivial⟩ rfl ?_
  refine lp_callIn X hD hAd hn σ hls ⟨Nat.le_of_ble_eq_true rfl, Nat.le_of_ble_eq_true rfl, Nat.zero_le _, Nat.zero_le _⟩ gc hgc e0 T B hT ?_ gc 0 (by omega)
  refine zw_run X (is := [(45, .iload_n 1, 1)]) (t' := (46, [some (.ref (ad 0)), some (.int (nI (zsm (fun i => T i - B i) gc))), some (.int (nI gc))], [.int (nI (zsm (fun i => T i - B i) gc))])) ⟨dX7_callIn_45, trivial⟩ rfl ?_
  exact zw_iret X hr dX7_callIn_46 rfl rfl rfl

def zms (σ : zS) : Nat → Int32
  | 0 => σ 0 14
  | k + 1 => zms σ k - σ (8 + k) 0
/-- the places' bits -/
def zor (po : Nat → Nat) : Nat → Nat
  | 0 => 0
  | k + 1 => zor po k ||| 2 ^ (po k)
theorem z_or (a b : Nat) : nI a ||| nI b = nI (a ||| b) := by
  apply Int32.toBitVec_inj.1
  show BitVec.ofNat 32 a ||| BitVec.ofNat 32 b = BitVec.ofNat 32 (a ||| b)
  apply BitVec.eq_of_getLsbD_eq
  intro i hi
  simp [hi]
theorem z_sh : ∀ x, x < 9 → (1 : Int32) <<< (nI x &&& 31) = nI (2 ^ x) := by decide

set_option maxHeartbeats 4000000 in
set_option maxRecDepth 100000 in
theorem lp_ms1 {p : Program} {l : Launch} {e : Env} {R : Room} {s : State} {m : MethodId} {args : Array Value} {below : List Frame} {meth : Method} {c : Code} {D : va_G} {cy : Nat → ClassId} {wa : Nat → Nat} {N : Nat} {A : Nat → Prop} {n : Nat} {ad : Nat → Nat} {cells slots : Nat} {Q : State → Prop} (X : zX p l s m args meth c cX7_isMoneySound 3 RX7 D cy wa A) (hD : zD n ad) (hAd : ∀ i, i < n → A (ad i)) (hn : 40 ≤ n) (σ : zS) (gc : Nat) (hgc : gc ≤ 8) (e0 : σ 0 11 = nI gc)  (kk : zW p l e R s m args below meth c D cy N A n ad cells slots Q (33, [some (.ref (ad 0)), some (.int (zms σ gc)), some (.int (nI gc))], []) (σ)) : ∀ (d k : Nat), k + d = gc → zW p l e R s m args below meth c D cy N A n ad cells slots Q (7, [some (.ref (ad 0)), some (.int (zms σ k)), some (.int (nI k))], []) (σ) := by
  intro d
  induction d with
  | zero =>
    intro k hk
    obtain rfl : k = gc := by omega
    refine zw_run X (is := [(7, .iload_n 2, 1), (8, .aload_n 0, 1)]) (t' := (9, [some (.ref (ad 0)), some (.int (zms σ k)), some (.int (nI k))], [.ref (ad 0), .int (nI k)])) ⟨dX7_isMoneySound_7, dX7_isMoneySound_8, trivial⟩ rfl ?_
    refine zw_getf X (i := 0) (by omega) zc_0 (C := RX7) (T := TX7) (Nf := 16) rfl zi_X7 11 (by decide) rfl zm_110 rfl dX7_isMoneySound_9 ?_
    refine zw_icmp_ge X (tgt := 33) dX7_isMoneySound_12 (by decide) (fun _ => ?_) (fun h_ => absurd (by rw [e0]; exact nI_le (Nat.le_refl _) (by omega)) h_)
    exact kk
  | succ d ih =>
    intro k hk
    have hk8 : k < 8 := by omega
    refine zw_run X (is := [(7, .iload_n 2, 1), (8, .aload_n 0, 1)]) (t' := (9, [some (.ref (ad 0)), some (.int (zms σ k)), some (.int (nI k))], [.ref (ad 0), .int (nI k)])) ⟨dX7_isMoneySound_7, dX7_isMoneySound_8, trivial⟩ rfl ?_
    refine zw_getf X (i := 0) (by omega) zc_0 (C := RX7) (T := TX7) (Nf := 16) rfl zi_X7 11 (by decide) rfl zm_110 rfl dX7_isMoneySound_9 ?_
    refine zw_icmp_ge X (tgt := 33) dX7_isMoneySound_12 (by decide) (fun h_ => absurd h_ (by rw [e0]; exact nI_ge (by omega) (by omega))) (fun _ => ?_)
    refine zw_run X (is := [(15, .iload_n 1, 1), (16, .aload_n 0, 1)]) (t' := (17, [some (.ref (ad 0)), some (.int (zms σ k)), some (.int (nI k))], [.ref (ad 0), .int (zms σ k)])) ⟨dX7_isMoneySound_15, dX7_isMoneySound_16, trivial⟩ rfl ?_
    refine zw_getf X (i := 0) (by omega) zc_0 (C := RX7) (T := TX7) (Nf := 16) rfl zi_X7 0 (by decide) rfl zm_18 rfl dX7_isMoneySound_17 ?_
    refine zw_run X (is := [(20, .iload_n 2, 1)]) (t' := (21, [some (.ref (ad 0)), some (.int (zms σ k)), some (.int (nI k))], [.int (nI k), .ref (ad 1), .int (zms σ k)])) ⟨dX7_isMoneySound_20, trivial⟩ rfl ?_
    refine zw_guild X (by omega) (g := k) rfl hk8 dX7_isMoneySound_21 ?_
    refine zw_getf X (i := 8 + k) (by omega) (zc_G hk8) (C := RX1) (T := TX1) (Nf := 7) rfl zi_X1 0 (by decide) rfl zm_111 rfl dX7_isMoneySound_22 ?_
    refine zw_run X (is := [(25, .isub, 1), (26, .istore_n 1, 1), (27, .iinc 2 1, 3)]) (t' := (30, [some (.ref (ad 0)), some (.int ((zms σ k) - (σ (8 + k) 0))), some (.int (nI k + 1))], [])) ⟨dX7_isMoneySound_25, dX7_isMoneySound_26, dX7_isMoneySound_27, trivial⟩ rfl ?_
    refine zw_go X (tgt := 7) dX7_isMoneySound_30 (by decide) ?_
    rw [nI_1]
    exact ih (k + 1) (by omega)

set_option maxHeartbeats 4000000 in
set_option maxRecDepth 100000 in
theorem lp_ms2 {p : Program} {l : Launch} {e : Env} {R : Room} {s : State} {m : MethodId} {args : Array Value} {below : List Frame} {meth : Method} {c : Code} {D : va_G} {cy : Nat → ClassId} {wa : Nat → Nat} {N : Nat} {A : Nat → Prop} {n : Nat} {ad : Nat → Nat} {cells slots : Nat} {Q : State → Prop} (X : zX p l s m args meth c cX7_isMoneySound 3 RX7 D cy wa A) (hD : zD n ad) (hAd : ∀ i, i < n → A (ad i)) (hn : 40 ≤ n) (σ : zS) (hz : ∀ k, k < 10 → σ 6 k = 0) (v : Int32)  (kk : zW p l e R s m args below meth c D cy N A n ad cells slots Q (56, [some (.ref (ad 0)), some (.int v), some (.int (nI 10))], []) (σ)) : ∀ (d k : Nat), k + d = 10 → zW p l e R s m args below meth c D cy N A n ad cells slots Q (35, [some (.ref (ad 0)), some (.int v), some (.int (nI k))], []) (σ) := by
  intro d
  induction d with
  | zero =>
    intro k hk
    obtain rfl : k = 10 := by omega
    refine zw_run X (is := [(35, .iload_n 2, 1), (36, .bipush 10, 2)]) (t' := (38, [some (.ref (ad 0)), some (.int v), some (.int (nI 10))], [.int 10, .int (nI 10)])) ⟨dX7_isMoneySound_35, dX7_isMoneySound_36, trivial⟩ rfl ?_
    refine zw_icmp_ge X (tgt := 56) dX7_isMoneySound_38 (by decide) (fun _ => ?_) (fun h_ => absurd (by decide) h_)
    exact kk
  | succ d ih =>
    intro k hk
    refine zw_run X (is := [(35, .iload_n 2, 1), (36, .bipush 10, 2)]) (t' := (38, [some (.ref (ad 0)), some (.int v), some (.int (nI k))], [.int 10, .int (nI k)])) ⟨dX7_isMoneySound_35, dX7_isMoneySound_36, trivial⟩ rfl ?_
    refine zw_icmp_ge X (tgt := 56) dX7_isMoneySound_38 (by decide) (fun h_ => absurd h_ (nI_ge (b := 10) (by omega) (by decide))) (fun _ => ?_)
    refine zw_run X (is := [(41, .iload_n 1, 1), (42, .aload_n 0, 1)]) (t' := (43, [some (.ref (ad 0)), some (.int v), some (.int (nI k))], [.ref (ad 0), .int v])) ⟨dX7_isMoneySound_41, dX7_isMoneySound_42, trivial⟩ rfl ?_
    refine zw_getf X (i := 0) (by omega) zc_0 (C := RX7) (T := TX7) (Nf := 16) rfl zi_X7 5 (by decide) rfl zm_29 rfl dX7_isMoneySound_43 ?_
    refine zw_run X (is := [(46, .iload_n 2, 1)]) (t' := (47, [some (.ref (ad 0)), some (.int v), some (.int (nI k))], [.int (nI k), .ref (ad 6), .int v])) ⟨dX7_isMoneySound_46, trivial⟩ rfl ?_
    refine zw_iald X (i := 6) (by omega) (len := 10) zc_6 (j := k) rfl (by omega) (by decide) dX7_isMoneySound_47 ?_
    rw [hz k (by omega)]
    refine zw_run X (is := [(48, .iadd, 1), (49, .istore_n 1, 1)]) (t' := (50, [some (.ref (ad 0)), some (.int (v + 0)), some (.int (nI k))], [])) ⟨dX7_isMoneySound_48, dX7_isMoneySound_49, trivial⟩ rfl ?_
    rw [Int32.add_zero]
    refine zw_run X (is := [(50, .iinc 2 1, 3)]) (t' := (53, [some (.ref (ad 0)), some (.int v), some (.int (nI k + 1))], [])) ⟨dX7_isMoneySound_50, trivial⟩ rfl ?_
    refine zw_go X (tgt := 35) dX7_isMoneySound_53 (by decide) ?_
    rw [nI_1]
    exact ih (k + 1) (by omega)

set_option maxHeartbeats 4000000 in
set_option maxRecDepth 100000 in
theorem c_isMoneySound {l : Launch} (hls : l.stackTraces = false) {D : va_G} {cy : Nat → ClassId} {wa : Nat → Nat} {N n : Nat} {ad : Nat → Nat} (hD : zD n ad) (hn : 40 ≤ n) (σ : zS) (gc : Nat) (hgc : gc ≤ 8) (e0 : σ 0 11 = nI gc) (hz : ∀ k, k < 10 → σ 6 k = 0) (hs : zms σ gc = σ 0 13) (sz : Nat) : Met l yX7_isMoneySound (.code yX7_isMoneySound cX7_isMoneySound 3 (some .boolean) :: zB) (zRm 0) (zPc [.ref (ad 0)] D cy wa N n ad σ sz) (zQi (1) D cy N n ad (σ) sz) 0 0 (zA n ad sz) := by
  refine z_met (by decide) hls (List.forall_mem_cons.mpr ⟨rfl, (fun _ h => nomatch h)⟩) (Nat.le_of_ble_eq_true rfl) (fun p_ e_ s_ m_ below_ meth_ c_ hsz hr X => ?_)
  have X : zX p_ l s_ m_ [.ref (ad 0)].toArray meth_ c_ cX7_isMoneySound 3 RX7 D cy wa (zA n ad sz) := X
  have hAd : ∀ i, i < n → zA n ad sz (ad i) := fun i hi => Or.inl ⟨i, hi, rfl⟩
  refine zw_run X (is := [(0, .aload_n 0, 1)]) (t' := (1, [some (.ref (ad 0)), none, none], [.ref (ad 0)])) ⟨dX7_isMoneySound_0, trivial⟩ rfl ?_
  refine zw_getf X (i := 0) (by omega) zc_0 (C := RX7) (T := TX7) (Nf := 16) rfl zi_X7 14 (by decide) rfl zm_113 rfl dX7_isMoneySound_1 ?_
  refine zw_run X (is := [(4, .istore_n 1, 1), (5, .iconst 0, 1), (6, .istore_n 2, 1)]) (t' := (7, [some (.ref (ad 0)), some (.int (σ (0) 14)), some (.int 0)], [])) ⟨dX7_isMoneySound_4, dX7_isMoneySound_5, dX7_isMoneySound_6, trivial⟩ rfl ?_
  refine lp_ms1 X hD hAd hn σ gc hgc e0 ?_ gc 0 (by omega)
  refine zw_run X (is := [(33, .iconst 0, 1), (34, .istore_n 2, 1)]) (t' := (35, [some (.ref (ad 0)), some (.int (zms σ gc)), some (.int 0)], [])) ⟨dX7_isMoneySound_33, dX7_isMoneySound_34, trivial⟩ rfl ?_
  refine lp_ms2 X hD hAd hn σ hz (zms σ gc) ?_ 10 0 (by omega)
  refine zw_run X (is := [(56, .iload_n 1, 1), (57, .aload_n 0, 1)]) (t' := (58, [some (.ref (ad 0)), some (.int (zms σ gc)), some (.int (nI 10))], [.ref (ad 0), .int (zms σ gc)])) ⟨dX7_isMoneySound_56, dX7_isMoneySound_57, trivial⟩ rfl ?_
  refine zw_getf X (i := 0) (by omega) zc_0 (C := RX7) (T := TX7) (Nf := 16) rfl zi_X7 13 (by decide) rfl zm_265 rfl dX7_isMoneySound_58 ?_
  refine zw_icmp_ne X (tgt := 68) dX7_isMoneySound_61 (by decide) (fun h_ => absurd hs h_) (fun h_ => ?_)
  refine zw_run X (is := [(64, .iconst 1, 1)]) (t' := (65, [some (.ref (ad 0)), some (.int (zms σ gc)), some (.int (nI 10))], [.int 1])) ⟨dX7_isMoneySound_64, trivial⟩ rfl ?_
  refine zw_go X (tgt := 69) dX7_isMoneySound_65 (by decide) ?_
  exact zw_zret X hr dX7_isMoneySound_69 rfl rfl rfl rfl

set_option maxHeartbeats 4000000 in
set_option maxRecDepth 100000 in
theorem lp_os {p : Program} {l : Launch} {e : Env} {R : Room} {s : State} {m : MethodId} {args : Array Value} {below : List Frame} {meth : Method} {c : Code} {D : va_G} {cy : Nat → ClassId} {wa : Nat → Nat} {N : Nat} {A : Nat → Prop} {n : Nat} {ad : Nat → Nat} {cells slots : Nat} {Q : State → Prop} (X : zX p l s m args meth c cX7_isOrderSound 3 RX7 D cy wa A) (hD : zD n ad) (hAd : ∀ i, i < n → A (ad i)) (hn : 40 ≤ n) (σ : zS) (gc : Nat) (hgc : gc ≤ 8) (e0 : σ 0 11 = nI gc) (po : Nat → Nat) (hpo : ∀ k, k < gc → σ 2 k = nI (po k) ∧ po k < gc)  (kk : zW p l e R s m args below meth c D cy N A n ad cells slots Q (29, [some (.ref (ad 0)), some (.int (nI (zor po gc))), some (.int (nI gc))], []) (σ)) : ∀ (d k : Nat), k + d = gc → zW p l e R s m args below meth c D cy N A n ad cells slots Q (4, [some (.ref (ad 0)), some (.int (nI (zor po k))), some (.int (nI k))], []) (σ) := by
  intro d
  induction d with
  | zero =>
    intro k hk
    obtain rfl : k = gc := by omega
    refine zw_run X (is := [(4, .iload_n 2, 1), (5, .aload_n 0, 1)]) (t' := (6, [some (.ref (ad 0)), some (.int (nI (zor po k))), some (.int (nI k))], [.ref (ad 0), .int (nI k)])) ⟨dX7_isOrderSound_4, dX7_isOrderSound_5, trivial⟩ rfl ?_
    refine zw_getf X (i := 0) (by omega) zc_0 (C := RX7) (T := TX7) (Nf := 16) rfl zi_X7 11 (by decide) rfl zm_110 rfl dX7_isOrderSound_6 ?_
    refine zw_icmp_ge X (tgt := 29) dX7_isOrderSound_9 (by decide) (fun _ => ?_) (fun h_ => absurd (by rw [e0]; exact nI_le (Nat.le_refl _) (by omega)) h_)
    exact kk
  | succ d ih =>
    intro k hk
    have hk8 : k < 8 := by omega
    obtain ⟨ep, hp⟩ := hpo k (by omega)
    refine zw_run X (is := [(4, .iload_n 2, 1), (5, .aload_n 0, 1)]) (t' := (6, [some (.ref (ad 0)), some (.int (nI (zor po k))), some (.int (nI k))], [.ref (ad 0), .int (nI k)])) ⟨dX7_isOrderSound_4, dX7_isOrderSound_5, trivial⟩ rfl ?_
    refine zw_getf X (i := 0) (by omega) zc_0 (C := RX7) (T := TX7) (Nf := 16) rfl zi_X7 11 (by decide) rfl zm_110 rfl dX7_isOrderSound_6 ?_
    refine zw_icmp_ge X (tgt := 29) dX7_isOrderSound_9 (by decide) (fun h_ => absurd h_ (by rw [e0]; exact nI_ge (by omega) (by omega))) (fun _ => ?_)
    refine zw_run X (is := [(12, .iload_n 1, 1), (13, .iconst 1, 1), (14, .aload_n 0, 1)]) (t' := (15, [some (.ref (ad 0)), some (.int (nI (zor po k))), some (.int (nI k))], [.ref (ad 0), .int 1, .int (nI (zor po k))])) ⟨dX7_isOrderSound_12, dX7_isOrderSound_13, dX7_isOrderSound_14, trivial⟩ rfl ?_
    refine zw_getf X (i := 0) (by omega) zc_0 (C := RX7) (T := TX7) (Nf := 16) rfl zi_X7 1 (by decide) rfl zm_19 rfl dX7_isOrderSound_15 ?_
    refine zw_run X (is := [(18, .iload_n 2, 1)]) (t' := (19, [some (.ref (ad 0)), some (.int (nI (zor po k))), some (.int (nI k))], [.int (nI k), .ref (ad 2), .int 1, .int (nI (zor po k))])) ⟨dX7_isOrderSound_18, trivial⟩ rfl ?_
    refine zw_iald X (i := 2) (by omega) (len := 8) zc_2 (j := k) rfl hk8 (by decide) dX7_isOrderSound_19 ?_
    rw [ep]
    refine zw_shl X dX7_isOrderSound_20 ?_
    rw [z_sh (po k) (by omega)]
    refine zw_run X (is := [(21, .ior, 1), (22, .istore_n 1, 1)]) (t' := (23, [some (.ref (ad 0)), some (.int ((nI (zor po k)) ||| (nI (2 ^ (po k))))), some (.int (nI k))], [])) ⟨dX7_isOrderSound_21, dX7_isOrderSound_22, trivial⟩ rfl ?_
    rw [show nI (zor po k) ||| nI (2 ^ (po k)) = nI (zor po (k + 1)) from z_or _ _]
    refine zw_run X (is := [(23, .iinc 2 1, 3)]) (t' := (26, [some (.ref (ad 0)), some (.int (nI (zor po (k + 1)))), some (.int (nI k + 1))], [])) ⟨dX7_isOrderSound_23, trivial⟩ rfl ?_
    refine zw_go X (tgt := 4) dX7_isOrderSound_26 (by decide) ?_
    rw [nI_1]
    exact ih (k + 1) (by omega)

set_option maxHeartbeats 4000000 in
set_option maxRecDepth 100000 in
theorem c_isOrderSound {l : Launch} (hls : l.stackTraces = false) {D : va_G} {cy : Nat → ClassId} {wa : Nat → Nat} {N n : Nat} {ad : Nat → Nat} (hD : zD n ad) (hn : 40 ≤ n) (σ : zS) (gc : Nat) (hgc : gc ≤ 8) (e0 : σ 0 11 = nI gc) (po : Nat → Nat) (hpo : ∀ k, k < gc → σ 2 k = nI (po k) ∧ po k < gc) (hs : zor po gc = 2 ^ gc - 1) (sz : Nat) : Met l yX7_isOrderSound (.code yX7_isOrderSound cX7_isOrderSound 3 (some .boolean) :: zB) (zRm 0) (zPc [.ref (ad 0)] D cy wa N n ad σ sz) (zQi (1) D cy N n ad (σ) sz) 0 0 (zA n ad sz) := by
  refine z_met (by decide) hls (List.forall_mem_cons.mpr ⟨rfl, (fun _ h => nomatch h)⟩) (Nat.le_of_ble_eq_true rfl) (fun p_ e_ s_ m_ below_ meth_ c_ hsz hr X => ?_)
  have X : zX p_ l s_ m_ [.ref (ad 0)].toArray meth_ c_ cX7_isOrderSound 3 RX7 D cy wa (zA n ad sz) := X
  have hAd : ∀ i, i < n → zA n ad sz (ad i) := fun i hi => Or.inl ⟨i, hi, rfl⟩
  refine zw_run X (is := [(0, .iconst 0, 1), (1, .istore_n 1, 1), (2, .iconst 0, 1), (3, .istore_n 2, 1)]) (t' := (4, [some (.ref (ad 0)), some (.int 0), some (.int 0)], [])) ⟨dX7_isOrderSound_0, dX7_isOrderSound_1, dX7_isOrderSound_2, dX7_isOrderSound_3, trivial⟩ rfl ?_
  refine lp_os X hD hAd hn σ gc hgc e0 po hpo ?_ gc 0 (by omega)
  refine zw_run X (is := [(29, .iload_n 1, 1), (30, .iconst 1, 1), (31, .aload_n 0, 1)]) (t' := (32, [some (.ref (ad 0)), some (.int (nI (zor po gc))), some (.int (nI gc))], [.ref (ad 0), .int 1, .int (nI (zor po gc))])) ⟨dX7_isOrderSound_29, dX7_isOrderSound_30, dX7_isOrderSound_31, trivial⟩ rfl ?_
  refine zw_getf X (i := 0) (by omega) zc_0 (C := RX7) (T := TX7) (Nf := 16) rfl zi_X7 11 (by decide) rfl zm_110 rfl dX7_isOrderSound_32 ?_
  rw [e0]
  refine zw_shl X dX7_isOrderSound_35 ?_
  rw [z_sh gc (by omega)]
  refine zw_run X (is := [(36, .iconst 1, 1), (37, .isub, 1)]) (t' := (38, [some (.ref (ad 0)), some (.int (nI (zor po gc))), some (.int (nI gc))], [.int ((nI (2 ^ gc)) - 1), .int (nI (zor po gc))])) ⟨dX7_isOrderSound_36, dX7_isOrderSound_37, trivial⟩ rfl ?_
  rw [hs, show nI (2 ^ gc) - 1 = nI (2 ^ gc - 1) from pk_sub (b := 1) Nat.one_le_two_pow]
  refine zw_icmp_ne X (tgt := 45) dX7_isOrderSound_38 (by decide) (fun h_ => absurd rfl h_) (fun h_ => ?_)
  refine zw_run X (is := [(41, .iconst 1, 1)]) (t' := (42, [some (.ref (ad 0)), some (.int (nI (2 ^ gc - 1))), some (.int (nI gc))], [.int 1])) ⟨dX7_isOrderSound_41, trivial⟩ rfl ?_
  refine zw_go X (tgt := 46) dX7_isOrderSound_42 (by decide) ?_
  exact zw_zret X hr dX7_isOrderSound_46 rfl rfl rfl rfl

set_option maxHeartbeats 4000000 in
set_option maxRecDepth 100000 in
theorem c_isSound {l : Launch} (hls : l.stackTraces = false) {D : va_G} {cy : Nat → ClassId} {wa : Nat → Nat} {N n : Nat} {ad : Nat → Nat} (hD : zD n ad) (hn : 40 ≤ n) (σ : zS) (gc : Nat) (hgc : gc ≤ 8) (e0 : σ 0 11 = nI gc) (hz : ∀ k, k < 10 → σ 6 k = 0) (hs : zms σ gc = σ 0 13) (po : Nat → Nat) (hpo : ∀ k, k < gc → σ 2 k = nI (po k) ∧ po k < gc) (ho : zor po gc = 2 ^ gc - 1) (e4 : σ 0 15 = 0) (sz : Nat) : Met l yX7_isSound (.code yX7_isSound cX7_isSound 1 (some .boolean) :: zB) (zRm 2) (zPc [.ref (ad 0)] D cy wa N n ad σ sz) (zQi (1) D cy N n ad (σ) sz) 0 0 (zA n ad sz) := by
  refine z_met (by decide) hls (List.forall_mem_cons.mpr ⟨rfl, (fun _ h => nomatch h)⟩) (Nat.le_of_ble_eq_true rfl) (fun p_ e_ s_ m_ below_ meth_ c_ hsz hr X => ?_)
  have X : zX p_ l s_ m_ [.ref (ad 0)].toArray meth_ c_ cX7_isSound 1 RX7 D cy wa (zA n ad sz) := X
  have hAd : ∀ i, i < n → zA n ad sz (ad i) := fun i hi => Or.inl ⟨i, hi, rfl⟩
  refine zw_run X (is := [(0, .aload_n 0, 1)]) (t' := (1, [some (.ref (ad 0))], [.ref (ad 0)])) ⟨dX7_isSound_0, trivial⟩ rfl ?_
  refine zw_Vi X hAd (As := []) (rest := []) (d := 0) (i := 0) (by omega) zc_0 (q := (RX7, TX7, 16)) rfl ⟨zm_460, zm_461, zm_462, zm_2, zm_463, rfl, by decide, by decide, (show (parseMethodDescriptor yX7_isMoneySound.desc).map (fun d => d.parameters.length) = some 0 by decide +kernel)⟩ (fun sz => c_isMoneySound hls hD hn σ gc hgc e0 hz hs sz) rfl rfl (Nat.le_of_ble_eq_true rfl) ⟨Nat.le_of_ble_eq_true rfl, Nat.le_of_ble_eq_true rfl⟩ ⟨Nat.zero_le _, Nat.zero_le _⟩ dX7_isSound_1 ?_
  refine zw_if_eq X (tgt := 35) dX7_isSound_4 (by decide) (fun h_ => absurd h_ (by decide)) (fun _ => ?_)
  refine zw_run X (is := [(7, .aload_n 0, 1)]) (t' := (8, [some (.ref (ad 0))], [.ref (ad 0)])) ⟨dX7_isSound_7, trivial⟩ rfl ?_
  refine zw_Vi X hAd (As := []) (rest := []) (d := 0) (i := 0) (by omega) zc_0 (q := (RX7, TX7, 16)) rfl ⟨zm_464, zm_465, zm_466, zm_2, zm_467, rfl, by decide, by decide, (show (parseMethodDescriptor yX7_isOrderSound.desc).map (fun d => d.parameters.length) = some 0 by decide +kernel)⟩ (fun sz => c_isOrderSound hls hD hn σ gc hgc e0 po hpo ho sz) rfl rfl (Nat.le_of_ble_eq_true rfl) ⟨Nat.le_of_ble_eq_true rfl, Nat.le_of_ble_eq_true rfl⟩ ⟨Nat.zero_le _, Nat.zero_le _⟩ dX7_isSound_8 ?_
  refine zw_if_eq X (tgt := 35) dX7_isSound_11 (by decide) (fun h_ => absurd h_ (by decide)) (fun _ => ?_)
  refine zw_run X (is := [(14, .aload_n 0, 1)]) (t' := (15, [some (.ref (ad 0))], [.ref (ad 0)])) ⟨dX7_isSound_14, trivial⟩ rfl ?_
  refine zw_getf X (i := 0) (by omega) zc_0 (C := RX7) (T := TX7) (Nf := 16) rfl zi_X7 15 (by decide) rfl zm_363 rfl dX7_isSound_15 ?_
  refine zw_if_eq X (tgt := 31) dX7_isSound_18 (by decide) (fun _ => ?_) (fun h_ => absurd e4 h_)
  refine zw_run X (is := [(31, .iconst 1, 1)]) (t' := (32, [some (.ref (ad 0))], [.int 1])) ⟨dX7_isSound_31, trivial⟩ rfl ?_
  refine zw_go X (tgt := 36) dX7_isSound_32 (by decide) ?_
  exact zw_zret X hr dX7_isSound_36 rfl rfl rfl rfl
end
section
/-! Strings: the JDK's length() and charAt(int) of the words, the class's own spelling. -/
/-- an answer that is a known cell -/
def zQa (a : Nat) (D : va_G) (cy : Nat → ClassId) (N n : Nat) (ad : Nat → Nat) (σ : zS) (sz : Nat) : Array Value → State → Outcome → State → Prop :=
  va_Qr (S := Unit) (fun _ => True) (fun _ q t => q = a ∧ va_P D vwCl (zw n ad (zf cy N ad σ)) t.heap) (zA n ad sz)
theorem z_metF {l : Launch} {y : MethodName} {bytes : ByteArray} {maxL : Nat} {ret : Option FieldType} {rm : Room} {av : List Value} {D : va_G} {cy : Nat → ClassId} {wa : Nat → Nat} {N n : Nat} {ad : Nat → Nat} {σ : zS} {sz mc ms : Nat} {Qc : Array Value → State → Outcome → State → Prop}
    (hy : plainFor y = true) (hls : l.stackTraces = false) (hc : ∀ v ∈ av, v.category = 1) (hn : av.length ≤ maxL)
    (body : ∀ (p : Program) (e : Env) (s : State) (m : MethodId) (below : List Frame) (meth : Method) (c : Code), s.heap.size = sz → meth.sig.returnType = ret → zX p l s m av.toArray meth c bytes maxL y.cls D cy wa (zA n ad sz) →
      zW p l e rm s m av.toArray below meth c D cy N (zA n ad sz) n ad 0 0 (MQ below Qc av.toArray s mc ms (zA n ad sz)) (0, av.map some ++ List.replicate (maxL - av.length) none, []) σ) :
    Met l y (.code y bytes maxL ret :: zB) rm (zPc av D cy wa N n ad σ sz) Qc mc ms (zA n ad sz) := by
  refine va_MetF (cc := bytes) (maxL := maxL) (ret := ret) hy rfl ?_
  intro p e s m args below meth c s₁ B hml hv
  obtain ⟨rfl, hsz, hP, hK, hE, hM⟩ := hv
  have hts := atoms_spec (ws := .code y bytes maxL ret :: zB) B.pre
  have hX : zX p l s m av.toArray meth c bytes maxL y.cls D cy wa (zA n ad sz) := ⟨B.exec, B.bytes, hml, findClass_of_methodNamed B.named, fun w hw => hts w (List.mem_cons_of_mem _ hw), B.notSynchronized, hK, fun q h => Or.inr (by rw [← hsz]; exact h), hE, hM, hls⟩
  rw [lg_entry_eq]
  exact body p e s m below meth c hsz B.returns hX s.heap [] hP va_S.rf _ (zl_entry av hc hn)
section ZG
variable {p : Program} {l : Launch} {e : Env} {R : Room} {s : State} {m : MethodId} {args : Array Value} {below : List Frame} {meth : Method} {c : Code} {D : va_G} {cy : Nat → ClassId} {wa : Nat → Nat} {N : Nat} {A : Nat → Prop} {n : Nat} {ad : Nat → Nat} {cells slots : Nat} {Q : State → Prop} {σ σ' : zS}
variable {cc : ByteArray} {nL : Nat} {own : String} {pc : Nat} {L : List (Option Value)} {rest st0 : List Value}
variable {y : MethodName} {bytes : ByteArray} {maxL index d : Nat} {ret : Option FieldType} {As : List Value} {ans : Int32}
theorem zw_gets (X : zX p l s m args meth c cc nL own D cy wa A) {C nm ds : String} {v : Value} (hZ : va_Z C nm ds v A s s.heap) (hl : Cond.fieldLink own index C nm ds ∈ zB) (hdg : decode cc pc = .ok (.getstatic index, 3))
    (kk : zW p l e R s m args below meth c D cy N A n ad cells slots Q (pc + 3, L, v :: rest) σ) : zW p l e R s m args below meth c D cy N A n ad cells slots Q (pc, L, rest) σ :=
  fun H locs hP hS ls hl' => va_gets X.1 X.2.1 hZ hS X.2.2.2.1 (X.2.2.2.2.1 _ hl) (fun _ h => h) hdg (kk H locs hP hS ls hl')
theorem zw_rawf (X : zX p l s m args meth c cc nL own D cy wa A) {o nm ds : String} {q : Nat} {v : Value} (hO : va_OF o nm ds v q A s s.heap) (hl : Cond.fieldLink own index o nm ds ∈ zB) (hdg : decode cc pc = .ok (.getfield index, 3))
    (kk : zW p l e R s m args below meth c D cy N A n ad cells slots Q (pc + 3, L, v :: rest) σ) : zW p l e R s m args below meth c D cy N A n ad cells slots Q (pc, L, .ref q :: rest) σ :=
  fun H locs hP hS ls hl' => vk_getf X.1 X.2.1 hO hS X.2.2.2.1 (X.2.2.2.2.1 _ hl) (fun _ h => h) hdg (kk H locs hP hS ls hl')
theorem zw_tlen (X : zX p l s m args meth c cc nL own D cy wa A) {ty : FieldType} {t len : Nat} {f : Nat → Value} (hT : va_T ty t len f A s s.heap) {v : Int32} (hv : Int32.ofNat len = v) (hdg : decode cc pc = .ok (.arraylength, 1))
    (kk : zW p l e R s m args below meth c D cy N A n ad cells slots Q (pc + 1, L, .int v :: rest) σ) : zW p l e R s m args below meth c D cy N A n ad cells slots Q (pc, L, .ref t :: rest) σ :=
  fun H locs hP hS ls hl' => va_tlen X.1 X.2.1 hT hS hv hdg (kk H locs hP hS ls hl')
theorem zw_tb (X : zX p l s m args meth c cc nL own D cy wa A) {t len : Nat} {f : Nat → Value} (hT : va_T .byte t len f A s s.heap) {j : Nat} (hj : j < len) (hlen : len < 2 ^ 31) {v : Int32} (hv : f j = .int v) (hdg : decode cc pc = .ok (.baload, 1))
    (kk : zW p l e R s m args below meth c D cy N A n ad cells slots Q (pc + 1, L, .int v :: rest) σ) : zW p l e R s m args below meth c D cy N A n ad cells slots Q (pc, L, .int (nI j) :: .ref t :: rest) σ :=
  fun H locs hP hS ls hl' => va_tb X.1 X.2.1 hT hS (vp_in_nI hj hlen) (by rw [nI_clamp (Nat.lt_trans hj hlen)]; exact hv) hdg (kk H locs hP hS ls hl')
theorem zw_shr (X : zX p l s m args meth c cc nL own D cy wa A) {a b v : Int32} (hv : a >>> (b &&& 31) = v) (hdg : decode cc pc = .ok (.ishr, 1))
    (kk : zW p l e R s m args below meth c D cy N A n ad cells slots Q (pc + 1, L, .int v :: rest) σ) : zW p l e R s m args below meth c D cy N A n ad cells slots Q (pc, L, .int b :: .int a :: rest) σ := by
  subst hv
  exact fun H locs hP hS ls hl' => lv_ishr X.1 X.2.1 hdg (kk H locs hP hS ls hl')
theorem zw_ushr (X : zX p l s m args meth c cc nL own D cy wa A) {a b : Int32} (hdg : decode cc pc = .ok (.iushr, 1))
    (kk : zW p l e R s m args below meth c D cy N A n ad cells slots Q (pc + 1, L, .int (a.toUInt32 >>> (b.toUInt32 &&& Int32.toUInt32 31)).toInt32 :: rest) σ) : zW p l e R s m args below meth c D cy N A n ad cells slots Q (pc, L, .int b :: .int a :: rest) σ :=
  fun H locs hP hS ls hl' => lv_iushr X.1 X.2.1 hdg rfl (kk H locs hP hS ls hl')
theorem zw_i2c (X : zX p l s m args meth c cc nL own D cy wa A) {a v : Int32} (hv : (a.toUInt32 % 65536).toInt32 = v) (hdg : decode cc pc = .ok (.i2c, 1))
    (kk : zW p l e R s m args below meth c D cy N A n ad cells slots Q (pc + 1, L, .int v :: rest) σ) : zW p l e R s m args below meth c D cy N A n ad cells slots Q (pc, L, .int a :: rest) σ :=
  fun H locs hP hS ls hl' => lv_i2c X.1 X.2.1 hdg hv (kk H locs hP hS ls hl')
theorem zw_lds (X : zX p l s m args meth c cc nL own D cy wa A) {tx : String} {q : Nat} (hq : vk_R own index tx q s) (hdg : decode cc pc = .ok (.ldc index, 2))
    (kk : zW p l e R s m args below meth c D cy N A n ad cells slots Q (pc + 2, L, .ref q :: rest) σ) : zW p l e R s m args below meth c D cy N A n ad cells slots Q (pc, L, rest) σ :=
  fun H locs hP hS ls hl' => va_ldcS X.1 X.2.1 X.2.2.2.1 hq hdg (kk H locs hP hS ls hl')
theorem zw_Gi (X : zX p l s m args meth c cc nL own D cy wa A) (hAd : ∀ i, i < n → A (ad i)) {b : Nat} {C : String} (hO : va_O C b A s s.heap) (h5 : zV5 own C index y bytes maxL ret As.length)
    (hM : ∀ sz, Met l y (.code y bytes maxL ret :: zB) (zRm d) (zPc (.ref b :: As) D cy wa N n ad σ sz) (zQi ans D cy N n ad σ' sz) 0 0 (zA n ad sz)) (hst : st0 = As.reverse ++ .ref b :: rest) (hnL : L.length = nL) (hrm : (rest.map fun v => v.category).sum ≤ 8) (hR : d + 1 ≤ R.frames ∧ 8 + (maxL + 11) + 40 * d ≤ R.locals) (hf : cells ≤ R.cells ∧ slots ≤ R.slots) (hdg : decode cc pc = .ok (.invokevirtual index, 3))
    (kk : zW p l e R s m args below meth c D cy N A n ad cells slots Q (pc + 3, L, .int ans :: rest) σ') : zW p l e R s m args below meth c D cy N A n ad cells slots Q (pc, L, st0) σ := by
  subst hst
  obtain ⟨w1, w2, w3, w4, w5, w6, w7, w8, w9⟩ := h5
  refine zw_calli X hAd (mc := 0) (ms := 0) (ws := []) (y := y) (rm := zRm d) (av := .ref b :: As) (rest := rest) (fun H locs ls hP hS hl => va_runV ⟨X.1, X.2.1, X.2.2.1, X.2.2.2.1, X.2.2.2.2.1⟩ (hM H.size) (cwV As.length X.2.2.2.2.1 (z_gV w1 w2 w3 w4 w5) rfl rfl rfl ⟨w6, w7, w8, w9⟩ hR) ⟨zPc_blind, ?_, zPc_of X hAd hS hP _⟩ rfl rfl (hl.1.trans hnL) rfl (lv_room hrm) hdg hf) kk
  obtain ⟨cell, h1, h2, h3, -⟩ := hO.kept hS.2.1
  exact ⟨cell, h1, h2, h3⟩
/-- a static call that answers a known cell -/
theorem zw_Sa (X : zX p l s m args meth c cc nL own D cy wa A) (hAd : ∀ i, i < n → A (ad i)) {b : Nat} (h5 : zS5 own index y bytes maxL ret As.length)
    (hM : ∀ sz, Met l y (.code y bytes maxL ret :: zB) (zRm d) (zPc As D cy wa N n ad σ sz) (zQa b D cy N n ad σ' sz) 0 0 (zA n ad sz)) (hst : st0 = As.reverse ++ rest) (hnL : L.length = nL) (hrm : (rest.map fun v => v.category).sum ≤ 8) (hR : d + 1 ≤ R.frames ∧ 8 + (maxL + 11) + 40 * d ≤ R.locals) (hf : cells ≤ R.cells ∧ slots ≤ R.slots) (hdg : decode cc pc = .ok (.invokestatic index, 3))
    (kk : zW p l e R s m args below meth c D cy N A n ad cells slots Q (pc + 3, L, .ref b :: rest) σ') : zW p l e R s m args below meth c D cy N A n ad cells slots Q (pc, L, st0) σ := by
  subst hst
  obtain ⟨w1, w2, w4, w5, w7, w8, w9⟩ := h5
  intro H locs hP hS ls hl
  have hz := zA_in X hAd hS
  refine va_callr (va_runS ⟨X.1, X.2.1, X.2.2.1, X.2.2.2.1, X.2.2.2.2.1⟩ (hM H.size) (va_cwS As.length X.2.2.2.2.1 (z_gS w1 w2 w4 w5) rfl rfl rfl ⟨w7, w8, w9⟩ hR) ⟨zPc_blind, zPc_of X hAd hS hP _⟩ rfl rfl (hl.1.trans hnL) rfl (lv_room hrm) hdg hf) hS (fun q _ h => hz q h) hz (fun u ra t H1 locs1 ht hvm hp hB hz1 hk1 hS1 => ?_)
  obtain ⟨rfl, hB⟩ := hB
  rw [ht] at hB
  exact kk H1 locs1 hB hS1 ls hl
theorem zw_aret (X : zX p l s m args meth c cc nL own D cy wa A) {rt : String} (hr : meth.sig.returnType = some (.object rt)) (hdg : decode cc pc = .ok (.areturn, 1)) {a : Nat} {σ' : zS} {sz : Nat} (hA0 : A = zA n ad sz) (hσ : σ = σ') :
    zW p l e R s m args below meth c D cy N A n ad cells slots (MQ below (zQa a D cy N n ad σ' sz) args s cells slots A) (pc, L, [.ref a]) σ := by
  subst hσ; subst hA0
  obtain ⟨hx, hb, hml, hown, hts, hlk, hK, hA, hE, hM, hls⟩ := X
  intro H locs hP hS ls hl'
  exact W.aret hx hb hr (Or.inl ⟨_, rfl⟩) (Or.inr ⟨a, rfl⟩) (fun t ht hW => ⟨⟨(), a, rfl, trivial, rfl, by rw [ht]; exact hP⟩, hS.F ht⟩) hS.2.2 hdg hlk
end ZG

set_option maxHeartbeats 4000000 in
set_option maxRecDepth 100000 in
theorem c_coder {l : Launch} (hls : l.stackTraces = false) {D : va_G} {cy : Nat → ClassId} {wa : Nat → Nat} {N n : Nat} {ad : Nat → Nat} (hD : zD n ad) (hn : 40 ≤ n) (σ : zS) (a v len : Nat) (byt : List Int32) (hlen : len < 100) (hG : ∀ A U H, zE wa A U H → zG len byt a v A U H)  (sz : Nat) : Met l yJ0_coder_7d493 (.code yJ0_coder_7d493 cJ0_coder_7d493 1 (some .byte) :: zB) (zRm 0) (zPc [.ref (a)] D cy wa N n ad σ sz) (zQi (0) D cy N n ad (σ) sz) 0 0 (zA n ad sz) := by
  refine z_metF (by decide +kernel) hls (List.forall_mem_cons.mpr ⟨rfl, (fun _ h => nomatch h)⟩) (Nat.le_of_ble_eq_true rfl) (fun p_ e_ s_ m_ below_ meth_ c_ hsz hr X => ?_)
  have X : zX p_ l s_ m_ [.ref (a)].toArray meth_ c_ cJ0_coder_7d493 1 RJ0 D cy wa (zA n ad sz) := X
  have hAd : ∀ i, i < n → zA n ad sz (ad i) := fun i hi => Or.inl ⟨i, hi, rfl⟩
  obtain ⟨hO, hc, hv, hT⟩ := hG _ _ _ X.2.2.2.2.2.2.2.2.1
  refine zw_gets X X.2.2.2.2.2.2.2.2.1.2.2.1 zm_177 dJ0_coder_7d493_0 ?_
  refine zw_if_eq X (tgt := 13) dJ0_coder_7d493_3 (by decide) (fun h_ => absurd h_ (by decide)) (fun _ => ?_)
  refine zw_run X (is := [(6, .aload_n 0, 1)]) (t' := (7, [some (.ref (a))], [.ref (a)])) ⟨dJ0_coder_7d493_6, trivial⟩ rfl ?_
  refine zw_rawf X hc zm_178 dJ0_coder_7d493_7 ?_
  refine zw_go X (tgt := 14) dJ0_coder_7d493_10 (by decide) ?_
  exact zw_zret X hr dJ0_coder_7d493_14 rfl rfl rfl rfl

set_option maxHeartbeats 4000000 in
set_option maxRecDepth 100000 in
theorem c_isLatin1 {l : Launch} (hls : l.stackTraces = false) {D : va_G} {cy : Nat → ClassId} {wa : Nat → Nat} {N n : Nat} {ad : Nat → Nat} (hD : zD n ad) (hn : 40 ≤ n) (σ : zS) (a v len : Nat) (byt : List Int32) (hlen : len < 100) (hG : ∀ A U H, zE wa A U H → zG len byt a v A U H)  (sz : Nat) : Met l yJ0_isLatin1_aae02 (.code yJ0_isLatin1_aae02 cJ0_isLatin1_aae02 1 (some .boolean) :: zB) (zRm 0) (zPc [.ref (a)] D cy wa N n ad σ sz) (zQi (1) D cy N n ad (σ) sz) 0 0 (zA n ad sz) := by
  refine z_metF (by decide +kernel) hls (List.forall_mem_cons.mpr ⟨rfl, (fun _ h => nomatch h)⟩) (Nat.le_of_ble_eq_true rfl) (fun p_ e_ s_ m_ below_ meth_ c_ hsz hr X => ?_)
  have X : zX p_ l s_ m_ [.ref (a)].toArray meth_ c_ cJ0_isLatin1_aae02 1 RJ0 D cy wa (zA n ad sz) := X
  have hAd : ∀ i, i < n → zA n ad sz (ad i) := fun i hi => Or.inl ⟨i, hi, rfl⟩
  obtain ⟨hO, hc, hv, hT⟩ := hG _ _ _ X.2.2.2.2.2.2.2.2.1
  refine zw_gets X X.2.2.2.2.2.2.2.2.1.2.2.1 zm_177 dJ0_isLatin1_aae02_0 ?_
  refine zw_if_eq X (tgt := 17) dJ0_isLatin1_aae02_3 (by decide) (fun h_ => absurd h_ (by decide)) (fun _ => ?_)
  refine zw_run X (is := [(6, .aload_n 0, 1)]) (t' := (7, [some (.ref (a))], [.ref (a)])) ⟨dJ0_isLatin1_aae02_6, trivial⟩ rfl ?_
  refine zw_rawf X hc zm_178 dJ0_isLatin1_aae02_7 ?_
  refine zw_if_ne X (tgt := 17) dJ0_isLatin1_aae02_10 (by decide) (fun h_ => absurd rfl h_) (fun h_ => ?_)
  refine zw_run X (is := [(13, .iconst 1, 1)]) (t' := (14, [some (.ref (a))], [.int 1])) ⟨dJ0_isLatin1_aae02_13, trivial⟩ rfl ?_
  refine zw_go X (tgt := 18) dJ0_isLatin1_aae02_14 (by decide) ?_
  exact zw_zret X hr dJ0_isLatin1_aae02_18 rfl rfl rfl rfl

set_option maxHeartbeats 4000000 in
set_option maxRecDepth 100000 in
theorem c_length {l : Launch} (hls : l.stackTraces = false) {D : va_G} {cy : Nat → ClassId} {wa : Nat → Nat} {N n : Nat} {ad : Nat → Nat} (hD : zD n ad) (hn : 40 ≤ n) (σ : zS) (a v len : Nat) (byt : List Int32) (hlen : len < 100) (hG : ∀ A U H, zE wa A U H → zG len byt a v A U H)  (sz : Nat) : Met l yJ0_length_8abf5 (.code yJ0_length_8abf5 cJ0_length_8abf5 1 (some .int) :: zB) (zRm 1) (zPc [.ref (a)] D cy wa N n ad σ sz) (zQi (nI len) D cy N n ad (σ) sz) 0 0 (zA n ad sz) := by
  refine z_metF (by decide +kernel) hls (List.forall_mem_cons.mpr ⟨rfl, (fun _ h => nomatch h)⟩) (Nat.le_of_ble_eq_true rfl) (fun p_ e_ s_ m_ below_ meth_ c_ hsz hr X => ?_)
  have X : zX p_ l s_ m_ [.ref (a)].toArray meth_ c_ cJ0_length_8abf5 1 RJ0 D cy wa (zA n ad sz) := X
  have hAd : ∀ i, i < n → zA n ad sz (ad i) := fun i hi => Or.inl ⟨i, hi, rfl⟩
  obtain ⟨hO, hc, hv, hT⟩ := hG _ _ _ X.2.2.2.2.2.2.2.2.1
  refine zw_run X (is := [(0, .aload_n 0, 1)]) (t' := (1, [some (.ref (a))], [.ref (a)])) ⟨dJ0_length_8abf5_0, trivial⟩ rfl ?_
  refine zw_rawf X hv zm_172 dJ0_length_8abf5_1 ?_
  refine zw_tlen X hT (v := nI len) rfl dJ0_length_8abf5_4 ?_
  refine zw_run X (is := [(5, .aload_n 0, 1)]) (t' := (6, [some (.ref (a))], [.ref (a), .int (nI len)])) ⟨dJ0_length_8abf5_5, trivial⟩ rfl ?_
  refine zw_Gi X hAd (As := []) (rest := [.int (nI len)]) (d := 0) hO ⟨zm_173, zm_174, zm_175, zm_170, zm_176, rfl, by decide, by decide, (show (parseMethodDescriptor yJ0_coder_7d493.desc).map (fun d => d.parameters.length) = some 0 by decide +kernel)⟩ (fun sz => c_coder hls hD hn σ a v len byt hlen hG sz) rfl rfl (Nat.le_of_ble_eq_true rfl) ⟨Nat.le_of_ble_eq_true rfl, Nat.le_of_ble_eq_true rfl⟩ ⟨Nat.zero_le _, Nat.zero_le _⟩ dJ0_length_8abf5_6 ?_
  refine zw_shr X (v := nI len) (by rw [show (0 : Int32) &&& 31 = 0 from rfl]; exact sb_shr0 _) dJ0_length_8abf5_9 ?_
  exact zw_iret X hr dJ0_length_8abf5_10 rfl rfl rfl

set_option maxHeartbeats 4000000 in
set_option maxRecDepth 100000 in
theorem c_J3check {l : Launch} (hls : l.stackTraces = false) {D : va_G} {cy : Nat → ClassId} {wa : Nat → Nat} {N n : Nat} {ad : Nat → Nat} (hD : zD n ad) (hn : 40 ≤ n) (σ : zS) (j len : Nat) (hj : j < len) (hlen : len < 100) (v : Value) (hvc : v.category = 1) (sz : Nat) : Met l yJ3_checkIndex_8e157 (.code yJ3_checkIndex_8e157 cJ3_checkIndex_8e157 3 (some .int) :: zB) (zRm 0) (zPc [.int (nI j), .int (nI len), v] D cy wa N n ad σ sz) (zQi (nI j) D cy N n ad (σ) sz) 0 0 (zA n ad sz) := by
  refine z_metF (by decide +kernel) hls (List.forall_mem_cons.mpr ⟨rfl, (List.forall_mem_cons.mpr ⟨rfl, (List.forall_mem_cons.mpr ⟨hvc, (fun _ h => nomatch h)⟩)⟩)⟩) (Nat.le_of_ble_eq_true rfl) (fun p_ e_ s_ m_ below_ meth_ c_ hsz hr X => ?_)
  have X : zX p_ l s_ m_ [.int (nI j), .int (nI len), v].toArray meth_ c_ cJ3_checkIndex_8e157 3 RJ3 D cy wa (zA n ad sz) := X
  have hAd : ∀ i, i < n → zA n ad sz (ad i) := fun i hi => Or.inl ⟨i, hi, rfl⟩
  refine zw_run X (is := [(0, .iload_n 0, 1)]) (t' := (1, [some (.int (nI j)), some (.int (nI len)), some (v)], [.int (nI j)])) ⟨dJ3_checkIndex_8e157_0, trivial⟩ rfl ?_
  refine zw_if_lt X (tgt := 9) dJ3_checkIndex_8e157_1 (by decide) (fun h_ => absurd h_ (nI_pos (by omega))) (fun _ => ?_)
  refine zw_run X (is := [(4, .iload_n 0, 1), (5, .iload_n 1, 1)]) (t' := (6, [some (.int (nI j)), some (.int (nI len)), some (v)], [.int (nI len), .int (nI j)])) ⟨dJ3_checkIndex_8e157_4, dJ3_checkIndex_8e157_5, trivial⟩ rfl ?_
  refine zw_icmp_lt X (tgt := 16) dJ3_checkIndex_8e157_6 (by decide) (fun _ => ?_) (fun h_ => absurd (nI_lt hj (by omega)) h_)
  refine zw_run X (is := [(16, .iload_n 0, 1)]) (t' := (17, [some (.int (nI j)), some (.int (nI len)), some (v)], [.int (nI j)])) ⟨dJ3_checkIndex_8e157_16, trivial⟩ rfl ?_
  exact zw_iret X hr dJ3_checkIndex_8e157_17 rfl rfl rfl

set_option maxHeartbeats 4000000 in
set_option maxRecDepth 100000 in
theorem c_J0check {l : Launch} (hls : l.stackTraces = false) {D : va_G} {cy : Nat → ClassId} {wa : Nat → Nat} {N n : Nat} {ad : Nat → Nat} (hD : zD n ad) (hn : 40 ≤ n) (σ : zS) (j len : Nat) (hj : j < len) (hlen : len < 100) (sz : Nat) : Met l yJ0_checkIndex_df160 (.code yJ0_checkIndex_df160 cJ0_checkIndex_df160 2 none :: zB) (zRm 1) (zPc [.int (nI j), .int (nI len)] D cy wa N n ad σ sz) (zQv D cy N n ad (σ) sz) 0 0 (zA n ad sz) := by
  refine z_metF (by decide +kernel) hls (List.forall_mem_cons.mpr ⟨rfl, (List.forall_mem_cons.mpr ⟨rfl, (fun _ h => nomatch h)⟩)⟩) (Nat.le_of_ble_eq_true rfl) (fun p_ e_ s_ m_ below_ meth_ c_ hsz hr X => ?_)
  have X : zX p_ l s_ m_ [.int (nI j), .int (nI len)].toArray meth_ c_ cJ0_checkIndex_df160 2 RJ0 D cy wa (zA n ad sz) := X
  have hAd : ∀ i, i < n → zA n ad sz (ad i) := fun i hi => Or.inl ⟨i, hi, rfl⟩
  refine zw_run X (is := [(0, .iload_n 0, 1), (1, .iload_n 1, 1)]) (t' := (2, [some (.int (nI j)), some (.int (nI len))], [.int (nI len), .int (nI j)])) ⟨dJ0_checkIndex_df160_0, dJ0_checkIndex_df160_1, trivial⟩ rfl ?_
  rcases X.2.2.2.2.2.2.2.2.1.2.2.2.1 with hz | ⟨z, hz⟩
  · refine zw_gets X hz zm_194 dJ0_checkIndex_df160_2 ?_
    refine zw_Si X hAd (As := [.int (nI j), .int (nI len), .null]) (rest := []) (d := 0) ⟨zm_195, zm_196, zm_197, zm_198, by decide, by decide, (show (parseMethodDescriptor yJ3_checkIndex_8e157.desc).map (fun d => d.parameters.length) = some 3 by decide +kernel)⟩ (fun sz => c_J3check hls hD hn σ j len hj hlen (.null) rfl sz) rfl rfl (Nat.le_of_ble_eq_true rfl) ⟨Nat.le_of_ble_eq_true rfl, Nat.le_of_ble_eq_true rfl⟩ ⟨Nat.zero_le _, Nat.zero_le _⟩ dJ0_checkIndex_df160_5 ?_
    refine zw_run X (is := [(8, .pop, 1)]) (t' := (9, [some (.int (nI j)), some (.int (nI len))], [])) ⟨dJ0_checkIndex_df160_8, trivial⟩ rfl ?_
    exact zw_vret X hr dJ0_checkIndex_df160_9 rfl rfl
  · refine zw_gets X hz zm_194 dJ0_checkIndex_df160_2 ?_
    refine zw_Si X hAd (As := [.int (nI j), .int (nI len), .ref (z)]) (rest := []) (d := 0) ⟨zm_195, zm_196, zm_197, zm_198, by decide, by decide, (show (parseMethodDescriptor yJ3_checkIndex_8e157.desc).map (fun d => d.parameters.length) = some 3 by decide +kernel)⟩ (fun sz => c_J3check hls hD hn σ j len hj hlen (.ref (z)) rfl sz) rfl rfl (Nat.le_of_ble_eq_true rfl) ⟨Nat.le_of_ble_eq_true rfl, Nat.le_of_ble_eq_true rfl⟩ ⟨Nat.zero_le _, Nat.zero_le _⟩ dJ0_checkIndex_df160_5 ?_
    refine zw_run X (is := [(8, .pop, 1)]) (t' := (9, [some (.int (nI j)), some (.int (nI len))], [])) ⟨dJ0_checkIndex_df160_8, trivial⟩ rfl ?_
    exact zw_vret X hr dJ0_checkIndex_df160_9 rfl rfl

set_option maxHeartbeats 4000000 in
set_option maxRecDepth 100000 in
theorem c_J1charAt {l : Launch} (hls : l.stackTraces = false) {D : va_G} {cy : Nat → ClassId} {wa : Nat → Nat} {N n : Nat} {ad : Nat → Nat} (hD : zD n ad) (hn : 40 ≤ n) (σ : zS) (v len : Nat) (byt : List Int32) (hlen : len < 100) (hT0 : ∀ A U H, zE wa A U H → va_T .byte v len (fun j => .int (byt.getD j 0)) A U H) (j : Nat) (hj : j < len) (hch : ((byt.getD j 0 &&& 255).toUInt32 % 65536).toInt32 = byt.getD j 0)  (sz : Nat) : Met l yJ1_charAt_3b067 (.code yJ1_charAt_3b067 cJ1_charAt_3b067 2 (some .char) :: zB) (zRm 2) (zPc [.ref (v), .int (nI j)] D cy wa N n ad σ sz) (zQi (byt.getD j 0) D cy N n ad (σ) sz) 0 0 (zA n ad sz) := by
  refine z_metF (by decide +kernel) hls (List.forall_mem_cons.mpr ⟨rfl, (List.forall_mem_cons.mpr ⟨rfl, (fun _ h => nomatch h)⟩)⟩) (Nat.le_of_ble_eq_true rfl) (fun p_ e_ s_ m_ below_ meth_ c_ hsz hr X => ?_)
  have X : zX p_ l s_ m_ [.ref (v), .int (nI j)].toArray meth_ c_ cJ1_charAt_3b067 2 RJ1 D cy wa (zA n ad sz) := X
  have hAd : ∀ i, i < n → zA n ad sz (ad i) := fun i hi => Or.inl ⟨i, hi, rfl⟩
  have hnr : narrow .char (.int (byt.getD j 0)) = .int (byt.getD j 0) := by rw [← hch]; exact pk_nc _
  refine zw_run X (is := [(0, .iload_n 1, 1), (1, .aload_n 0, 1)]) (t' := (2, [some (.ref (v)), some (.int (nI j))], [.ref (v), .int (nI j)])) ⟨dJ1_charAt_3b067_0, dJ1_charAt_3b067_1, trivial⟩ rfl ?_
  refine zw_tlen X (hT0 _ _ _ X.2.2.2.2.2.2.2.2.1) (v := nI len) rfl dJ1_charAt_3b067_2 ?_
  refine zw_Sv X hAd (As := [.int (nI j), .int (nI len)]) (rest := []) (d := 1) ⟨zm_191, zm_192, zm_170, zm_193, by decide, by decide, (show (parseMethodDescriptor yJ0_checkIndex_df160.desc).map (fun d => d.parameters.length) = some 2 by decide +kernel)⟩ (fun sz => c_J0check hls hD hn σ j len hj hlen sz) rfl rfl (Nat.le_of_ble_eq_true rfl) ⟨Nat.le_of_ble_eq_true rfl, Nat.le_of_ble_eq_true rfl⟩ ⟨Nat.zero_le _, Nat.zero_le _⟩ dJ1_charAt_3b067_3 ?_
  refine zw_run X (is := [(6, .aload_n 0, 1), (7, .iload_n 1, 1)]) (t' := (8, [some (.ref (v)), some (.int (nI j))], [.int (nI j), .ref (v)])) ⟨dJ1_charAt_3b067_6, dJ1_charAt_3b067_7, trivial⟩ rfl ?_
  refine zw_tb X (hT0 _ _ _ X.2.2.2.2.2.2.2.2.1) hj (by omega) (v := byt.getD j 0) rfl dJ1_charAt_3b067_8 ?_
  refine zw_run X (is := [(9, .sipush 255, 3), (12, .iand, 1)]) (t' := (13, [some (.ref (v)), some (.int (nI j))], [.int ((byt.getD j 0) &&& 255)])) ⟨dJ1_charAt_3b067_9, dJ1_charAt_3b067_12, trivial⟩ rfl ?_
  refine zw_i2c X (v := byt.getD j 0) hch dJ1_charAt_3b067_13 ?_
  exact zw_zret X hr dJ1_charAt_3b067_14 hnr rfl rfl rfl

set_option maxHeartbeats 4000000 in
set_option maxRecDepth 100000 in
theorem c_charAt {l : Launch} (hls : l.stackTraces = false) {D : va_G} {cy : Nat → ClassId} {wa : Nat → Nat} {N n : Nat} {ad : Nat → Nat} (hD : zD n ad) (hn : 40 ≤ n) (σ : zS) (a v len : Nat) (byt : List Int32) (hlen : len < 100) (hG : ∀ A U H, zE wa A U H → zG len byt a v A U H) (j : Nat) (hj : j < len) (hch : ((byt.getD j 0 &&& 255).toUInt32 % 65536).toInt32 = byt.getD j 0)  (sz : Nat) : Met l yJ0_charAt_5068e (.code yJ0_charAt_5068e cJ0_charAt_5068e 2 (some .char) :: zB) (zRm 3) (zPc [.ref (a), .int (nI j)] D cy wa N n ad σ sz) (zQi (byt.getD j 0) D cy N n ad (σ) sz) 0 0 (zA n ad sz) := by
  refine z_metF (by decide +kernel) hls (List.forall_mem_cons.mpr ⟨rfl, (List.forall_mem_cons.mpr ⟨rfl, (fun _ h => nomatch h)⟩)⟩) (Nat.le_of_ble_eq_true rfl) (fun p_ e_ s_ m_ below_ meth_ c_ hsz hr X => ?_)
  have X : zX p_ l s_ m_ [.ref (a), .int (nI j)].toArray meth_ c_ cJ0_charAt_5068e 2 RJ0 D cy wa (zA n ad sz) := X
  have hAd : ∀ i, i < n → zA n ad sz (ad i) := fun i hi => Or.inl ⟨i, hi, rfl⟩
  obtain ⟨hO, hc, hv, hT⟩ := hG _ _ _ X.2.2.2.2.2.2.2.2.1
  have hnr : narrow .char (.int (byt.getD j 0)) = .int (byt.getD j 0) := by rw [← hch]; exact pk_nc _
  refine zw_run X (is := [(0, .aload_n 0, 1)]) (t' := (1, [some (.ref (a)), some (.int (nI j))], [.ref (a)])) ⟨dJ0_charAt_5068e_0, trivial⟩ rfl ?_
  refine zw_Gi X hAd (As := []) (rest := []) (d := 0) hO ⟨zm_183, zm_184, zm_185, zm_170, zm_186, rfl, by decide, by decide, (show (parseMethodDescriptor yJ0_isLatin1_aae02.desc).map (fun d => d.parameters.length) = some 0 by decide +kernel)⟩ (fun sz => c_isLatin1 hls hD hn σ a v len byt hlen hG sz) rfl rfl (Nat.le_of_ble_eq_true rfl) ⟨Nat.le_of_ble_eq_true rfl, Nat.le_of_ble_eq_true rfl⟩ ⟨Nat.zero_le _, Nat.zero_le _⟩ dJ0_charAt_5068e_1 ?_
  refine zw_if_eq X (tgt := 16) dJ0_charAt_5068e_4 (by decide) (fun h_ => absurd h_ (by decide)) (fun _ => ?_)
  refine zw_run X (is := [(7, .aload_n 0, 1)]) (t' := (8, [some (.ref (a)), some (.int (nI j))], [.ref (a)])) ⟨dJ0_charAt_5068e_7, trivial⟩ rfl ?_
  refine zw_rawf X hv zm_172 dJ0_charAt_5068e_8 ?_
  refine zw_run X (is := [(11, .iload_n 1, 1)]) (t' := (12, [some (.ref (a)), some (.int (nI j))], [.int (nI j), .ref (v)])) ⟨dJ0_charAt_5068e_11, trivial⟩ rfl ?_
  refine zw_Si X hAd (As := [.ref (v), .int (nI j)]) (rest := []) (d := 2) ⟨zm_187, zm_188, zm_189, zm_190, by decide, by decide, (show (parseMethodDescriptor yJ1_charAt_3b067.desc).map (fun d => d.parameters.length) = some 2 by decide +kernel)⟩ (fun sz => c_J1charAt hls hD hn σ v len byt hlen (fun A U H h => (hG A U H h).2.2.2) j hj hch sz) rfl rfl (Nat.le_of_ble_eq_true rfl) ⟨Nat.le_of_ble_eq_true rfl, Nat.le_of_ble_eq_true rfl⟩ ⟨Nat.zero_le _, Nat.zero_le _⟩ dJ0_charAt_5068e_12 ?_
  exact zw_zret X hr dJ0_charAt_5068e_15 hnr rfl rfl rfl
end
section
/-! Spelling. -/
def zlen (k : Nat) : Nat := [8, 5, 5, 7, 4, 6].getD k 0
def zbyt (k : Nat) : List Int32 := [[99, 114, 101, 97, 116, 105, 111, 110], [102, 108, 111, 111, 100], [98, 105, 114, 116, 104], [112, 97, 115, 115, 105, 111, 110], [100, 111, 111, 109], [102, 108, 111, 111, 100, 115]].getD k []
theorem zE_at {wa : Nat → Nat} : ∀ k, k < 6 → ∀ (A : Nat → Prop) (U : State) (H : Heap), zE wa A U H → zG (zlen k) (zbyt k) (wa k) (wa (10 + k)) A U H
  | 0, _, A, U, H, h => h.2.2.2.2.1
  | 1, _, A, U, H, h => h.2.2.2.2.2.1
  | 2, _, A, U, H, h => h.2.2.2.2.2.2.1
  | 3, _, A, U, H, h => h.2.2.2.2.2.2.2.1
  | 4, _, A, U, H, h => h.2.2.2.2.2.2.2.2.1
  | 5, _, A, U, H, h => h.2.2.2.2.2.2.2.2.2
  | k + 6, q, _, _, _, _ => absurd q (by omega)
theorem zch : ∀ k, k < 6 → ∀ j, j < zlen k → (((zbyt k).getD j 0 &&& 255).toUInt32 % 65536).toInt32 = (zbyt k).getD j 0 := by decide +kernel
theorem zlen_le : ∀ k, k < 6 → zlen k ≤ 8 ∧ 4 ≤ zlen k := by decide +kernel

set_option maxHeartbeats 4000000 in
set_option maxRecDepth 100000 in
theorem c_wordOf_0 {l : Launch} (hls : l.stackTraces = false) {D : va_G} {cy : Nat → ClassId} {wa : Nat → Nat} {N n : Nat} {ad : Nat → Nat} (hD : zD n ad) (hn : 40 ≤ n) (σ : zS)  (sz : Nat) : Met l yX2_wordOf (.code yX2_wordOf cX2_wordOf 1 (some (.object "java/lang/String")) :: zB) (zRm 0) (zPc [.int 0] D cy wa N n ad σ sz) (zQa (wa 0) D cy N n ad (σ) sz) 0 0 (zA n ad sz) := by
  refine z_met (by decide) hls (List.forall_mem_cons.mpr ⟨rfl, (fun _ h => nomatch h)⟩) (Nat.le_of_ble_eq_true rfl) (fun p_ e_ s_ m_ below_ meth_ c_ hsz hr X => ?_)
  have X : zX p_ l s_ m_ [.int 0].toArray meth_ c_ cX2_wordOf 1 RX2 D cy wa (zA n ad sz) := X
  have hAd : ∀ i, i < n → zA n ad sz (ad i) := fun i hi => Or.inl ⟨i, hi, rfl⟩
  refine zw_run X (is := [(0, .iload_n 0, 1)]) (t' := (1, [some (.int 0)], [.int 0])) ⟨dX2_wordOf_0, trivial⟩ rfl ?_
  refine zw_tabIn X (off := 31) (tgt := 32) dX2_wordOf_1 (by decide) (by decide) (by decide) (by decide) ?_
  refine zw_lds X (tx := "creation") (q := wa 0) (X.2.2.2.2.2.2.2.2.2.1.2.1 ("Wagonplay$Letters", 37, "creation", 0) (by decide +kernel)) dX2_wordOf_32 ?_
  exact zw_aret X hr dX2_wordOf_34 rfl rfl

set_option maxHeartbeats 4000000 in
set_option maxRecDepth 100000 in
theorem c_wordOf_1 {l : Launch} (hls : l.stackTraces = false) {D : va_G} {cy : Nat → ClassId} {wa : Nat → Nat} {N n : Nat} {ad : Nat → Nat} (hD : zD n ad) (hn : 40 ≤ n) (σ : zS)  (sz : Nat) : Met l yX2_wordOf (.code yX2_wordOf cX2_wordOf 1 (some (.object "java/lang/String")) :: zB) (zRm 0) (zPc [.int 1] D cy wa N n ad σ sz) (zQa (wa 1) D cy N n ad (σ) sz) 0 0 (zA n ad sz) := by
  refine z_met (by decide) hls (List.forall_mem_cons.mpr ⟨rfl, (fun _ h => nomatch h)⟩) (Nat.le_of_ble_eq_true rfl) (fun p_ e_ s_ m_ below_ meth_ c_ hsz hr X => ?_)
  have X : zX p_ l s_ m_ [.int 1].toArray meth_ c_ cX2_wordOf 1 RX2 D cy wa (zA n ad sz) := X
  have hAd : ∀ i, i < n → zA n ad sz (ad i) := fun i hi => Or.inl ⟨i, hi, rfl⟩
  refine zw_run X (is := [(0, .iload_n 0, 1)]) (t' := (1, [some (.int 1)], [.int 1])) ⟨dX2_wordOf_0, trivial⟩ rfl ?_
  refine zw_tabIn X (off := 34) (tgt := 35) dX2_wordOf_1 (by decide) (by decide) (by decide) (by decide) ?_
  refine zw_lds X (tx := "flood") (q := wa 1) (X.2.2.2.2.2.2.2.2.2.1.2.1 ("Wagonplay$Letters", 39, "flood", 1) (by decide +kernel)) dX2_wordOf_35 ?_
  exact zw_aret X hr dX2_wordOf_37 rfl rfl

set_option maxHeartbeats 4000000 in
set_option maxRecDepth 100000 in
theorem c_wordOf_2 {l : Launch} (hls : l.stackTraces = false) {D : va_G} {cy : Nat → ClassId} {wa : Nat → Nat} {N n : Nat} {ad : Nat → Nat} (hD : zD n ad) (hn : 40 ≤ n) (σ : zS)  (sz : Nat) : Met l yX2_wordOf (.code yX2_wordOf cX2_wordOf 1 (some (.object "java/lang/String")) :: zB) (zRm 0) (zPc [.int 2] D cy wa N n ad σ sz) (zQa (wa 2) D cy N n ad (σ) sz) 0 0 (zA n ad sz) := by
  refine z_met (by decide) hls (List.forall_mem_cons.mpr ⟨rfl, (fun _ h => nomatch h)⟩) (Nat.le_of_ble_eq_true rfl) (fun p_ e_ s_ m_ below_ meth_ c_ hsz hr X => ?_)
  have X : zX p_ l s_ m_ [.int 2].toArray meth_ c_ cX2_wordOf 1 RX2 D cy wa (zA n ad sz) := X
  have hAd : ∀ i, i < n → zA n ad sz (ad i) := fun i hi => Or.inl ⟨i, hi, rfl⟩
  refine zw_run X (is := [(0, .iload_n 0, 1)]) (t' := (1, [some (.int 2)], [.int 2])) ⟨dX2_wordOf_0, trivial⟩ rfl ?_
  refine zw_tabIn X (off := 37) (tgt := 38) dX2_wordOf_1 (by decide) (by decide) (by decide) (by decide) ?_
  refine zw_lds X (tx := "birth") (q := wa 2) (X.2.2.2.2.2.2.2.2.2.1.2.1 ("Wagonplay$Letters", 41, "birth", 2) (by decide +kernel)) dX2_wordOf_38 ?_
  exact zw_aret X hr dX2_wordOf_40 rfl rfl

set_option maxHeartbeats 4000000 in
set_option maxRecDepth 100000 in
theorem c_wordOf_3 {l : Launch} (hls : l.stackTraces = false) {D : va_G} {cy : Nat → ClassId} {wa : Nat → Nat} {N n : Nat} {ad : Nat → Nat} (hD : zD n ad) (hn : 40 ≤ n) (σ : zS)  (sz : Nat) : Met l yX2_wordOf (.code yX2_wordOf cX2_wordOf 1 (some (.object "java/lang/String")) :: zB) (zRm 0) (zPc [.int 3] D cy wa N n ad σ sz) (zQa (wa 3) D cy N n ad (σ) sz) 0 0 (zA n ad sz) := by
  refine z_met (by decide) hls (List.forall_mem_cons.mpr ⟨rfl, (fun _ h => nomatch h)⟩) (Nat.le_of_ble_eq_true rfl) (fun p_ e_ s_ m_ below_ meth_ c_ hsz hr X => ?_)
  have X : zX p_ l s_ m_ [.int 3].toArray meth_ c_ cX2_wordOf 1 RX2 D cy wa (zA n ad sz) := X
  have hAd : ∀ i, i < n → zA n ad sz (ad i) := fun i hi => Or.inl ⟨i, hi, rfl⟩
  refine zw_run X (is := [(0, .iload_n 0, 1)]) (t' := (1, [some (.int 3)], [.int 3])) ⟨dX2_wordOf_0, trivial⟩ rfl ?_
  refine zw_tabIn X (off := 40) (tgt := 41) dX2_wordOf_1 (by decide) (by decide) (by decide) (by decide) ?_
  refine zw_lds X (tx := "passion") (q := wa 3) (X.2.2.2.2.2.2.2.2.2.1.2.1 ("Wagonplay$Letters", 43, "passion", 3) (by decide +kernel)) dX2_wordOf_41 ?_
  exact zw_aret X hr dX2_wordOf_43 rfl rfl

set_option maxHeartbeats 4000000 in
set_option maxRecDepth 100000 in
theorem c_wordOf_4 {l : Launch} (hls : l.stackTraces = false) {D : va_G} {cy : Nat → ClassId} {wa : Nat → Nat} {N n : Nat} {ad : Nat → Nat} (hD : zD n ad) (hn : 40 ≤ n) (σ : zS)  (sz : Nat) : Met l yX2_wordOf (.code yX2_wordOf cX2_wordOf 1 (some (.object "java/lang/String")) :: zB) (zRm 0) (zPc [.int 4] D cy wa N n ad σ sz) (zQa (wa 4) D cy N n ad (σ) sz) 0 0 (zA n ad sz) := by
  refine z_met (by decide) hls (List.forall_mem_cons.mpr ⟨rfl, (fun _ h => nomatch h)⟩) (Nat.le_of_ble_eq_true rfl) (fun p_ e_ s_ m_ below_ meth_ c_ hsz hr X => ?_)
  have X : zX p_ l s_ m_ [.int 4].toArray meth_ c_ cX2_wordOf 1 RX2 D cy wa (zA n ad sz) := X
  have hAd : ∀ i, i < n → zA n ad sz (ad i) := fun i hi => Or.inl ⟨i, hi, rfl⟩
  refine zw_run X (is := [(0, .iload_n 0, 1)]) (t' := (1, [some (.int 4)], [.int 4])) ⟨dX2_wordOf_0, trivial⟩ rfl ?_
  refine zw_tabOut X (tgt := 44) dX2_wordOf_1 (Or.inr (by decide)) (by decide) ?_
  refine zw_lds X (tx := "doom") (q := wa 4) (X.2.2.2.2.2.2.2.2.2.1.2.1 ("Wagonplay$Letters", 45, "doom", 4) (by decide +kernel)) dX2_wordOf_44 ?_
  exact zw_aret X hr dX2_wordOf_46 rfl rfl

theorem c_wordOf {l : Launch} (hls : l.stackTraces = false) {D : va_G} {cy : Nat → ClassId} {wa : Nat → Nat} {N n : Nat} {ad : Nat → Nat} (hD : zD n ad) (hn : 40 ≤ n) (σ : zS) : ∀ (k : Nat) (_ : k < 5) (sz : Nat), Met l yX2_wordOf (.code yX2_wordOf cX2_wordOf 1 (some (.object "java/lang/String")) :: zB) (zRm 0) (zPc [.int (nI k)] D cy wa N n ad σ sz) (zQa (wa k) D cy N n ad σ sz) 0 0 (zA n ad sz)
  | 0, _, sz => c_wordOf_0 hls hD hn σ sz
  | 1, _, sz => c_wordOf_1 hls hD hn σ sz
  | 2, _, sz => c_wordOf_2 hls hD hn σ sz
  | 3, _, sz => c_wordOf_3 hls hD hn σ sz
  | 4, _, sz => c_wordOf_4 hls hD hn σ sz
  | k + 5, h, _ => absurd h (by omega)

set_option maxHeartbeats 4000000 in
set_option maxRecDepth 100000 in
theorem c_isTyped_len {l : Launch} (hls : l.stackTraces = false) {D : va_G} {cy : Nat → ClassId} {wa : Nat → Nat} {N n : Nat} {ad : Nat → Nat} (hD : zD n ad) (hn : 40 ≤ n) (σ : zS) (k : Nat) (hk : k < 6) (cnt : Nat) (hc : cnt < 100) (e1 : σ 4 1 = nI cnt) (hne : cnt ≠ zlen k) (sz : Nat) : Met l yX2_isTyped (.code yX2_isTyped cX2_isTyped 3 (some .boolean) :: zB) (zRm 5) (zPc [.ref (ad 4), .ref (wa k)] D cy wa N n ad σ sz) (zQi (0) D cy N n ad (σ) sz) 0 0 (zA n ad sz) := by
  refine z_met (by decide) hls (List.forall_mem_cons.mpr ⟨rfl, (List.forall_mem_cons.mpr ⟨rfl, (fun _ h => nomatch h)⟩)⟩) (Nat.le_of_ble_eq_true rfl) (fun p_ e_ s_ m_ below_ meth_ c_ hsz hr X => ?_)
  have X : zX p_ l s_ m_ [.ref (ad 4), .ref (wa k)].toArray meth_ c_ cX2_isTyped 3 RX2 D cy wa (zA n ad sz) := X
  have hAd : ∀ i, i < n → zA n ad sz (ad i) := fun i hi => Or.inl ⟨i, hi, rfl⟩
  refine zw_run X (is := [(0, .aload_n 1, 1)]) (t' := (1, [some (.ref (ad 4)), some (.ref (wa k)), none], [.ref (wa k)])) ⟨dX2_isTyped_0, trivial⟩ rfl ?_
  refine zw_Gi X hAd (As := []) (rest := []) (d := 1) (zE_at k hk _ _ _ X.2.2.2.2.2.2.2.2.1).1 ⟨zm_167, zm_168, zm_169, zm_170, zm_171, rfl, by decide, by decide, (show (parseMethodDescriptor yJ0_length_8abf5.desc).map (fun d => d.parameters.length) = some 0 by decide +kernel)⟩ (fun sz => c_length hls hD hn σ (wa k) (wa (10 + k)) (zlen k) (zbyt k) (by have := zlen_le k hk; omega) (zE_at k hk) sz) rfl rfl (Nat.le_of_ble_eq_true rfl) ⟨Nat.le_of_ble_eq_true rfl, Nat.le_of_ble_eq_true rfl⟩ ⟨Nat.zero_le _, Nat.zero_le _⟩ dX2_isTyped_1 ?_
  refine zw_run X (is := [(4, .aload_n 0, 1)]) (t' := (5, [some (.ref (ad 4)), some (.ref (wa k)), none], [.ref (ad 4), .int (nI (zlen k))])) ⟨dX2_isTyped_4, trivial⟩ rfl ?_
  refine zw_getf X (i := 4) (by omega) zc_4 (C := RX2) (T := TX2) (Nf := 2) rfl zi_X2 1 (by decide) rfl zm_166 rfl dX2_isTyped_5 ?_
  refine zw_icmp_eq X (tgt := 13) dX2_isTyped_8 (by decide) (fun h_ => absurd h_ (by rw [e1]; exact fun q => hne ((nI_eq (by have := zlen_le k hk; omega) (by omega)).mp q).symm)) (fun _ => ?_)
  refine zw_run X (is := [(11, .iconst 0, 1)]) (t' := (12, [some (.ref (ad 4)), some (.ref (wa k)), none], [.int 0])) ⟨dX2_isTyped_11, trivial⟩ rfl ?_
  exact zw_zret X hr dX2_isTyped_12 rfl rfl rfl rfl

set_option maxHeartbeats 4000000 in
set_option maxRecDepth 100000 in
theorem c_isTyped_first {l : Launch} (hls : l.stackTraces = false) {D : va_G} {cy : Nat → ClassId} {wa : Nat → Nat} {N n : Nat} {ad : Nat → Nat} (hD : zD n ad) (hn : 40 ≤ n) (σ : zS) (k : Nat) (hk : k < 6) (e1 : σ 4 1 = nI (zlen k)) (hne : ¬ (zbyt k).getD 0 0 = σ 5 0) (sz : Nat) : Met l yX2_isTyped (.code yX2_isTyped cX2_isTyped 3 (some .boolean) :: zB) (zRm 5) (zPc [.ref (ad 4), .ref (wa k)] D cy wa N n ad σ sz) (zQi (0) D cy N n ad (σ) sz) 0 0 (zA n ad sz) := by
  refine z_met (by decide) hls (List.forall_mem_cons.mpr ⟨rfl, (List.forall_mem_cons.mpr ⟨rfl, (fun _ h => nomatch h)⟩)⟩) (Nat.le_of_ble_eq_true rfl) (fun p_ e_ s_ m_ below_ meth_ c_ hsz hr X => ?_)
  have X : zX p_ l s_ m_ [.ref (ad 4), .ref (wa k)].toArray meth_ c_ cX2_isTyped 3 RX2 D cy wa (zA n ad sz) := X
  have hAd : ∀ i, i < n → zA n ad sz (ad i) := fun i hi => Or.inl ⟨i, hi, rfl⟩
  refine zw_run X (is := [(0, .aload_n 1, 1)]) (t' := (1, [some (.ref (ad 4)), some (.ref (wa k)), none], [.ref (wa k)])) ⟨dX2_isTyped_0, trivial⟩ rfl ?_
  refine zw_Gi X hAd (As := []) (rest := []) (d := 1) (zE_at k hk _ _ _ X.2.2.2.2.2.2.2.2.1).1 ⟨zm_167, zm_168, zm_169, zm_170, zm_171, rfl, by decide, by decide, (show (parseMethodDescriptor yJ0_length_8abf5.desc).map (fun d => d.parameters.length) = some 0 by decide +kernel)⟩ (fun sz => c_length hls hD hn σ (wa k) (wa (10 + k)) (zlen k) (zbyt k) (by have := zlen_le k hk; omega) (zE_at k hk) sz) rfl rfl (Nat.le_of_ble_eq_true rfl) ⟨Nat.le_of_ble_eq_true rfl, Nat.le_of_ble_eq_true rfl⟩ ⟨Nat.zero_le _, Nat.zero_le _⟩ dX2_isTyped_1 ?_
  refine zw_run X (is := [(4, .aload_n 0, 1)]) (t' := (5, [some (.ref (ad 4)), some (.ref (wa k)), none], [.ref (ad 4), .int (nI (zlen k))])) ⟨dX2_isTyped_4, trivial⟩ rfl ?_
  refine zw_getf X (i := 4) (by omega) zc_4 (C := RX2) (T := TX2) (Nf := 2) rfl zi_X2 1 (by decide) rfl zm_166 rfl dX2_isTyped_5 ?_
  refine zw_icmp_eq X (tgt := 13) dX2_isTyped_8 (by decide) (fun _ => ?_) (fun h_ => absurd e1.symm h_)
  refine zw_run X (is := [(13, .iconst 0, 1)]) (t' := (14, [some (.ref (ad 4)), some (.ref (wa k)), none], [.int 0])) ⟨dX2_isTyped_13, trivial⟩ rfl ?_
  rw [show (0 : Int32) = nI 0 from rfl]
  refine zw_run X (is := [(14, .istore_n 2, 1), (15, .iload_n 2, 1), (16, .aload_n 0, 1)]) (t' := (17, [some (.ref (ad 4)), some (.ref (wa k)), some (.int (nI 0))], [.ref (ad 4), .int (nI 0)])) ⟨dX2_isTyped_14, dX2_isTyped_15, dX2_isTyped_16, trivial⟩ rfl ?_
  refine zw_getf X (i := 4) (by omega) zc_4 (C := RX2) (T := TX2) (Nf := 2) rfl zi_X2 1 (by decide) rfl zm_166 rfl dX2_isTyped_17 ?_
  refine zw_icmp_ge X (tgt := 45) dX2_isTyped_20 (by decide) (fun h_ => absurd h_ (by rw [e1]; exact nI_ge (by have := zlen_le k hk; omega) (by have := zlen_le k hk; omega))) (fun _ => ?_)
  refine zw_run X (is := [(23, .aload_n 1, 1), (24, .iload_n 2, 1)]) (t' := (25, [some (.ref (ad 4)), some (.ref (wa k)), some (.int (nI 0))], [.int (nI 0), .ref (wa k)])) ⟨dX2_isTyped_23, dX2_isTyped_24, trivial⟩ rfl ?_
  refine zw_Gi X hAd (As := [.int (nI 0)]) (rest := []) (d := 3) (zE_at k hk _ _ _ X.2.2.2.2.2.2.2.2.1).1 ⟨zm_179, zm_180, zm_181, zm_170, zm_182, rfl, by decide, by decide, (show (parseMethodDescriptor yJ0_charAt_5068e.desc).map (fun d => d.parameters.length) = some 1 by decide +kernel)⟩ (fun sz => c_charAt hls hD hn σ (wa k) (wa (10 + k)) (zlen k) (zbyt k) (by have := zlen_le k hk; omega) (zE_at k hk) 0 (by have := zlen_le k hk; omega) (zch k hk 0 (by have := zlen_le k hk; omega)) sz) rfl rfl (Nat.le_of_ble_eq_true rfl) ⟨Nat.le_of_ble_eq_true rfl, Nat.le_of_ble_eq_true rfl⟩ ⟨Nat.zero_le _, Nat.zero_le _⟩ dX2_isTyped_25 ?_
  refine zw_run X (is := [(28, .aload_n 0, 1)]) (t' := (29, [some (.ref (ad 4)), some (.ref (wa k)), some (.int (nI 0))], [.ref (ad 4), .int ((zbyt k).getD 0 0)])) ⟨dX2_isTyped_28, trivial⟩ rfl ?_
  refine zw_getf X (i := 4) (by omega) zc_4 (C := RX2) (T := TX2) (Nf := 2) rfl zi_X2 0 (by decide) rfl zm_55 rfl dX2_isTyped_29 ?_
  refine zw_run X (is := [(32, .iload_n 2, 1)]) (t' := (33, [some (.ref (ad 4)), some (.ref (wa k)), some (.int (nI 0))], [.int (nI 0), .ref (ad 5), .int ((zbyt k).getD 0 0)])) ⟨dX2_isTyped_32, trivial⟩ rfl ?_
  refine zw_cald X (i := 5) (by omega) (len := 10) zc_5 (j := 0) rfl (by omega) (by decide) dX2_isTyped_33 ?_
  refine zw_icmp_eq X (tgt := 39) dX2_isTyped_34 (by decide) (fun h_ => absurd h_ hne) (fun _ => ?_)
  refine zw_run X (is := [(37, .iconst 0, 1)]) (t' := (38, [some (.ref (ad 4)), some (.ref (wa k)), some (.int (nI 0))], [.int 0])) ⟨dX2_isTyped_37, trivial⟩ rfl ?_
  exact zw_zret X hr dX2_isTyped_38 rfl rfl rfl rfl

set_option maxHeartbeats 4000000 in
set_option maxRecDepth 100000 in
theorem lp_isTyped {p : Program} {l : Launch} {e : Env} {R : Room} {s : State} {m : MethodId} {args : Array Value} {below : List Frame} {meth : Method} {c : Code} {D : va_G} {cy : Nat → ClassId} {wa : Nat → Nat} {N : Nat} {A : Nat → Prop} {n : Nat} {ad : Nat → Nat} {cells slots : Nat} {Q : State → Prop} (X : zX p l s m args meth c cX2_isTyped 3 RX2 D cy wa A) (hD : zD n ad) (hAd : ∀ i, i < n → A (ad i)) (hn : 40 ≤ n) (σ : zS) (hls : l.stackTraces = false) (hR : 5 ≤ R.frames ∧ 200 ≤ R.locals ∧ cells ≤ R.cells ∧ slots ≤ R.slots) (k : Nat) (hk : k < 6) (e1 : σ 4 1 = nI (zlen k)) (heq : ∀ j, j < zlen k → (zbyt k).getD j 0 = σ 5 j)  (kk : zW p l e R s m args below meth c D cy N A n ad cells slots Q (45, [some (.ref (ad 4)), some (.ref (wa k)), some (.int (nI (zlen k)))], []) (σ)) : ∀ (d j : Nat), j + d = zlen k → zW p l e R s m args below meth c D cy N A n ad cells slots Q (15, [some (.ref (ad 4)), some (.ref (wa k)), some (.int (nI j))], []) (σ) := by
  have h48 := zlen_le k hk
  intro d
  induction d with
  | zero =>
    intro j hj
    obtain rfl : j = zlen k := by omega
    refine zw_run X (is := [(15, .iload_n 2, 1), (16, .aload_n 0, 1)]) (t' := (17, [some (.ref (ad 4)), some (.ref (wa k)), some (.int (nI (zlen k)))], [.ref (ad 4), .int (nI (zlen k))])) ⟨dX2_isTyped_15, dX2_isTyped_16, trivial⟩ rfl ?_
    refine zw_getf X (i := 4) (by omega) zc_4 (C := RX2) (T := TX2) (Nf := 2) rfl zi_X2 1 (by decide) rfl zm_166 rfl dX2_isTyped_17 ?_
    refine zw_icmp_ge X (tgt := 45) dX2_isTyped_20 (by decide) (fun _ => ?_) (fun h_ => absurd (by rw [e1]; exact nI_le (Nat.le_refl _) (by omega)) h_)
    exact kk
  | succ d ih =>
    intro j hj
    refine zw_run X (is := [(15, .iload_n 2, 1), (16, .aload_n 0, 1)]) (t' := (17, [some (.ref (ad 4)), some (.ref (wa k)), some (.int (nI j))], [.ref (ad 4), .int (nI j)])) ⟨dX2_isTyped_15, dX2_isTyped_16, trivial⟩ rfl ?_
    refine zw_getf X (i := 4) (by omega) zc_4 (C := RX2) (T := TX2) (Nf := 2) rfl zi_X2 1 (by decide) rfl zm_166 rfl dX2_isTyped_17 ?_
    refine zw_icmp_ge X (tgt := 45) dX2_isTyped_20 (by decide) (fun h_ => absurd h_ (by rw [e1]; exact nI_ge (by omega) (by omega))) (fun _ => ?_)
    refine zw_run X (is := [(23, .aload_n 1, 1), (24, .iload_n 2, 1)]) (t' := (25, [some (.ref (ad 4)), some (.ref (wa k)), some (.int (nI j))], [.int (nI j), .ref (wa k)])) ⟨dX2_isTyped_23, dX2_isTyped_24, trivial⟩ rfl ?_
    refine zw_Gi X hAd (As := [.int (nI j)]) (rest := []) (d := 3) (zE_at k hk _ _ _ X.2.2.2.2.2.2.2.2.1).1 ⟨zm_179, zm_180, zm_181, zm_170, zm_182, rfl, by decide, by decide, (show (parseMethodDescriptor yJ0_charAt_5068e.desc).map (fun d => d.parameters.length) = some 1 by decide +kernel)⟩ (fun sz => c_charAt hls hD hn σ (wa k) (wa (10 + k)) (zlen k) (zbyt k) (by have := zlen_le k hk; omega) (zE_at k hk) j (by have := zlen_le k hk; omega) (zch k hk j (by have := zlen_le k hk; omega)) sz) rfl rfl (Nat.le_of_ble_eq_true rfl) ⟨by omega, by omega⟩ ⟨hR.2.2.1, hR.2.2.2⟩ dX2_isTyped_25 ?_
    refine zw_run X (is := [(28, .aload_n 0, 1)]) (t' := (29, [some (.ref (ad 4)), some (.ref (wa k)), some (.int (nI j))], [.ref (ad 4), .int ((zbyt k).getD j 0)])) ⟨dX2_isTyped_28, trivial⟩ rfl ?_
    refine zw_getf X (i := 4) (by omega) zc_4 (C := RX2) (T := TX2) (Nf := 2) rfl zi_X2 0 (by decide) rfl zm_55 rfl dX2_isTyped_29 ?_
    refine zw_run X (is := [(32, .iload_n 2, 1)]) (t' := (33, [some (.ref (ad 4)), some (.ref (wa k)), some (.int (nI j))], [.int (nI j), .ref (ad 5), .int ((zbyt k).getD j 0)])) ⟨dX2_isTyped_32, trivial⟩ rfl ?_
    refine zw_cald X (i := 5) (by omega) (len := 10) zc_5 (j := j) rfl (by omega) (by decide) dX2_isTyped_33 ?_
    refine zw_icmp_eq X (tgt := 39) dX2_isTyped_34 (by decide) (fun _ => ?_) (fun h_ => absurd (heq j (by omega)) h_)
    refine zw_run X (is := [(39, .iinc 2 1, 3)]) (t' := (42, [some (.ref (ad 4)), some (.ref (wa k)), some (.int (nI j + 1))], [])) ⟨dX2_isTyped_39, trivial⟩ rfl ?_
    refine zw_go X (tgt := 15) dX2_isTyped_42 (by decide) ?_
    rw [nI_1]
    exact ih (j + 1) (by omega)

set_option maxHeartbeats 4000000 in
set_option maxRecDepth 100000 in
theorem c_isTyped_yes {l : Launch} (hls : l.stackTraces = false) {D : va_G} {cy : Nat → ClassId} {wa : Nat → Nat} {N n : Nat} {ad : Nat → Nat} (hD : zD n ad) (hn : 40 ≤ n) (σ : zS) (k : Nat) (hk : k < 6) (e1 : σ 4 1 = nI (zlen k)) (heq : ∀ j, j < zlen k → (zbyt k).getD j 0 = σ 5 j)  (sz : Nat) : Met l yX2_isTyped (.code yX2_isTyped cX2_isTyped 3 (some .boolean) :: zB) (zRm 5) (zPc [.ref (ad 4), .ref (wa k)] D cy wa N n ad σ sz) (zQi (1) D cy N n ad (σ) sz) 0 0 (zA n ad sz) := by
  refine z_met (by decide) hls (List.forall_mem_cons.mpr ⟨rfl, (List.forall_mem_cons.mpr ⟨rfl, (fun _ h => nomatch h)⟩)⟩) (Nat.le_of_ble_eq_true rfl) (fun p_ e_ s_ m_ below_ meth_ c_ hsz hr X => ?_)
  have X : zX p_ l s_ m_ [.ref (ad 4), .ref (wa k)].toArray meth_ c_ cX2_isTyped 3 RX2 D cy wa (zA n ad sz) := X
  have hAd : ∀ i, i < n → zA n ad sz (ad i) := fun i hi => Or.inl ⟨i, hi, rfl⟩
  refine zw_run X (is := [(0, .aload_n 1, 1)]) (t' := (1, [some (.ref (ad 4)), some (.ref (wa k)), none], [.ref (wa k)])) ⟨dX2_isTyped_0, trivial⟩ rfl ?_
  refine zw_Gi X hAd (As := []) (rest := []) (d := 1) (zE_at k hk _ _ _ X.2.2.2.2.2.2.2.2.1).1 ⟨zm_167, zm_168, zm_169, zm_170, zm_171, rfl, by decide, by decide, (show (parseMethodDescriptor yJ0_length_8abf5.desc).map (fun d => d.parameters.length) = some 0 by decide +kernel)⟩ (fun sz => c_length hls hD hn σ (wa k) (wa (10 + k)) (zlen k) (zbyt k) (by have := zlen_le k hk; omega) (zE_at k hk) sz) rfl rfl (Nat.le_of_ble_eq_true rfl) ⟨Nat.le_of_ble_eq_true rfl, Nat.le_of_ble_eq_true rfl⟩ ⟨Nat.zero_le _, Nat.zero_le _⟩ dX2_isTyped_1 ?_
  refine zw_run X (is := [(4, .aload_n 0, 1)]) (t' := (5, [some (.ref (ad 4)), some (.ref (wa k)), none], [.ref (ad 4), .int (nI (zlen k))])) ⟨dX2_isTyped_4, trivial⟩ rfl ?_
  refine zw_getf X (i := 4) (by omega) zc_4 (C := RX2) (T := TX2) (Nf := 2) rfl zi_X2 1 (by decide) rfl zm_166 rfl dX2_isTyped_5 ?_
  refine zw_icmp_eq X (tgt := 13) dX2_isTyped_8 (by decide) (fun _ => ?_) (fun h_ => absurd e1.symm h_)
  refine zw_run X (is := [(13, .iconst 0, 1), (14, .istore_n 2, 1)]) (t' := (15, [some (.ref (ad 4)), some (.ref (wa k)), some (.int 0)], [])) ⟨dX2_isTyped_13, dX2_isTyped_14, trivial⟩ rfl ?_
  refine lp_isTyped X hD hAd hn σ hls ⟨Nat.le_of_ble_eq_true rfl, Nat.le_of_ble_eq_true rfl, Nat.zero_le _, Nat.zero_le _⟩ k hk e1 heq ?_ (zlen k) 0 (by omega)
  refine zw_run X (is := [(45, .iconst 1, 1)]) (t' := (46, [some (.ref (ad 4)), some (.ref (wa k)), some (.int (nI (zlen k)))], [.int 1])) ⟨dX2_isTyped_45, trivial⟩ rfl ?_
  exact zw_zret X hr dX2_isTyped_46 rfl rfl rfl rfl

set_option maxHeartbeats 4000000 in
set_option maxRecDepth 100000 in
theorem c_spelt_0 {l : Launch} (hls : l.stackTraces = false) {D : va_G} {cy : Nat → ClassId} {wa : Nat → Nat} {N n : Nat} {ad : Nat → Nat} (hD : zD n ad) (hn : 40 ≤ n) (σ : zS) (e1 : σ 4 1 = nI (zlen 0)) (heq : ∀ j, j < zlen 0 → (zbyt 0).getD j 0 = σ 5 j) (sz : Nat) : Met l yX2_spelt (.code yX2_spelt cX2_spelt 2 (some .int) :: zB) (zRm 7) (zPc [.ref (ad 4)] D cy wa N n ad σ sz) (zQi (0) D cy N n ad (σ) sz) 0 0 (zA n ad sz) := by
  refine z_met (by decide) hls (List.forall_mem_cons.mpr ⟨rfl, (fun _ h => nomatch h)⟩) (Nat.le_of_ble_eq_true rfl) (fun p_ e_ s_ m_ below_ meth_ c_ hsz hr X => ?_)
  have X : zX p_ l s_ m_ [.ref (ad 4)].toArray meth_ c_ cX2_spelt 2 RX2 D cy wa (zA n ad sz) := X
  have hAd : ∀ i, i < n → zA n ad sz (ad i) := fun i hi => Or.inl ⟨i, hi, rfl⟩
  refine zw_run X (is := [(0, .iconst 0, 1), (1, .istore_n 1, 1)]) (t' := (2, [some (.ref (ad 4)), some (.int 0)], [])) ⟨dX2_spelt_0, dX2_spelt_1, trivial⟩ rfl ?_
  refine zw_run X (is := [(2, .iload_n 1, 1), (3, .iconst 5, 1)]) (t' := (4, [some (.ref (ad 4)), some (.int 0)], [.int 5, .int 0])) ⟨dX2_spelt_2, dX2_spelt_3, trivial⟩ rfl ?_
  refine zw_icmp_ge X (tgt := 26) dX2_spelt_4 (by decide) (fun h_ => absurd h_ (by decide)) (fun _ => ?_)
  refine zw_run X (is := [(7, .aload_n 0, 1), (8, .iload_n 1, 1)]) (t' := (9, [some (.ref (ad 4)), some (.int 0)], [.int 0, .ref (ad 4)])) ⟨dX2_spelt_7, dX2_spelt_8, trivial⟩ rfl ?_
  refine zw_Sa X hAd (As := [.int 0]) (rest := [.ref (ad 4)]) (d := 0) ⟨zm_159, zm_160, zm_26, zm_161, by decide, by decide, (show (parseMethodDescriptor yX2_wordOf.desc).map (fun d => d.parameters.length) = some 1 by decide +kernel)⟩ (fun sz => c_wordOf_0 hls hD hn σ sz) rfl rfl (Nat.le_of_ble_eq_true rfl) ⟨Nat.le_of_ble_eq_true rfl, Nat.le_of_ble_eq_true rfl⟩ ⟨Nat.zero_le _, Nat.zero_le _⟩ dX2_spelt_9 ?_
  refine zw_Vi X hAd (As := [.ref (wa 0)]) (rest := []) (d := 5) (i := 4) (by omega) zc_4 (q := (RX2, TX2, 2)) rfl ⟨zm_162, zm_163, zm_164, zm_26, zm_165, rfl, by decide, by decide, (show (parseMethodDescriptor yX2_isTyped.desc).map (fun d => d.parameters.length) = some 1 by decide +kernel)⟩ (fun sz => c_isTyped_yes hls hD hn σ 0 (by decide) e1 heq sz) rfl rfl (Nat.le_of_ble_eq_true rfl) ⟨Nat.le_of_ble_eq_true rfl, Nat.le_of_ble_eq_true rfl⟩ ⟨Nat.zero_le _, Nat.zero_le _⟩ dX2_spelt_12 ?_
  refine zw_if_eq X (tgt := 20) dX2_spelt_15 (by decide) (fun h_ => absurd h_ (by decide)) (fun _ => ?_)
  refine zw_run X (is := [(18, .iload_n 1, 1)]) (t' := (19, [some (.ref (ad 4)), some (.int 0)], [.int 0])) ⟨dX2_spelt_18, trivial⟩ rfl ?_
  exact zw_iret X hr dX2_spelt_19 rfl rfl rfl

set_option maxHeartbeats 4000000 in
set_option maxRecDepth 100000 in
theorem c_spelt_1 {l : Launch} (hls : l.stackTraces = false) {D : va_G} {cy : Nat → ClassId} {wa : Nat → Nat} {N n : Nat} {ad : Nat → Nat} (hD : zD n ad) (hn : 40 ≤ n) (σ : zS) (e1 : σ 4 1 = nI (zlen 1)) (heq : ∀ j, j < zlen 1 → (zbyt 1).getD j 0 = σ 5 j) (sz : Nat) : Met l yX2_spelt (.code yX2_spelt cX2_spelt 2 (some .int) :: zB) (zRm 7) (zPc [.ref (ad 4)] D cy wa N n ad σ sz) (zQi (1) D cy N n ad (σ) sz) 0 0 (zA n ad sz) := by
  refine z_met (by decide) hls (List.forall_mem_cons.mpr ⟨rfl, (fun _ h => nomatch h)⟩) (Nat.le_of_ble_eq_true rfl) (fun p_ e_ s_ m_ below_ meth_ c_ hsz hr X => ?_)
  have X : zX p_ l s_ m_ [.ref (ad 4)].toArray meth_ c_ cX2_spelt 2 RX2 D cy wa (zA n ad sz) := X
  have hAd : ∀ i, i < n → zA n ad sz (ad i) := fun i hi => Or.inl ⟨i, hi, rfl⟩
  refine zw_run X (is := [(0, .iconst 0, 1), (1, .istore_n 1, 1)]) (t' := (2, [some (.ref (ad 4)), some (.int 0)], [])) ⟨dX2_spelt_0, dX2_spelt_1, trivial⟩ rfl ?_
  refine zw_run X (is := [(2, .iload_n 1, 1), (3, .iconst 5, 1)]) (t' := (4, [some (.ref (ad 4)), some (.int 0)], [.int 5, .int 0])) ⟨dX2_spelt_2, dX2_spelt_3, trivial⟩ rfl ?_
  refine zw_icmp_ge X (tgt := 26) dX2_spelt_4 (by decide) (fun h_ => absurd h_ (by decide)) (fun _ => ?_)
  refine zw_run X (is := [(7, .aload_n 0, 1), (8, .iload_n 1, 1)]) (t' := (9, [some (.ref (ad 4)), some (.int 0)], [.int 0, .ref (ad 4)])) ⟨dX2_spelt_7, dX2_spelt_8, trivial⟩ rfl ?_
  refine zw_Sa X hAd (As := [.int 0]) (rest := [.ref (ad 4)]) (d := 0) ⟨zm_159, zm_160, zm_26, zm_161, by decide, by decide, (show (parseMethodDescriptor yX2_wordOf.desc).map (fun d => d.parameters.length) = some 1 by decide +kernel)⟩ (fun sz => c_wordOf_0 hls hD hn σ sz) rfl rfl (Nat.le_of_ble_eq_true rfl) ⟨Nat.le_of_ble_eq_true rfl, Nat.le_of_ble_eq_true rfl⟩ ⟨Nat.zero_le _, Nat.zero_le _⟩ dX2_spelt_9 ?_
  refine zw_Vi X hAd (As := [.ref (wa 0)]) (rest := []) (d := 5) (i := 4) (by omega) zc_4 (q := (RX2, TX2, 2)) rfl ⟨zm_162, zm_163, zm_164, zm_26, zm_165, rfl, by decide, by decide, (show (parseMethodDescriptor yX2_isTyped.desc).map (fun d => d.parameters.length) = some 1 by decide +kernel)⟩ (fun sz => c_isTyped_len hls hD hn σ 0 (by decide) (zlen 1) (by decide) e1 (by decide) sz) rfl rfl (Nat.le_of_ble_eq_true rfl) ⟨Nat.le_of_ble_eq_true rfl, Nat.le_of_ble_eq_true rfl⟩ ⟨Nat.zero_le _, Nat.zero_le _⟩ dX2_spelt_12 ?_
  refine zw_if_eq X (tgt := 20) dX2_spelt_15 (by decide) (fun _ => ?_) (fun h_ => absurd rfl h_)
  refine zw_run X (is := [(20, .iinc 1 1, 3)]) (t' := (23, [some (.ref (ad 4)), some (.int (0 + 1))], [])) ⟨dX2_spelt_20, trivial⟩ rfl ?_
  rw [show (0 : Int32) + 1 = 1 from rfl]
  refine zw_go X (tgt := 2) dX2_spelt_23 (by decide) ?_
  refine zw_run X (is := [(2, .iload_n 1, 1), (3, .iconst 5, 1)]) (t' := (4, [some (.ref (ad 4)), some (.int 1)], [.int 5, .int 1])) ⟨dX2_spelt_2, dX2_spelt_3, trivial⟩ rfl ?_
  refine zw_icmp_ge X (tgt := 26) dX2_spelt_4 (by decide) (fun h_ => absurd h_ (by decide)) (fun _ => ?_)
  refine zw_run X (is := [(7, .aload_n 0, 1), (8, .iload_n 1, 1)]) (t' := (9, [some (.ref (ad 4)), some (.int 1)], [.int 1, .ref (ad 4)])) ⟨dX2_spelt_7, dX2_spelt_8, trivial⟩ rfl ?_
  refine zw_Sa X hAd (As := [.int 1]) (rest := [.ref (ad 4)]) (d := 0) ⟨zm_159, zm_160, zm_26, zm_161, by decide, by decide, (show (parseMethodDescriptor yX2_wordOf.desc).map (fun d => d.parameters.length) = some 1 by decide +kernel)⟩ (fun sz => c_wordOf_1 hls hD hn σ sz) rfl rfl (Nat.le_of_ble_eq_true rfl) ⟨Nat.le_of_ble_eq_true rfl, Nat.le_of_ble_eq_true rfl⟩ ⟨Nat.zero_le _, Nat.zero_le _⟩ dX2_spelt_9 ?_
  refine zw_Vi X hAd (As := [.ref (wa 1)]) (rest := []) (d := 5) (i := 4) (by omega) zc_4 (q := (RX2, TX2, 2)) rfl ⟨zm_162, zm_163, zm_164, zm_26, zm_165, rfl, by decide, by decide, (show (parseMethodDescriptor yX2_isTyped.desc).map (fun d => d.parameters.length) = some 1 by decide +kernel)⟩ (fun sz => c_isTyped_yes hls hD hn σ 1 (by decide) e1 heq sz) rfl rfl (Nat.le_of_ble_eq_true rfl) ⟨Nat.le_of_ble_eq_true rfl, Nat.le_of_ble_eq_true rfl⟩ ⟨Nat.zero_le _, Nat.zero_le _⟩ dX2_spelt_12 ?_
  refine zw_if_eq X (tgt := 20) dX2_spelt_15 (by decide) (fun h_ => absurd h_ (by decide)) (fun _ => ?_)
  refine zw_run X (is := [(18, .iload_n 1, 1)]) (t' := (19, [some (.ref (ad 4)), some (.int 1)], [.int 1])) ⟨dX2_spelt_18, trivial⟩ rfl ?_
  exact zw_iret X hr dX2_spelt_19 rfl rfl rfl

set_option maxHeartbeats 4000000 in
set_option maxRecDepth 100000 in
theorem c_spelt_2 {l : Launch} (hls : l.stackTraces = false) {D : va_G} {cy : Nat → ClassId} {wa : Nat → Nat} {N n : Nat} {ad : Nat → Nat} (hD : zD n ad) (hn : 40 ≤ n) (σ : zS) (e1 : σ 4 1 = nI (zlen 2)) (heq : ∀ j, j < zlen 2 → (zbyt 2).getD j 0 = σ 5 j) (sz : Nat) : Met l yX2_spelt (.code yX2_spelt cX2_spelt 2 (some .int) :: zB) (zRm 7) (zPc [.ref (ad 4)] D cy wa N n ad σ sz) (zQi (2) D cy N n ad (σ) sz) 0 0 (zA n ad sz) := by
  refine z_met (by decide) hls (List.forall_mem_cons.mpr ⟨rfl, (fun _ h => nomatch h)⟩) (Nat.le_of_ble_eq_true rfl) (fun p_ e_ s_ m_ below_ meth_ c_ hsz hr X => ?_)
  have X : zX p_ l s_ m_ [.ref (ad 4)].toArray meth_ c_ cX2_spelt 2 RX2 D cy wa (zA n ad sz) := X
  have hAd : ∀ i, i < n → zA n ad sz (ad i) := fun i hi => Or.inl ⟨i, hi, rfl⟩
  refine zw_run X (is := [(0, .iconst 0, 1), (1, .istore_n 1, 1)]) (t' := (2, [some (.ref (ad 4)), some (.int 0)], [])) ⟨dX2_spelt_0, dX2_spelt_1, trivial⟩ rfl ?_
  refine zw_run X (is := [(2, .iload_n 1, 1), (3, .iconst 5, 1)]) (t' := (4, [some (.ref (ad 4)), some (.int 0)], [.int 5, .int 0])) ⟨dX2_spelt_2, dX2_spelt_3, trivial⟩ rfl ?_
  refine zw_icmp_ge X (tgt := 26) dX2_spelt_4 (by decide) (fun h_ => absurd h_ (by decide)) (fun _ => ?_)
  refine zw_run X (is := [(7, .aload_n 0, 1), (8, .iload_n 1, 1)]) (t' := (9, [some (.ref (ad 4)), some (.int 0)], [.int 0, .ref (ad 4)])) ⟨dX2_spelt_7, dX2_spelt_8, trivial⟩ rfl ?_
  refine zw_Sa X hAd (As := [.int 0]) (rest := [.ref (ad 4)]) (d := 0) ⟨zm_159, zm_160, zm_26, zm_161, by decide, by decide, (show (parseMethodDescriptor yX2_wordOf.desc).map (fun d => d.parameters.length) = some 1 by decide +kernel)⟩ (fun sz => c_wordOf_0 hls hD hn σ sz) rfl rfl (Nat.le_of_ble_eq_true rfl) ⟨Nat.le_of_ble_eq_true rfl, Nat.le_of_ble_eq_true rfl⟩ ⟨Nat.zero_le _, Nat.zero_le _⟩ dX2_spelt_9 ?_
  refine zw_Vi X hAd (As := [.ref (wa 0)]) (rest := []) (d := 5) (i := 4) (by omega) zc_4 (q := (RX2, TX2, 2)) rfl ⟨zm_162, zm_163, zm_164, zm_26, zm_165, rfl, by decide, by decide, (show (parseMethodDescriptor yX2_isTyped.desc).map (fun d => d.parameters.length) = some 1 by decide +kernel)⟩ (fun sz => c_isTyped_len hls hD hn σ 0 (by decide) (zlen 2) (by decide) e1 (by decide) sz) rfl rfl (Nat.le_of_ble_eq_true rfl) ⟨Nat.le_of_ble_eq_true rfl, Nat.le_of_ble_eq_true rfl⟩ ⟨Nat.zero_le _, Nat.zero_le _⟩ dX2_spelt_12 ?_
  refine zw_if_eq X (tgt := 20) dX2_spelt_15 (by decide) (fun _ => ?_) (fun h_ => absurd rfl h_)
  refine zw_run X (is := [(20, .iinc 1 1, 3)]) (t' := (23, [some (.ref (ad 4)), some (.int (0 + 1))], [])) ⟨dX2_spelt_20, trivial⟩ rfl ?_
  rw [show (0 : Int32) + 1 = 1 from rfl]
  refine zw_go X (tgt := 2) dX2_spelt_23 (by decide) ?_
  refine zw_run X (is := [(2, .iload_n 1, 1), (3, .iconst 5, 1)]) (t' := (4, [some (.ref (ad 4)), some (.int 1)], [.int 5, .int 1])) ⟨dX2_spelt_2, dX2_spelt_3, trivial⟩ rfl ?_
  refine zw_icmp_ge X (tgt := 26) dX2_spelt_4 (by decide) (fun h_ => absurd h_ (by decide)) (fun _ => ?_)
  refine zw_run X (is := [(7, .aload_n 0, 1), (8, .iload_n 1, 1)]) (t' := (9, [some (.ref (ad 4)), some (.int 1)], [.int 1, .ref (ad 4)])) ⟨dX2_spelt_7, dX2_spelt_8, trivial⟩ rfl ?_
  refine zw_Sa X hAd (As := [.int 1]) (rest := [.ref (ad 4)]) (d := 0) ⟨zm_159, zm_160, zm_26, zm_161, by decide, by decide, (show (parseMethodDescriptor yX2_wordOf.desc).map (fun d => d.parameters.length) = some 1 by decide +kernel)⟩ (fun sz => c_wordOf_1 hls hD hn σ sz) rfl rfl (Nat.le_of_ble_eq_true rfl) ⟨Nat.le_of_ble_eq_true rfl, Nat.le_of_ble_eq_true rfl⟩ ⟨Nat.zero_le _, Nat.zero_le _⟩ dX2_spelt_9 ?_
  refine zw_Vi X hAd (As := [.ref (wa 1)]) (rest := []) (d := 5) (i := 4) (by omega) zc_4 (q := (RX2, TX2, 2)) rfl ⟨zm_162, zm_163, zm_164, zm_26, zm_165, rfl, by decide, by decide, (show (parseMethodDescriptor yX2_isTyped.desc).map (fun d => d.parameters.length) = some 1 by decide +kernel)⟩ (fun sz => c_isTyped_first hls hD hn σ 1 (by decide) e1 (by rw [← heq 0 (by decide)]; decide) sz) rfl rfl (Nat.le_of_ble_eq_true rfl) ⟨Nat.le_of_ble_eq_true rfl, Nat.le_of_ble_eq_true rfl⟩ ⟨Nat.zero_le _, Nat.zero_le _⟩ dX2_spelt_12 ?_
  refine zw_if_eq X (tgt := 20) dX2_spelt_15 (by decide) (fun _ => ?_) (fun h_ => absurd rfl h_)
  refine zw_run X (is := [(20, .iinc 1 1, 3)]) (t' := (23, [some (.ref (ad 4)), some (.int (1 + 1))], [])) ⟨dX2_spelt_20, trivial⟩ rfl ?_
  rw [show (1 : Int32) + 1 = 2 from rfl]
  refine zw_go X (tgt := 2) dX2_spelt_23 (by decide) ?_
  refine zw_run X (is := [(2, .iload_n 1, 1), (3, .iconst 5, 1)]) (t' := (4, [some (.ref (ad 4)), some (.int 2)], [.int 5, .int 2])) ⟨dX2_spelt_2, dX2_spelt_3, trivial⟩ rfl ?_
  refine zw_icmp_ge X (tgt := 26) dX2_spelt_4 (by decide) (fun h_ => absurd h_ (by decide)) (fun _ => ?_)
  refine zw_run X (is := [(7, .aload_n 0, 1), (8, .iload_n 1, 1)]) (t' := (9, [some (.ref (ad 4)), some (.int 2)], [.int 2, .ref (ad 4)])) ⟨dX2_spelt_7, dX2_spelt_8, trivial⟩ rfl ?_
  refine zw_Sa X hAd (As := [.int 2]) (rest := [.ref (ad 4)]) (d := 0) ⟨zm_159, zm_160, zm_26, zm_161, by decide, by decide, (show (parseMethodDescriptor yX2_wordOf.desc).map (fun d => d.parameters.length) = some 1 by decide +kernel)⟩ (fun sz => c_wordOf_2 hls hD hn σ sz) rfl rfl (Nat.le_of_ble_eq_true rfl) ⟨Nat.le_of_ble_eq_true rfl, Nat.le_of_ble_eq_true rfl⟩ ⟨Nat.zero_le _, Nat.zero_le _⟩ dX2_spelt_9 ?_
  refine zw_Vi X hAd (As := [.ref (wa 2)]) (rest := []) (d := 5) (i := 4) (by omega) zc_4 (q := (RX2, TX2, 2)) rfl ⟨zm_162, zm_163, zm_164, zm_26, zm_165, rfl, by decide, by decide, (show (parseMethodDescriptor yX2_isTyped.desc).map (fun d => d.parameters.length) = some 1 by decide +kernel)⟩ (fun sz => c_isTyped_yes hls hD hn σ 2 (by decide) e1 heq sz) rfl rfl (Nat.le_of_ble_eq_true rfl) ⟨Nat.le_of_ble_eq_true rfl, Nat.le_of_ble_eq_true rfl⟩ ⟨Nat.zero_le _, Nat.zero_le _⟩ dX2_spelt_12 ?_
  refine zw_if_eq X (tgt := 20) dX2_spelt_15 (by decide) (fun h_ => absurd h_ (by decide)) (fun _ => ?_)
  refine zw_run X (is := [(18, .iload_n 1, 1)]) (t' := (19, [some (.ref (ad 4)), some (.int 2)], [.int 2])) ⟨dX2_spelt_18, trivial⟩ rfl ?_
  exact zw_iret X hr dX2_spelt_19 rfl rfl rfl

set_option maxHeartbeats 4000000 in
set_option maxRecDepth 100000 in
theorem c_spelt_3 {l : Launch} (hls : l.stackTraces = false) {D : va_G} {cy : Nat → ClassId} {wa : Nat → Nat} {N n : Nat} {ad : Nat → Nat} (hD : zD n ad) (hn : 40 ≤ n) (σ : zS) (e1 : σ 4 1 = nI (zlen 3)) (heq : ∀ j, j < zlen 3 → (zbyt 3).getD j 0 = σ 5 j) (sz : Nat) : Met l yX2_spelt (.code yX2_spelt cX2_spelt 2 (some .int) :: zB) (zRm 7) (zPc [.ref (ad 4)] D cy wa N n ad σ sz) (zQi (3) D cy N n ad (σ) sz) 0 0 (zA n ad sz) := by
  refine z_met (by decide) hls (List.forall_mem_cons.mpr ⟨rfl, (fun _ h => nomatch h)⟩) (Nat.le_of_ble_eq_true rfl) (fun p_ e_ s_ m_ below_ meth_ c_ hsz hr X => ?_)
  have X : zX p_ l s_ m_ [.ref (ad 4)].toArray meth_ c_ cX2_spelt 2 RX2 D cy wa (zA n ad sz) := X
  have hAd : ∀ i, i < n → zA n ad sz (ad i) := fun i hi => Or.inl ⟨i, hi, rfl⟩
  refine zw_run X (is := [(0, .iconst 0, 1), (1, .istore_n 1, 1)]) (t' := (2, [some (.ref (ad 4)), some (.int 0)], [])) ⟨dX2_spelt_0, dX2_spelt_1, trivial⟩ rfl ?_
  refine zw_run X (is := [(2, .iload_n 1, 1), (3, .iconst 5, 1)]) (t' := (4, [some (.ref (ad 4)), some (.int 0)], [.int 5, .int 0])) ⟨dX2_spelt_2, dX2_spelt_3, trivial⟩ rfl ?_
  refine zw_icmp_ge X (tgt := 26) dX2_spelt_4 (by decide) (fun h_ => absurd h_ (by decide)) (fun _ => ?_)
  refine zw_run X (is := [(7, .aload_n 0, 1), (8, .iload_n 1, 1)]) (t' := (9, [some (.ref (ad 4)), some (.int 0)], [.int 0, .ref (ad 4)])) ⟨dX2_spelt_7, dX2_spelt_8, trivial⟩ rfl ?_
  refine zw_Sa X hAd (As := [.int 0]) (rest := [.ref (ad 4)]) (d := 0) ⟨zm_159, zm_160, zm_26, zm_161, by decide, by decide, (show (parseMethodDescriptor yX2_wordOf.desc).map (fun d => d.parameters.length) = some 1 by decide +kernel)⟩ (fun sz => c_wordOf_0 hls hD hn σ sz) rfl rfl (Nat.le_of_ble_eq_true rfl) ⟨Nat.le_of_ble_eq_true rfl, Nat.le_of_ble_eq_true rfl⟩ ⟨Nat.zero_le _, Nat.zero_le _⟩ dX2_spelt_9 ?_
  refine zw_Vi X hAd (As := [.ref (wa 0)]) (rest := []) (d := 5) (i := 4) (by omega) zc_4 (q := (RX2, TX2, 2)) rfl ⟨zm_162, zm_163, zm_164, zm_26, zm_165, rfl, by decide, by decide, (show (parseMethodDescriptor yX2_isTyped.desc).map (fun d => d.parameters.length) = some 1 by decide +kernel)⟩ (fun sz => c_isTyped_len hls hD hn σ 0 (by decide) (zlen 3) (by decide) e1 (by decide) sz) rfl rfl (Nat.le_of_ble_eq_true rfl) ⟨Nat.le_of_ble_eq_true rfl, Nat.le_of_ble_eq_true rfl⟩ ⟨Nat.zero_le _, Nat.zero_le _⟩ dX2_spelt_12 ?_
  refine zw_if_eq X (tgt := 20) dX2_spelt_15 (by decide) (fun _ => ?_) (fun h_ => absurd rfl h_)
  refine zw_run X (is := [(20, .iinc 1 1, 3)]) (t' := (23, [some (.ref (ad 4)), some (.int (0 + 1))], [])) ⟨dX2_spelt_20, trivial⟩ rfl ?_
  rw [show (0 : Int32) + 1 = 1 from rfl]
  refine zw_go X (tgt := 2) dX2_spelt_23 (by decide) ?_
  refine zw_run X (is := [(2, .iload_n 1, 1), (3, .iconst 5, 1)]) (t' := (4, [some (.ref (ad 4)), some (.int 1)], [.int 5, .int 1])) ⟨dX2_spelt_2, dX2_spelt_3, trivial⟩ rfl ?_
  refine zw_icmp_ge X (tgt := 26) dX2_spelt_4 (by decide) (fun h_ => absurd h_ (by decide)) (fun _ => ?_)
  refine zw_run X (is := [(7, .aload_n 0, 1), (8, .iload_n 1, 1)]) (t' := (9, [some (.ref (ad 4)), some (.int 1)], [.int 1, .ref (ad 4)])) ⟨dX2_spelt_7, dX2_spelt_8, trivial⟩ rfl ?_
  refine zw_Sa X hAd (As := [.int 1]) (rest := [.ref (ad 4)]) (d := 0) ⟨zm_159, zm_160, zm_26, zm_161, by decide, by decide, (show (parseMethodDescriptor yX2_wordOf.desc).map (fun d => d.parameters.length) = some 1 by decide +kernel)⟩ (fun sz => c_wordOf_1 hls hD hn σ sz) rfl rfl (Nat.le_of_ble_eq_true rfl) ⟨Nat.le_of_ble_eq_true rfl, Nat.le_of_ble_eq_true rfl⟩ ⟨Nat.zero_le _, Nat.zero_le _⟩ dX2_spelt_9 ?_
  refine zw_Vi X hAd (As := [.ref (wa 1)]) (rest := []) (d := 5) (i := 4) (by omega) zc_4 (q := (RX2, TX2, 2)) rfl ⟨zm_162, zm_163, zm_164, zm_26, zm_165, rfl, by decide, by decide, (show (parseMethodDescriptor yX2_isTyped.desc).map (fun d => d.parameters.length) = some 1 by decide +kernel)⟩ (fun sz => c_isTyped_len hls hD hn σ 1 (by decide) (zlen 3) (by decide) e1 (by decide) sz) rfl rfl (Nat.le_of_ble_eq_true rfl) ⟨Nat.le_of_ble_eq_true rfl, Nat.le_of_ble_eq_true rfl⟩ ⟨Nat.zero_le _, Nat.zero_le _⟩ dX2_spelt_12 ?_
  refine zw_if_eq X (tgt := 20) dX2_spelt_15 (by decide) (fun _ => ?_) (fun h_ => absurd rfl h_)
  refine zw_run X (is := [(20, .iinc 1 1, 3)]) (t' := (23, [some (.ref (ad 4)), some (.int (1 + 1))], [])) ⟨dX2_spelt_20, trivial⟩ rfl ?_
  rw [show (1 : Int32) + 1 = 2 from rfl]
  refine zw_go X (tgt := 2) dX2_spelt_23 (by decide) ?_
  refine zw_run X (is := [(2, .iload_n 1, 1), (3, .iconst 5, 1)]) (t' := (4, [some (.ref (ad 4)), some (.int 2)], [.int 5, .int 2])) ⟨dX2_spelt_2, dX2_spelt_3, trivial⟩ rfl ?_
  refine zw_icmp_ge X (tgt := 26) dX2_spelt_4 (by decide) (fun h_ => absurd h_ (by decide)) (fun _ => ?_)
  refine zw_run X (is := [(7, .aload_n 0, 1), (8, .iload_n 1, 1)]) (t' := (9, [some (.ref (ad 4)), some (.int 2)], [.int 2, .ref (ad 4)])) ⟨dX2_spelt_7, dX2_spelt_8, trivial⟩ rfl ?_
  refine zw_Sa X hAd (As := [.int 2]) (rest := [.ref (ad 4)]) (d := 0) ⟨zm_159, zm_160, zm_26, zm_161, by decide, by decide, (show (parseMethodDescriptor yX2_wordOf.desc).map (fun d => d.parameters.length) = some 1 by decide +kernel)⟩ (fun sz => c_wordOf_2 hls hD hn σ sz) rfl rfl (Nat.le_of_ble_eq_true rfl) ⟨Nat.le_of_ble_eq_true rfl, Nat.le_of_ble_eq_true rfl⟩ ⟨Nat.zero_le _, Nat.zero_le _⟩ dX2_spelt_9 ?_
  refine zw_Vi X hAd (As := [.ref (wa 2)]) (rest := []) (d := 5) (i := 4) (by omega) zc_4 (q := (RX2, TX2, 2)) rfl ⟨zm_162, zm_163, zm_164, zm_26, zm_165, rfl, by decide, by decide, (show (parseMethodDescriptor yX2_isTyped.desc).map (fun d => d.parameters.length) = some 1 by decide +kernel)⟩ (fun sz => c_isTyped_len hls hD hn σ 2 (by decide) (zlen 3) (by decide) e1 (by decide) sz) rfl rfl (Nat.le_of_ble_eq_true rfl) ⟨Nat.le_of_ble_eq_true rfl, Nat.le_of_ble_eq_true rfl⟩ ⟨Nat.zero_le _, Nat.zero_le _⟩ dX2_spelt_12 ?_
  refine zw_if_eq X (tgt := 20) dX2_spelt_15 (by decide) (fun _ => ?_) (fun h_ => absurd rfl h_)
  refine zw_run X (is := [(20, .iinc 1 1, 3)]) (t' := (23, [some (.ref (ad 4)), some (.int (2 + 1))], [])) ⟨dX2_spelt_20, trivial⟩ rfl ?_
  rw [show (2 : Int32) + 1 = 3 from rfl]
  refine zw_go X (tgt := 2) dX2_spelt_23 (by decide) ?_
  refine zw_run X (is := [(2, .iload_n 1, 1), (3, .iconst 5, 1)]) (t' := (4, [some (.ref (ad 4)), some (.int 3)], [.int 5, .int 3])) ⟨dX2_spelt_2, dX2_spelt_3, trivial⟩ rfl ?_
  refine zw_icmp_ge X (tgt := 26) dX2_spelt_4 (by decide) (fun h_ => absurd h_ (by decide)) (fun _ => ?_)
  refine zw_run X (is := [(7, .aload_n 0, 1), (8, .iload_n 1, 1)]) (t' := (9, [some (.ref (ad 4)), some (.int 3)], [.int 3, .ref (ad 4)])) ⟨dX2_spelt_7, dX2_spelt_8, trivial⟩ rfl ?_
  refine zw_Sa X hAd (As := [.int 3]) (rest := [.ref (ad 4)]) (d := 0) ⟨zm_159, zm_160, zm_26, zm_161, by decide, by decide, (show (parseMethodDescriptor yX2_wordOf.desc).map (fun d => d.parameters.length) = some 1 by decide +kernel)⟩ (fun sz => c_wordOf_3 hls hD hn σ sz) rfl rfl (Nat.le_of_ble_eq_true rfl) ⟨Nat.le_of_ble_eq_true rfl, Nat.le_of_ble_eq_true rfl⟩ ⟨Nat.zero_le _, Nat.zero_le _⟩ dX2_spelt_9 ?_
  refine zw_Vi X hAd (As := [.ref (wa 3)]) (rest := []) (d := 5) (i := 4) (by omega) zc_4 (q := (RX2, TX2, 2)) rfl ⟨zm_162, zm_163, zm_164, zm_26, zm_165, rfl, by decide, by decide, (show (parseMethodDescriptor yX2_isTyped.desc).map (fun d => d.parameters.length) = some 1 by decide +kernel)⟩ (fun sz => c_isTyped_yes hls hD hn σ 3 (by decide) e1 heq sz) rfl rfl (Nat.le_of_ble_eq_true rfl) ⟨Nat.le_of_ble_eq_true rfl, Nat.le_of_ble_eq_true rfl⟩ ⟨Nat.zero_le _, Nat.zero_le _⟩ dX2_spelt_12 ?_
  refine zw_if_eq X (tgt := 20) dX2_spelt_15 (by decide) (fun h_ => absurd h_ (by decide)) (fun _ => ?_)
  refine zw_run X (is := [(18, .iload_n 1, 1)]) (t' := (19, [some (.ref (ad 4)), some (.int 3)], [.int 3])) ⟨dX2_spelt_18, trivial⟩ rfl ?_
  exact zw_iret X hr dX2_spelt_19 rfl rfl rfl

set_option maxHeartbeats 4000000 in
set_option maxRecDepth 100000 in
theorem c_spelt_4 {l : Launch} (hls : l.stackTraces = false) {D : va_G} {cy : Nat → ClassId} {wa : Nat → Nat} {N n : Nat} {ad : Nat → Nat} (hD : zD n ad) (hn : 40 ≤ n) (σ : zS) (e1 : σ 4 1 = nI (zlen 4)) (heq : ∀ j, j < zlen 4 → (zbyt 4).getD j 0 = σ 5 j) (sz : Nat) : Met l yX2_spelt (.code yX2_spelt cX2_spelt 2 (some .int) :: zB) (zRm 7) (zPc [.ref (ad 4)] D cy wa N n ad σ sz) (zQi (4) D cy N n ad (σ) sz) 0 0 (zA n ad sz) := by
  refine z_met (by decide) hls (List.forall_mem_cons.mpr ⟨rfl, (fun _ h => nomatch h)⟩) (Nat.le_of_ble_eq_true rfl) (fun p_ e_ s_ m_ below_ meth_ c_ hsz hr X => ?_)
  have X : zX p_ l s_ m_ [.ref (ad 4)].toArray meth_ c_ cX2_spelt 2 RX2 D cy wa (zA n ad sz) := X
  have hAd : ∀ i, i < n → zA n ad sz (ad i) := fun i hi => Or.inl ⟨i, hi, rfl⟩
  refine zw_run X (is := [(0, .iconst 0, 1), (1, .istore_n 1, 1)]) (t' := (2, [some (.ref (ad 4)), some (.int 0)], [])) ⟨dX2_spelt_0, dX2_spelt_1, trivial⟩ rfl ?_
  refine zw_run X (is := [(2, .iload_n 1, 1), (3, .iconst 5, 1)]) (t' := (4, [some (.ref (ad 4)), some (.int 0)], [.int 5, .int 0])) ⟨dX2_spelt_2, dX2_spelt_3, trivial⟩ rfl ?_
  refine zw_icmp_ge X (tgt := 26) dX2_spelt_4 (by decide) (fun h_ => absurd h_ (by decide)) (fun _ => ?_)
  refine zw_run X (is := [(7, .aload_n 0, 1), (8, .iload_n 1, 1)]) (t' := (9, [some (.ref (ad 4)), some (.int 0)], [.int 0, .ref (ad 4)])) ⟨dX2_spelt_7, dX2_spelt_8, trivial⟩ rfl ?_
  refine zw_Sa X hAd (As := [.int 0]) (rest := [.ref (ad 4)]) (d := 0) ⟨zm_159, zm_160, zm_26, zm_161, by decide, by decide, (show (parseMethodDescriptor yX2_wordOf.desc).map (fun d => d.parameters.length) = some 1 by decide +kernel)⟩ (fun sz => c_wordOf_0 hls hD hn σ sz) rfl rfl (Nat.le_of_ble_eq_true rfl) ⟨Nat.le_of_ble_eq_true rfl, Nat.le_of_ble_eq_true rfl⟩ ⟨Nat.zero_le _, Nat.zero_le _⟩ dX2_spelt_9 ?_
  refine zw_Vi X hAd (As := [.ref (wa 0)]) (rest := []) (d := 5) (i := 4) (by omega) zc_4 (q := (RX2, TX2, 2)) rfl ⟨zm_162, zm_163, zm_164, zm_26, zm_165, rfl, by decide, by decide, (show (parseMethodDescriptor yX2_isTyped.desc).map (fun d => d.parameters.length) = some 1 by decide +kernel)⟩ (fun sz => c_isTyped_len hls hD hn σ 0 (by decide) (zlen 4) (by decide) e1 (by decide) sz) rfl rfl (Nat.le_of_ble_eq_true rfl) ⟨Nat.le_of_ble_eq_true rfl, Nat.le_of_ble_eq_true rfl⟩ ⟨Nat.zero_le _, Nat.zero_le _⟩ dX2_spelt_12 ?_
  refine zw_if_eq X (tgt := 20) dX2_spelt_15 (by decide) (fun _ => ?_) (fun h_ => absurd rfl h_)
  refine zw_run X (is := [(20, .iinc 1 1, 3)]) (t' := (23, [some (.ref (ad 4)), some (.int (0 + 1))], [])) ⟨dX2_spelt_20, trivial⟩ rfl ?_
  rw [show (0 : Int32) + 1 = 1 from rfl]
  refine zw_go X (tgt := 2) dX2_spelt_23 (by decide) ?_
  refine zw_run X (is := [(2, .iload_n 1, 1), (3, .iconst 5, 1)]) (t' := (4, [some (.ref (ad 4)), some (.int 1)], [.int 5, .int 1])) ⟨dX2_spelt_2, dX2_spelt_3, trivial⟩ rfl ?_
  refine zw_icmp_ge X (tgt := 26) dX2_spelt_4 (by decide) (fun h_ => absurd h_ (by decide)) (fun _ => ?_)
  refine zw_run X (is := [(7, .aload_n 0, 1), (8, .iload_n 1, 1)]) (t' := (9, [some (.ref (ad 4)), some (.int 1)], [.int 1, .ref (ad 4)])) ⟨dX2_spelt_7, dX2_spelt_8, trivial⟩ rfl ?_
  refine zw_Sa X hAd (As := [.int 1]) (rest := [.ref (ad 4)]) (d := 0) ⟨zm_159, zm_160, zm_26, zm_161, by decide, by decide, (show (parseMethodDescriptor yX2_wordOf.desc).map (fun d => d.parameters.length) = some 1 by decide +kernel)⟩ (fun sz => c_wordOf_1 hls hD hn σ sz) rfl rfl (Nat.le_of_ble_eq_true rfl) ⟨Nat.le_of_ble_eq_true rfl, Nat.le_of_ble_eq_true rfl⟩ ⟨Nat.zero_le _, Nat.zero_le _⟩ dX2_spelt_9 ?_
  refine zw_Vi X hAd (As := [.ref (wa 1)]) (rest := []) (d := 5) (i := 4) (by omega) zc_4 (q := (RX2, TX2, 2)) rfl ⟨zm_162, zm_163, zm_164, zm_26, zm_165, rfl, by decide, by decide, (show (parseMethodDescriptor yX2_isTyped.desc).map (fun d => d.parameters.length) = some 1 by decide +kernel)⟩ (fun sz => c_isTyped_len hls hD hn σ 1 (by decide) (zlen 4) (by decide) e1 (by decide) sz) rfl rfl (Nat.le_of_ble_eq_true rfl) ⟨Nat.le_of_ble_eq_true rfl, Nat.le_of_ble_eq_true rfl⟩ ⟨Nat.zero_le _, Nat.zero_le _⟩ dX2_spelt_12 ?_
  refine zw_if_eq X (tgt := 20) dX2_spelt_15 (by decide) (fun _ => ?_) (fun h_ => absurd rfl h_)
  refine zw_run X (is := [(20, .iinc 1 1, 3)]) (t' := (23, [some (.ref (ad 4)), some (.int (1 + 1))], [])) ⟨dX2_spelt_20, trivial⟩ rfl ?_
  rw [show (1 : Int32) + 1 = 2 from rfl]
  refine zw_go X (tgt := 2) dX2_spelt_23 (by decide) ?_
  refine zw_run X (is := [(2, .iload_n 1, 1), (3, .iconst 5, 1)]) (t' := (4, [some (.ref (ad 4)), some (.int 2)], [.int 5, .int 2])) ⟨dX2_spelt_2, dX2_spelt_3, trivial⟩ rfl ?_
  refine zw_icmp_ge X (tgt := 26) dX2_spelt_4 (by decide) (fun h_ => absurd h_ (by decide)) (fun _ => ?_)
  refine zw_run X (is := [(7, .aload_n 0, 1), (8, .iload_n 1, 1)]) (t' := (9, [some (.ref (ad 4)), some (.int 2)], [.int 2, .ref (ad 4)])) ⟨dX2_spelt_7, dX2_spelt_8, trivial⟩ rfl ?_
  refine zw_Sa X hAd (As := [.int 2]) (rest := [.ref (ad 4)]) (d := 0) ⟨zm_159, zm_160, zm_26, zm_161, by decide, by decide, (show (parseMethodDescriptor yX2_wordOf.desc).map (fun d => d.parameters.length) = some 1 by decide +kernel)⟩ (fun sz => c_wordOf_2 hls hD hn σ sz) rfl rfl (Nat.le_of_ble_eq_true rfl) ⟨Nat.le_of_ble_eq_true rfl, Nat.le_of_ble_eq_true rfl⟩ ⟨Nat.zero_le _, Nat.zero_le _⟩ dX2_spelt_9 ?_
  refine zw_Vi X hAd (As := [.ref (wa 2)]) (rest := []) (d := 5) (i := 4) (by omega) zc_4 (q := (RX2, TX2, 2)) rfl ⟨zm_162, zm_163, zm_164, zm_26, zm_165, rfl, by decide, by decide, (show (parseMethodDescriptor yX2_isTyped.desc).map (fun d => d.parameters.length) = some 1 by decide +kernel)⟩ (fun sz => c_isTyped_len hls hD hn σ 2 (by decide) (zlen 4) (by decide) e1 (by decide) sz) rfl rfl (Nat.le_of_ble_eq_true rfl) ⟨Nat.le_of_ble_eq_true rfl, Nat.le_of_ble_eq_true rfl⟩ ⟨Nat.zero_le _, Nat.zero_le _⟩ dX2_spelt_12 ?_
  refine zw_if_eq X (tgt := 20) dX2_spelt_15 (by decide) (fun _ => ?_) (fun h_ => absurd rfl h_)
  refine zw_run X (is := [(20, .iinc 1 1, 3)]) (t' := (23, [some (.ref (ad 4)), some (.int (2 + 1))], [])) ⟨dX2_spelt_20, trivial⟩ rfl ?_
  rw [show (2 : Int32) + 1 = 3 from rfl]
  refine zw_go X (tgt := 2) dX2_spelt_23 (by decide) ?_
  refine zw_run X (is := [(2, .iload_n 1, 1), (3, .iconst 5, 1)]) (t' := (4, [some (.ref (ad 4)), some (.int 3)], [.int 5, .int 3])) ⟨dX2_spelt_2, dX2_spelt_3, trivial⟩ rfl ?_
  refine zw_icmp_ge X (tgt := 26) dX2_spelt_4 (by decide) (fun h_ => absurd h_ (by decide)) (fun _ => ?_)
  refine zw_run X (is := [(7, .aload_n 0, 1), (8, .iload_n 1, 1)]) (t' := (9, [some (.ref (ad 4)), some (.int 3)], [.int 3, .ref (ad 4)])) ⟨dX2_spelt_7, dX2_spelt_8, trivial⟩ rfl ?_
  refine zw_Sa X hAd (As := [.int 3]) (rest := [.ref (ad 4)]) (d := 0) ⟨zm_159, zm_160, zm_26, zm_161, by decide, by decide, (show (parseMethodDescriptor yX2_wordOf.desc).map (fun d => d.parameters.length) = some 1 by decide +kernel)⟩ (fun sz => c_wordOf_3 hls hD hn σ sz) rfl rfl (Nat.le_of_ble_eq_true rfl) ⟨Nat.le_of_ble_eq_true rfl, Nat.le_of_ble_eq_true rfl⟩ ⟨Nat.zero_le _, Nat.zero_le _⟩ dX2_spelt_9 ?_
  refine zw_Vi X hAd (As := [.ref (wa 3)]) (rest := []) (d := 5) (i := 4) (by omega) zc_4 (q := (RX2, TX2, 2)) rfl ⟨zm_162, zm_163, zm_164, zm_26, zm_165, rfl, by decide, by decide, (show (parseMethodDescriptor yX2_isTyped.desc).map (fun d => d.parameters.length) = some 1 by decide +kernel)⟩ (fun sz => c_isTyped_len hls hD hn σ 3 (by decide) (zlen 4) (by decide) e1 (by decide) sz) rfl rfl (Nat.le_of_ble_eq_true rfl) ⟨Nat.le_of_ble_eq_true rfl, Nat.le_of_ble_eq_true rfl⟩ ⟨Nat.zero_le _, Nat.zero_le _⟩ dX2_spelt_12 ?_
  refine zw_if_eq X (tgt := 20) dX2_spelt_15 (by decide) (fun _ => ?_) (fun h_ => absurd rfl h_)
  refine zw_run X (is := [(20, .iinc 1 1, 3)]) (t' := (23, [some (.ref (ad 4)), some (.int (3 + 1))], [])) ⟨dX2_spelt_20, trivial⟩ rfl ?_
  rw [show (3 : Int32) + 1 = 4 from rfl]
  refine zw_go X (tgt := 2) dX2_spelt_23 (by decide) ?_
  refine zw_run X (is := [(2, .iload_n 1, 1), (3, .iconst 5, 1)]) (t' := (4, [some (.ref (ad 4)), some (.int 4)], [.int 5, .int 4])) ⟨dX2_spelt_2, dX2_spelt_3, trivial⟩ rfl ?_
  refine zw_icmp_ge X (tgt := 26) dX2_spelt_4 (by decide) (fun h_ => absurd h_ (by decide)) (fun _ => ?_)
  refine zw_run X (is := [(7, .aload_n 0, 1), (8, .iload_n 1, 1)]) (t' := (9, [some (.ref (ad 4)), some (.int 4)], [.int 4, .ref (ad 4)])) ⟨dX2_spelt_7, dX2_spelt_8, trivial⟩ rfl ?_
  refine zw_Sa X hAd (As := [.int 4]) (rest := [.ref (ad 4)]) (d := 0) ⟨zm_159, zm_160, zm_26, zm_161, by decide, by decide, (show (parseMethodDescriptor yX2_wordOf.desc).map (fun d => d.parameters.length) = some 1 by decide +kernel)⟩ (fun sz => c_wordOf_4 hls hD hn σ sz) rfl rfl (Nat.le_of_ble_eq_true rfl) ⟨Nat.le_of_ble_eq_true rfl, Nat.le_of_ble_eq_true rfl⟩ ⟨Nat.zero_le _, Nat.zero_le _⟩ dX2_spelt_9 ?_
  refine zw_Vi X hAd (As := [.ref (wa 4)]) (rest := []) (d := 5) (i := 4) (by omega) zc_4 (q := (RX2, TX2, 2)) rfl ⟨zm_162, zm_163, zm_164, zm_26, zm_165, rfl, by decide, by decide, (show (parseMethodDescriptor yX2_isTyped.desc).map (fun d => d.parameters.length) = some 1 by decide +kernel)⟩ (fun sz => c_isTyped_yes hls hD hn σ 4 (by decide) e1 heq sz) rfl rfl (Nat.le_of_ble_eq_true rfl) ⟨Nat.le_of_ble_eq_true rfl, Nat.le_of_ble_eq_true rfl⟩ ⟨Nat.zero_le _, Nat.zero_le _⟩ dX2_spelt_12 ?_
  refine zw_if_eq X (tgt := 20) dX2_spelt_15 (by decide) (fun h_ => absurd h_ (by decide)) (fun _ => ?_)
  refine zw_run X (is := [(18, .iload_n 1, 1)]) (t' := (19, [some (.ref (ad 4)), some (.int 4)], [.int 4])) ⟨dX2_spelt_18, trivial⟩ rfl ?_
  exact zw_iret X hr dX2_spelt_19 rfl rfl rfl

set_option maxHeartbeats 4000000 in
set_option maxRecDepth 100000 in
theorem c_spelt_none {l : Launch} (hls : l.stackTraces = false) {D : va_G} {cy : Nat → ClassId} {wa : Nat → Nat} {N n : Nat} {ad : Nat → Nat} (hD : zD n ad) (hn : 40 ≤ n) (σ : zS) (cnt : Nat) (hc : cnt = 0 ∨ cnt = 6) (e1 : σ 4 1 = nI cnt) (sz : Nat) : Met l yX2_spelt (.code yX2_spelt cX2_spelt 2 (some .int) :: zB) (zRm 7) (zPc [.ref (ad 4)] D cy wa N n ad σ sz) (zQi (-1) D cy N n ad (σ) sz) 0 0 (zA n ad sz) := by
  refine z_met (by decide) hls (List.forall_mem_cons.mpr ⟨rfl, (fun _ h => nomatch h)⟩) (Nat.le_of_ble_eq_true rfl) (fun p_ e_ s_ m_ below_ meth_ c_ hsz hr X => ?_)
  have X : zX p_ l s_ m_ [.ref (ad 4)].toArray meth_ c_ cX2_spelt 2 RX2 D cy wa (zA n ad sz) := X
  have hAd : ∀ i, i < n → zA n ad sz (ad i) := fun i hi => Or.inl ⟨i, hi, rfl⟩
  refine zw_run X (is := [(0, .iconst 0, 1), (1, .istore_n 1, 1)]) (t' := (2, [some (.ref (ad 4)), some (.int 0)], [])) ⟨dX2_spelt_0, dX2_spelt_1, trivial⟩ rfl ?_
  refine zw_run X (is := [(2, .iload_n 1, 1), (3, .iconst 5, 1)]) (t' := (4, [some (.ref (ad 4)), some (.int 0)], [.int 5, .int 0])) ⟨dX2_spelt_2, dX2_spelt_3, trivial⟩ rfl ?_
  refine zw_icmp_ge X (tgt := 26) dX2_spelt_4 (by decide) (fun h_ => absurd h_ (by decide)) (fun _ => ?_)
  refine zw_run X (is := [(7, .aload_n 0, 1), (8, .iload_n 1, 1)]) (t' := (9, [some (.ref (ad 4)), some (.int 0)], [.int 0, .ref (ad 4)])) ⟨dX2_spelt_7, dX2_spelt_8, trivial⟩ rfl ?_
  refine zw_Sa X hAd (As := [.int 0]) (rest := [.ref (ad 4)]) (d := 0) ⟨zm_159, zm_160, zm_26, zm_161, by decide, by decide, (show (parseMethodDescriptor yX2_wordOf.desc).map (fun d => d.parameters.length) = some 1 by decide +kernel)⟩ (fun sz => c_wordOf_0 hls hD hn σ sz) rfl rfl (Nat.le_of_ble_eq_true rfl) ⟨Nat.le_of_ble_eq_true rfl, Nat.le_of_ble_eq_true rfl⟩ ⟨Nat.zero_le _, Nat.zero_le _⟩ dX2_spelt_9 ?_
  refine zw_Vi X hAd (As := [.ref (wa 0)]) (rest := []) (d := 5) (i := 4) (by omega) zc_4 (q := (RX2, TX2, 2)) rfl ⟨zm_162, zm_163, zm_164, zm_26, zm_165, rfl, by decide, by decide, (show (parseMethodDescriptor yX2_isTyped.desc).map (fun d => d.parameters.length) = some 1 by decide +kernel)⟩ (fun sz => c_isTyped_len hls hD hn σ 0 (by decide) cnt (by omega) e1 (by show cnt ≠ 8; omega) sz) rfl rfl (Nat.le_of_ble_eq_true rfl) ⟨Nat.le_of_ble_eq_true rfl, Nat.le_of_ble_eq_true rfl⟩ ⟨Nat.zero_le _, Nat.zero_le _⟩ dX2_spelt_12 ?_
  refine zw_if_eq X (tgt := 20) dX2_spelt_15 (by decide) (fun _ => ?_) (fun h_ => absurd rfl h_)
  refine zw_run X (is := [(20, .iinc 1 1, 3)]) (t' := (23, [some (.ref (ad 4)), some (.int (0 + 1))], [])) ⟨dX2_spelt_20, trivial⟩ rfl ?_
  rw [show (0 : Int32) + 1 = 1 from rfl]
  refine zw_go X (tgt := 2) dX2_spelt_23 (by decide) ?_
  refine zw_run X (is := [(2, .iload_n 1, 1), (3, .iconst 5, 1)]) (t' := (4, [some (.ref (ad 4)), some (.int 1)], [.int 5, .int 1])) ⟨dX2_spelt_2, dX2_spelt_3, trivial⟩ rfl ?_
  refine zw_icmp_ge X (tgt := 26) dX2_spelt_4 (by decide) (fun h_ => absurd h_ (by decide)) (fun _ => ?_)
  refine zw_run X (is := [(7, .aload_n 0, 1), (8, .iload_n 1, 1)]) (t' := (9, [some (.ref (ad 4)), some (.int 1)], [.int 1, .ref (ad 4)])) ⟨dX2_spelt_7, dX2_spelt_8, trivial⟩ rfl ?_
  refine zw_Sa X hAd (As := [.int 1]) (rest := [.ref (ad 4)]) (d := 0) ⟨zm_159, zm_160, zm_26, zm_161, by decide, by decide, (show (parseMethodDescriptor yX2_wordOf.desc).map (fun d => d.parameters.length) = some 1 by decide +kernel)⟩ (fun sz => c_wordOf_1 hls hD hn σ sz) rfl rfl (Nat.le_of_ble_eq_true rfl) ⟨Nat.le_of_ble_eq_true rfl, Nat.le_of_ble_eq_true rfl⟩ ⟨Nat.zero_le _, Nat.zero_le _⟩ dX2_spelt_9 ?_
  refine zw_Vi X hAd (As := [.ref (wa 1)]) (rest := []) (d := 5) (i := 4) (by omega) zc_4 (q := (RX2, TX2, 2)) rfl ⟨zm_162, zm_163, zm_164, zm_26, zm_165, rfl, by decide, by decide, (show (parseMethodDescriptor yX2_isTyped.desc).map (fun d => d.parameters.length) = some 1 by decide +kernel)⟩ (fun sz => c_isTyped_len hls hD hn σ 1 (by decide) cnt (by omega) e1 (by show cnt ≠ 5; omega) sz) rfl rfl (Nat.le_of_ble_eq_true rfl) ⟨Nat.le_of_ble_eq_true rfl, Nat.le_of_ble_eq_true rfl⟩ ⟨Nat.zero_le _, Nat.zero_le _⟩ dX2_spelt_12 ?_
  refine zw_if_eq X (tgt := 20) dX2_spelt_15 (by decide) (fun _ => ?_) (fun h_ => absurd rfl h_)
  refine zw_run X (is := [(20, .iinc 1 1, 3)]) (t' := (23, [some (.ref (ad 4)), some (.int (1 + 1))], [])) ⟨dX2_spelt_20, trivial⟩ rfl ?_
  rw [show (1 : Int32) + 1 = 2 from rfl]
  refine zw_go X (tgt := 2) dX2_spelt_23 (by decide) ?_
  refine zw_run X (is := [(2, .iload_n 1, 1), (3, .iconst 5, 1)]) (t' := (4, [some (.ref (ad 4)), some (.int 2)], [.int 5, .int 2])) ⟨dX2_spelt_2, dX2_spelt_3, trivial⟩ rfl ?_
  refine zw_icmp_ge X (tgt := 26) dX2_spelt_4 (by decide) (fun h_ => absurd h_ (by decide)) (fun _ => ?_)
  refine zw_run X (is := [(7, .aload_n 0, 1), (8, .iload_n 1, 1)]) (t' := (9, [some (.ref (ad 4)), some (.int 2)], [.int 2, .ref (ad 4)])) ⟨dX2_spelt_7, dX2_spelt_8, trivial⟩ rfl ?_
  refine zw_Sa X hAd (As := [.int 2]) (rest := [.ref (ad 4)]) (d := 0) ⟨zm_159, zm_160, zm_26, zm_161, by decide, by decide, (show (parseMethodDescriptor yX2_wordOf.desc).map (fun d => d.parameters.length) = some 1 by decide +kernel)⟩ (fun sz => c_wordOf_2 hls hD hn σ sz) rfl rfl (Nat.le_of_ble_eq_true rfl) ⟨Nat.le_of_ble_eq_true rfl, Nat.le_of_ble_eq_true rfl⟩ ⟨Nat.zero_le _, Nat.zero_le _⟩ dX2_spelt_9 ?_
  refine zw_Vi X hAd (As := [.ref (wa 2)]) (rest := []) (d := 5) (i := 4) (by omega) zc_4 (q := (RX2, TX2, 2)) rfl ⟨zm_162, zm_163, zm_164, zm_26, zm_165, rfl, by decide, by decide, (show (parseMethodDescriptor yX2_isTyped.desc).map (fun d => d.parameters.length) = some 1 by decide +kernel)⟩ (fun sz => c_isTyped_len hls hD hn σ 2 (by decide) cnt (by omega) e1 (by show cnt ≠ 5; omega) sz) rfl rfl (Nat.le_of_ble_eq_true rfl) ⟨Nat.le_of_ble_eq_true rfl, Nat.le_of_ble_eq_true rfl⟩ ⟨Nat.zero_le _, Nat.zero_le _⟩ dX2_spelt_12 ?_
  refine zw_if_eq X (tgt := 20) dX2_spelt_15 (by decide) (fun _ => ?_) (fun h_ => absurd rfl h_)
  refine zw_run X (is := [(20, .iinc 1 1, 3)]) (t' := (23, [some (.ref (ad 4)), some (.int (2 + 1))], [])) ⟨dX2_spelt_20, trivial⟩ rfl ?_
  rw [show (2 : Int32) + 1 = 3 from rfl]
  refine zw_go X (tgt := 2) dX2_spelt_23 (by decide) ?_
  refine zw_run X (is := [(2, .iload_n 1, 1), (3, .iconst 5, 1)]) (t' := (4, [some (.ref (ad 4)), some (.int 3)], [.int 5, .int 3])) ⟨dX2_spelt_2, dX2_spelt_3, trivial⟩ rfl ?_
  refine zw_icmp_ge X (tgt := 26) dX2_spelt_4 (by decide) (fun h_ => absurd h_ (by decide)) (fun _ => ?_)
  refine zw_run X (is := [(7, .aload_n 0, 1), (8, .iload_n 1, 1)]) (t' := (9, [some (.ref (ad 4)), some (.int 3)], [.int 3, .ref (ad 4)])) ⟨dX2_spelt_7, dX2_spelt_8, trivial⟩ rfl ?_
  refine zw_Sa X hAd (As := [.int 3]) (rest := [.ref (ad 4)]) (d := 0) ⟨zm_159, zm_160, zm_26, zm_161, by decide, by decide, (show (parseMethodDescriptor yX2_wordOf.desc).map (fun d => d.parameters.length) = some 1 by decide +kernel)⟩ (fun sz => c_wordOf_3 hls hD hn σ sz) rfl rfl (Nat.le_of_ble_eq_true rfl) ⟨Nat.le_of_ble_eq_true rfl, Nat.le_of_ble_eq_true rfl⟩ ⟨Nat.zero_le _, Nat.zero_le _⟩ dX2_spelt_9 ?_
  refine zw_Vi X hAd (As := [.ref (wa 3)]) (rest := []) (d := 5) (i := 4) (by omega) zc_4 (q := (RX2, TX2, 2)) rfl ⟨zm_162, zm_163, zm_164, zm_26, zm_165, rfl, by decide, by decide, (show (parseMethodDescriptor yX2_isTyped.desc).map (fun d => d.parameters.length) = some 1 by decide +kernel)⟩ (fun sz => c_isTyped_len hls hD hn σ 3 (by decide) cnt (by omega) e1 (by show cnt ≠ 7; omega) sz) rfl rfl (Nat.le_of_ble_eq_true rfl) ⟨Nat.le_of_ble_eq_true rfl, Nat.le_of_ble_eq_true rfl⟩ ⟨Nat.zero_le _, Nat.zero_le _⟩ dX2_spelt_12 ?_
  refine zw_if_eq X (tgt := 20) dX2_spelt_15 (by decide) (fun _ => ?_) (fun h_ => absurd rfl h_)
  refine zw_run X (is := [(20, .iinc 1 1, 3)]) (t' := (23, [some (.ref (ad 4)), some (.int (3 + 1))], [])) ⟨dX2_spelt_20, trivial⟩ rfl ?_
  rw [show (3 : Int32) + 1 = 4 from rfl]
  refine zw_go X (tgt := 2) dX2_spelt_23 (by decide) ?_
  refine zw_run X (is := [(2, .iload_n 1, 1), (3, .iconst 5, 1)]) (t' := (4, [some (.ref (ad 4)), some (.int 4)], [.int 5, .int 4])) ⟨dX2_spelt_2, dX2_spelt_3, trivial⟩ rfl ?_
  refine zw_icmp_ge X (tgt := 26) dX2_spelt_4 (by decide) (fun h_ => absurd h_ (by decide)) (fun _ => ?_)
  refine zw_run X (is := [(7, .aload_n 0, 1), (8, .iload_n 1, 1)]) (t' := (9, [some (.ref (ad 4)), some (.int 4)], [.int 4, .ref (ad 4)])) ⟨dX2_spelt_7, dX2_spelt_8, trivial⟩ rfl ?_
  refine zw_Sa X hAd (As := [.int 4]) (rest := [.ref (ad 4)]) (d := 0) ⟨zm_159, zm_160, zm_26, zm_161, by decide, by decide, (show (parseMethodDescriptor yX2_wordOf.desc).map (fun d => d.parameters.length) = some 1 by decide +kernel)⟩ (fun sz => c_wordOf_4 hls hD hn σ sz) rfl rfl (Nat.le_of_ble_eq_true rfl) ⟨Nat.le_of_ble_eq_true rfl, Nat.le_of_ble_eq_true rfl⟩ ⟨Nat.zero_le _, Nat.zero_le _⟩ dX2_spelt_9 ?_
  refine zw_Vi X hAd (As := [.ref (wa 4)]) (rest := []) (d := 5) (i := 4) (by omega) zc_4 (q := (RX2, TX2, 2)) rfl ⟨zm_162, zm_163, zm_164, zm_26, zm_165, rfl, by decide, by decide, (show (parseMethodDescriptor yX2_isTyped.desc).map (fun d => d.parameters.length) = some 1 by decide +kernel)⟩ (fun sz => c_isTyped_len hls hD hn σ 4 (by decide) cnt (by omega) e1 (by show cnt ≠ 4; omega) sz) rfl rfl (Nat.le_of_ble_eq_true rfl) ⟨Nat.le_of_ble_eq_true rfl, Nat.le_of_ble_eq_true rfl⟩ ⟨Nat.zero_le _, Nat.zero_le _⟩ dX2_spelt_12 ?_
  refine zw_if_eq X (tgt := 20) dX2_spelt_15 (by decide) (fun _ => ?_) (fun h_ => absurd rfl h_)
  refine zw_run X (is := [(20, .iinc 1 1, 3)]) (t' := (23, [some (.ref (ad 4)), some (.int (4 + 1))], [])) ⟨dX2_spelt_20, trivial⟩ rfl ?_
  rw [show (4 : Int32) + 1 = 5 from rfl]
  refine zw_go X (tgt := 2) dX2_spelt_23 (by decide) ?_
  refine zw_run X (is := [(2, .iload_n 1, 1), (3, .iconst 5, 1)]) (t' := (4, [some (.ref (ad 4)), some (.int 5)], [.int 5, .int 5])) ⟨dX2_spelt_2, dX2_spelt_3, trivial⟩ rfl ?_
  refine zw_icmp_ge X (tgt := 26) dX2_spelt_4 (by decide) (fun _ => ?_) (fun h_ => absurd (by decide) h_)
  refine zw_run X (is := [(26, .iconst (-1), 1)]) (t' := (27, [some (.ref (ad 4)), some (.int 5)], [.int ((-1))])) ⟨dX2_spelt_26, trivial⟩ rfl ?_
  exact zw_iret X hr dX2_spelt_27 rfl rfl rfl

theorem c_spelt {l : Launch} (hls : l.stackTraces = false) {D : va_G} {cy : Nat → ClassId} {wa : Nat → Nat} {N n : Nat} {ad : Nat → Nat} (hD : zD n ad) (hn : 40 ≤ n) (σ : zS) : ∀ (k : Nat) (_ : k < 5) (_ : σ 4 1 = nI (zlen k)) (_ : ∀ j, j < zlen k → (zbyt k).getD j 0 = σ 5 j) (sz : Nat), Met l yX2_spelt (.code yX2_spelt cX2_spelt 2 (some .int) :: zB) (zRm 7) (zPc [.ref (ad 4)] D cy wa N n ad σ sz) (zQi (nI k) D cy N n ad σ sz) 0 0 (zA n ad sz)
  | 0, _, e1, heq, sz => c_spelt_0 hls hD hn σ e1 heq sz
  | 1, _, e1, heq, sz => c_spelt_1 hls hD hn σ e1 heq sz
  | 2, _, e1, heq, sz => c_spelt_2 hls hD hn σ e1 heq sz
  | 3, _, e1, heq, sz => c_spelt_3 hls hD hn σ e1 heq sz
  | 4, _, e1, heq, sz => c_spelt_4 hls hD hn σ e1 heq sz
  | k + 5, h, _, _, _ => absurd h (by omega)

set_option maxHeartbeats 4000000 in
set_option maxRecDepth 100000 in
theorem c_typed {l : Launch} (hls : l.stackTraces = false) {D : va_G} {cy : Nat → ClassId} {wa : Nat → Nat} {N n : Nat} {ad : Nat → Nat} (hD : zD n ad) (hn : 40 ≤ n) (σ : zS) (k : Nat) (hk : k < 5) (e1 : σ 4 1 = nI (zlen k)) (heq : ∀ j, j < zlen k → (zbyt k).getD j 0 = σ 5 j)  (sz : Nat) : Met l yX7_typedSubject (.code yX7_typedSubject cX7_typedSubject 2 (some .int) :: zB) (zRm 9) (zPc [.ref (ad 0)] D cy wa N n ad σ sz) (zQi (nI k) D cy N n ad (σ) sz) 0 0 (zA n ad sz) := by
  refine z_met (by decide) hls (List.forall_mem_cons.mpr ⟨rfl, (fun _ h => nomatch h)⟩) (Nat.le_of_ble_eq_true rfl) (fun p_ e_ s_ m_ below_ meth_ c_ hsz hr X => ?_)
  have X : zX p_ l s_ m_ [.ref (ad 0)].toArray meth_ c_ cX7_typedSubject 2 RX7 D cy wa (zA n ad sz) := X
  have hAd : ∀ i, i < n → zA n ad sz (ad i) := fun i hi => Or.inl ⟨i, hi, rfl⟩
  refine zw_run X (is := [(0, .aload_n 0, 1)]) (t' := (1, [some (.ref (ad 0)), none], [.ref (ad 0)])) ⟨dX7_typedSubject_0, trivial⟩ rfl ?_
  refine zw_getf X (i := 0) (by omega) zc_0 (C := RX7) (T := TX7) (Nf := 16) rfl zi_X7 3 (by decide) rfl zm_27 rfl dX7_typedSubject_1 ?_
  refine zw_Vi X hAd (As := []) (rest := []) (d := 7) (i := 4) (by omega) zc_4 (q := (RX2, TX2, 2)) rfl ⟨zm_155, zm_156, zm_157, zm_26, zm_158, rfl, by decide, by decide, (show (parseMethodDescriptor yX2_spelt.desc).map (fun d => d.parameters.length) = some 0 by decide +kernel)⟩ (fun sz => c_spelt hls hD hn σ k hk e1 heq sz) rfl rfl (Nat.le_of_ble_eq_true rfl) ⟨Nat.le_of_ble_eq_true rfl, Nat.le_of_ble_eq_true rfl⟩ ⟨Nat.zero_le _, Nat.zero_le _⟩ dX7_typedSubject_4 ?_
  refine zw_run X (is := [(7, .istore_n 1, 1), (8, .iload_n 1, 1), (9, .iconst (-1), 1)]) (t' := (10, [some (.ref (ad 0)), some (.int (nI k))], [.int ((-1)), .int (nI k)])) ⟨dX7_typedSubject_7, dX7_typedSubject_8, dX7_typedSubject_9, trivial⟩ rfl ?_
  refine zw_icmp_ne X (tgt := 24) dX7_typedSubject_10 (by decide) (fun h_ => ?_) (fun h_ => absurd h_ (by rcases (show k = 0 ∨ k = 1 ∨ k = 2 ∨ k = 3 ∨ k = 4 by omega) with rfl | rfl | rfl | rfl | rfl <;> decide))
  refine zw_run X (is := [(24, .iload_n 1, 1)]) (t' := (25, [some (.ref (ad 0)), some (.int (nI k))], [.int (nI k)])) ⟨dX7_typedSubject_24, trivial⟩ rfl ?_
  exact zw_iret X hr dX7_typedSubject_25 rfl rfl rfl

set_option maxHeartbeats 4000000 in
set_option maxRecDepth 100000 in
theorem c_typed_x {l : Launch} (hls : l.stackTraces = false) {D : va_G} {cy : Nat → ClassId} {wa : Nat → Nat} {N n : Nat} {ad : Nat → Nat} (hD : zD n ad) (hn : 40 ≤ n) (σ : zS) (cnt : Nat) (hc : cnt = 0 ∨ cnt = 6) (e1 : σ 4 1 = nI cnt)  (sz : Nat) : vx_Met l yX7_typedSubject (.code yX7_typedSubject cX7_typedSubject 2 (some .int) :: zB) (zRx 9) (zPc [.ref (ad 0)] D cy wa N n ad σ sz) zNo (zXC "java/lang/UnsupportedOperationException" D cy N n ad (σ) sz) 1 6 (zA n ad sz) := by
  refine z_metx (by decide) hls (List.forall_mem_cons.mpr ⟨rfl, (fun _ h => nomatch h)⟩) (Nat.le_of_ble_eq_true rfl) (fun p_ e_ s_ m_ below_ meth_ c_ hsz hr hno X => ?_)
  have X : zX p_ l s_ m_ [.ref (ad 0)].toArray meth_ c_ cX7_typedSubject 2 RX7 D cy wa (zA n ad sz) := X
  have hAd : ∀ i, i < n → zA n ad sz (ad i) := fun i hi => Or.inl ⟨i, hi, rfl⟩
  refine zw_run X (is := [(0, .aload_n 0, 1)]) (t' := (1, [some (.ref (ad 0)), none], [.ref (ad 0)])) ⟨dX7_typedSubject_0, trivial⟩ rfl ?_
  refine zw_getf X (i := 0) (by omega) zc_0 (C := RX7) (T := TX7) (Nf := 16) rfl zi_X7 3 (by decide) rfl zm_27 rfl dX7_typedSubject_1 ?_
  refine zw_Vi X hAd (As := []) (rest := []) (d := 7) (i := 4) (by omega) zc_4 (q := (RX2, TX2, 2)) rfl ⟨zm_155, zm_156, zm_157, zm_26, zm_158, rfl, by decide, by decide, (show (parseMethodDescriptor yX2_spelt.desc).map (fun d => d.parameters.length) = some 0 by decide +kernel)⟩ (fun sz => c_spelt_none hls hD hn σ cnt hc e1 sz) rfl rfl (Nat.le_of_ble_eq_true rfl) ⟨Nat.le_of_ble_eq_true rfl, Nat.le_of_ble_eq_true rfl⟩ ⟨Nat.zero_le _, Nat.zero_le _⟩ dX7_typedSubject_4 ?_
  refine zw_run X (is := [(7, .istore_n 1, 1), (8, .iload_n 1, 1), (9, .iconst (-1), 1)]) (t' := (10, [some (.ref (ad 0)), some (.int ((-1)))], [.int ((-1)), .int ((-1))])) ⟨dX7_typedSubject_7, dX7_typedSubject_8, dX7_typedSubject_9, trivial⟩ rfl ?_
  refine zw_icmp_ne X (tgt := 24) dX7_typedSubject_10 (by decide) (fun h_ => absurd rfl h_) (fun h_ => ?_)
  exact zw_throwW X hno zTh_uoe (is := 374) (text := "no subject is typed") (by decide +kernel) rfl rfl dX7_typedSubject_13 dX7_typedSubject_16 dX7_typedSubject_17 dX7_typedSubject_20 dX7_typedSubject_23 ⟨Nat.le_of_ble_eq_true rfl, Nat.le_of_ble_eq_true rfl, Nat.le_of_ble_eq_true rfl, Nat.le_of_ble_eq_true rfl⟩ ⟨rfl, rfl⟩

set_option maxHeartbeats 4000000 in
set_option maxRecDepth 100000 in
theorem c_strike_x {l : Launch} (hls : l.stackTraces = false) {D : va_G} {cy : Nat → ClassId} {wa : Nat → Nat} {N n : Nat} {ad : Nat → Nat} (hD : zD n ad) (hn : 40 ≤ n) (σ : zS) (cnt : Nat) (hc : cnt = 0 ∨ cnt = 6) (e1 : σ 4 1 = nI cnt) (w : Int32) (sz : Nat) : vx_Met l yX7_strike (.code yX7_strike cX7_strike 4 (some .boolean) :: zB) (zRx 10) (zPc [.ref (ad 0), .int w] D cy wa N n ad σ sz) zNo (zXC "java/lang/UnsupportedOperationException" D cy N n ad (σ) sz) 1 6 (zA n ad sz) := by
  refine z_metx (by decide) hls (List.forall_mem_cons.mpr ⟨rfl, (List.forall_mem_cons.mpr ⟨rfl, (fun _ h => nomatch h)⟩)⟩) (Nat.le_of_ble_eq_true rfl) (fun p_ e_ s_ m_ below_ meth_ c_ hsz hr hno X => ?_)
  have X : zX p_ l s_ m_ [.ref (ad 0), .int w].toArray meth_ c_ cX7_strike 4 RX7 D cy wa (zA n ad sz) := X
  have hAd : ∀ i, i < n → zA n ad sz (ad i) := fun i hi => Or.inl ⟨i, hi, rfl⟩
  refine zw_run X (is := [(0, .aload_n 0, 1)]) (t' := (1, [some (.ref (ad 0)), some (.int w), none, none], [.ref (ad 0)])) ⟨dX7_strike_0, trivial⟩ rfl ?_
  exact zw_Vo X hno hAd rfl (As := []) (rest := []) (d := 9) (i := 0) (by omega) zc_0 (q := (RX7, TX7, 16)) rfl ⟨zm_149, zm_150, zm_151, zm_2, zm_152, rfl, by decide, by decide, (show (parseMethodDescriptor yX7_typedSubject.desc).map (fun d => d.parameters.length) = some 0 by decide +kernel)⟩ (fun sz => c_typed_x hls hD hn σ cnt hc e1 sz) rfl rfl (Nat.le_of_ble_eq_true rfl) ⟨Nat.le_of_ble_eq_true rfl, Nat.le_of_ble_eq_true rfl⟩ ⟨Nat.le_of_ble_eq_true rfl, Nat.le_of_ble_eq_true rfl⟩ dX7_strike_1

set_option maxHeartbeats 4000000 in
set_option maxRecDepth 100000 in
theorem c_subject_none {l : Launch} (hls : l.stackTraces = false) {D : va_G} {cy : Nat → ClassId} {wa : Nat → Nat} {N n : Nat} {ad : Nat → Nat} (hD : zD n ad) (hn : 40 ≤ n) (σ : zS) (gc : Nat) (hgc : gc ≤ 8) (e0 : σ 0 11 = nI gc) (g : Nat) (hg : g < gc) (cnt : Nat) (hc : cnt = 0 ∨ cnt = 6) (e1 : σ 4 1 = nI cnt)  (sz : Nat) : vx_Met l yX7_subject (.code yX7_subject cX7_subject 5 (some .char) :: zB) (zRx 10) (zPc [.ref (ad 0), .int (nI g)] D cy wa N n ad σ sz) zNo (zXC "java/lang/UnsupportedOperationException" D cy N n ad (σ) sz) 1 6 (zA n ad sz) := by
  refine z_metx (by decide) hls (List.forall_mem_cons.mpr ⟨rfl, (List.forall_mem_cons.mpr ⟨rfl, (fun _ h => nomatch h)⟩)⟩) (Nat.le_of_ble_eq_true rfl) (fun p_ e_ s_ m_ below_ meth_ c_ hsz hr hno X => ?_)
  have X : zX p_ l s_ m_ [.ref (ad 0), .int (nI g)].toArray meth_ c_ cX7_subject 5 RX7 D cy wa (zA n ad sz) := X
  have hAd : ∀ i, i < n → zA n ad sz (ad i) := fun i hi => Or.inl ⟨i, hi, rfl⟩
  have hg8 : g < 8 := by omega
  refine zw_run X (is := [(0, .aload_n 0, 1), (1, .iload_n 1, 1)]) (t' := (2, [some (.ref (ad 0)), some (.int (nI g)), none, none, none], [.int (nI g), .ref (ad 0)])) ⟨dX7_subject_0, dX7_subject_1, trivial⟩ rfl ?_
  refine zw_Vv X hAd (As := [.int (nI g)]) (rest := []) (d := 0) (i := 0) (by omega) zc_0 (q := (RX7, TX7, 16)) rfl ⟨zm_135, zm_136, zm_137, zm_2, zm_138, rfl, by decide, by decide, (show (parseMethodDescriptor yX7_needGuild.desc).map (fun d => d.parameters.length) = some 1 by decide +kernel)⟩ (fun sz => c_needGuild hls hD hn σ gc hgc e0 g hg sz) rfl rfl (Nat.le_of_ble_eq_true rfl) ⟨Nat.le_of_ble_eq_true rfl, Nat.le_of_ble_eq_true rfl⟩ ⟨Nat.zero_le _, Nat.zero_le _⟩ dX7_subject_2 ?_
  refine zw_run X (is := [(5, .aload_n 0, 1)]) (t' := (6, [some (.ref (ad 0)), some (.int (nI g)), none, none, none], [.ref (ad 0)])) ⟨dX7_subject_5, trivial⟩ rfl ?_
  exact zw_Vo X hno hAd rfl (As := []) (rest := []) (d := 9) (i := 0) (by omega) zc_0 (q := (RX7, TX7, 16)) rfl ⟨zm_149, zm_150, zm_151, zm_2, zm_152, rfl, by decide, by decide, (show (parseMethodDescriptor yX7_typedSubject.desc).map (fun d => d.parameters.length) = some 0 by decide +kernel)⟩ (fun sz => c_typed_x hls hD hn σ cnt hc e1 sz) rfl rfl (Nat.le_of_ble_eq_true rfl) ⟨Nat.le_of_ble_eq_true rfl, Nat.le_of_ble_eq_true rfl⟩ ⟨Nat.le_of_ble_eq_true rfl, Nat.le_of_ble_eq_true rfl⟩ dX7_subject_6

set_option maxHeartbeats 4000000 in
set_option maxRecDepth 100000 in
theorem c_subject_over {l : Launch} (hls : l.stackTraces = false) {D : va_G} {cy : Nat → ClassId} {wa : Nat → Nat} {N n : Nat} {ad : Nat → Nat} (hD : zD n ad) (hn : 40 ≤ n) (σ : zS) (gc : Nat) (hgc : gc ≤ 8) (e0 : σ 0 11 = nI gc) (g : Nat) (hg : g < gc) (k : Nat) (hk : k < 5) (e1 : σ 4 1 = nI (zlen k)) (heq : ∀ j, j < zlen k → (zbyt k).getD j 0 = σ 5 j) (ho : ¬ σ (8 + g) 2 = 0) (sz : Nat) : vx_Met l yX7_subject (.code yX7_subject cX7_subject 5 (some .char) :: zB) (zRx 10) (zPc [.ref (ad 0), .int (nI g)] D cy wa N n ad σ sz) zNo (zXC "java/lang/UnsupportedOperationException" D cy N n ad (σ) sz) 1 6 (zA n ad sz) := by
  refine z_metx (by decide) hls (List.forall_mem_cons.mpr ⟨rfl, (List.forall_mem_cons.mpr ⟨rfl, (fun _ h => nomatch h)⟩)⟩) (Nat.le_of_ble_eq_true rfl) (fun p_ e_ s_ m_ below_ meth_ c_ hsz hr hno X => ?_)
  have X : zX p_ l s_ m_ [.ref (ad 0), .int (nI g)].toArray meth_ c_ cX7_subject 5 RX7 D cy wa (zA n ad sz) := X
  have hAd : ∀ i, i < n → zA n ad sz (ad i) := fun i hi => Or.inl ⟨i, hi, rfl⟩
  have hg8 : g < 8 := by omega
  refine zw_run X (is := [(0, .aload_n 0, 1), (1, .iload_n 1, 1)]) (t' := (2, [some (.ref (ad 0)), some (.int (nI g)), none, none, none], [.int (nI g), .ref (ad 0)])) ⟨dX7_subject_0, dX7_subject_1, trivial⟩ rfl ?_
  refine zw_Vv X hAd (As := [.int (nI g)]) (rest := []) (d := 0) (i := 0) (by omega) zc_0 (q := (RX7, TX7, 16)) rfl ⟨zm_135, zm_136, zm_137, zm_2, zm_138, rfl, by decide, by decide, (show (parseMethodDescriptor yX7_needGuild.desc).map (fun d => d.parameters.length) = some 1 by decide +kernel)⟩ (fun sz => c_needGuild hls hD hn σ gc hgc e0 g hg sz) rfl rfl (Nat.le_of_ble_eq_true rfl) ⟨Nat.le_of_ble_eq_true rfl, Nat.le_of_ble_eq_true rfl⟩ ⟨Nat.zero_le _, Nat.zero_le _⟩ dX7_subject_2 ?_
  refine zw_run X (is := [(5, .aload_n 0, 1)]) (t' := (6, [some (.ref (ad 0)), some (.int (nI g)), none, none, none], [.ref (ad 0)])) ⟨dX7_subject_5, trivial⟩ rfl ?_
  refine zw_Vi X hAd (As := []) (rest := []) (d := 9) (i := 0) (by omega) zc_0 (q := (RX7, TX7, 16)) rfl ⟨zm_149, zm_150, zm_151, zm_2, zm_152, rfl, by decide, by decide, (show (parseMethodDescriptor yX7_typedSubject.desc).map (fun d => d.parameters.length) = some 0 by decide +kernel)⟩ (fun sz => c_typed hls hD hn σ k hk e1 heq sz) rfl rfl (Nat.le_of_ble_eq_true rfl) ⟨Nat.le_of_ble_eq_true rfl, Nat.le_of_ble_eq_true rfl⟩ ⟨Nat.zero_le _, Nat.zero_le _⟩ dX7_subject_6 ?_
  refine zw_run X (is := [(9, .istore_n 2, 1), (10, .aload_n 0, 1), (11, .iload_n 1, 1)]) (t' := (12, [some (.ref (ad 0)), some (.int (nI g)), some (.int (nI k)), none, none], [.int (nI g), .ref (ad 0)])) ⟨dX7_subject_9, dX7_subject_10, dX7_subject_11, trivial⟩ rfl ?_
  exact zw_Vo X hno hAd rfl (As := [.int (nI g)]) (rest := []) (d := 0) (i := 0) (by omega) zc_0 (q := (RX7, TX7, 16)) rfl ⟨zm_240, zm_241, zm_242, zm_2, zm_243, rfl, by decide, by decide, (show (parseMethodDescriptor yX7_needNotOver.desc).map (fun d => d.parameters.length) = some 1 by decide +kernel)⟩ (fun sz => c_needNotOver_x hls hD hn σ g hg8 ho sz) rfl rfl (Nat.le_of_ble_eq_true rfl) ⟨Nat.le_of_ble_eq_true rfl, Nat.le_of_ble_eq_true rfl⟩ ⟨Nat.le_of_ble_eq_true rfl, Nat.le_of_ble_eq_true rfl⟩ dX7_subject_12

set_option maxHeartbeats 4000000 in
set_option maxRecDepth 100000 in
theorem c_subject {l : Launch} (hls : l.stackTraces = false) {D : va_G} {cy : Nat → ClassId} {wa : Nat → Nat} {N n : Nat} {ad : Nat → Nat} (hD : zD n ad) (hn : 40 ≤ n) (σ : zS) (gc : Nat) (hgc : gc ≤ 8) (e0 : σ 0 11 = nI gc) (g : Nat) (hg : g < gc) (k : Nat) (hk : k < 5) (e1 : σ 4 1 = nI (zlen k)) (heq : ∀ j, j < zlen k → (zbyt k).getD j 0 = σ 5 j) (ho : σ (8 + g) 2 = 0) (tp : Nat) (htp : tp < 5) (et : σ (16 + g) 2 = nI tp) (sz : Nat) : Met l yX7_subject (.code yX7_subject cX7_subject 5 (some .char) :: zB) (zRm 10) (zPc [.ref (ad 0), .int (nI g)] D cy wa N n ad σ sz) (zQi ((zbyt tp).getD 0 0) D cy N n ad (zu σ (16 + g) 2 (nI k)) sz) 0 0 (zA n ad sz) := by
  refine z_met (by decide) hls (List.forall_mem_cons.mpr ⟨rfl, (List.forall_mem_cons.mpr ⟨rfl, (fun _ h => nomatch h)⟩)⟩) (Nat.le_of_ble_eq_true rfl) (fun p_ e_ s_ m_ below_ meth_ c_ hsz hr X => ?_)
  have X : zX p_ l s_ m_ [.ref (ad 0), .int (nI g)].toArray meth_ c_ cX7_subject 5 RX7 D cy wa (zA n ad sz) := X
  have hAd : ∀ i, i < n → zA n ad sz (ad i) := fun i hi => Or.inl ⟨i, hi, rfl⟩
  have hg8 : g < 8 := by omega
  have hnr : narrow .char (.int ((zbyt tp).getD 0 0)) = .int ((zbyt tp).getD 0 0) := by rw [← zch tp (by omega) 0 (by have := zlen_le tp (by omega); omega)]; exact pk_nc _
  refine zw_run X (is := [(0, .aload_n 0, 1), (1, .iload_n 1, 1)]) (t' := (2, [some (.ref (ad 0)), some (.int (nI g)), none, none, none], [.int (nI g), .ref (ad 0)])) ⟨dX7_subject_0, dX7_subject_1, trivial⟩ rfl ?_
  refine zw_Vv X hAd (As := [.int (nI g)]) (rest := []) (d := 0) (i := 0) (by omega) zc_0 (q := (RX7, TX7, 16)) rfl ⟨zm_135, zm_136, zm_137, zm_2, zm_138, rfl, by decide, by decide, (show (parseMethodDescriptor yX7_needGuild.desc).map (fun d => d.parameters.length) = some 1 by decide +kernel)⟩ (fun sz => c_needGuild hls hD hn σ gc hgc e0 g hg sz) rfl rfl (Nat.le_of_ble_eq_true rfl) ⟨Nat.le_of_ble_eq_true rfl, Nat.le_of_ble_eq_true rfl⟩ ⟨Nat.zero_le _, Nat.zero_le _⟩ dX7_subject_2 ?_
  refine zw_run X (is := [(5, .aload_n 0, 1)]) (t' := (6, [some (.ref (ad 0)), some (.int (nI g)), none, none, none], [.ref (ad 0)])) ⟨dX7_subject_5, trivial⟩ rfl ?_
  refine zw_Vi X hAd (As := []) (rest := []) (d := 9) (i := 0) (by omega) zc_0 (q := (RX7, TX7, 16)) rfl ⟨zm_149, zm_150, zm_151, zm_2, zm_152, rfl, by decide, by decide, (show (parseMethodDescriptor yX7_typedSubject.desc).map (fun d => d.parameters.length) = some 0 by decide +kernel)⟩ (fun sz => c_typed hls hD hn σ k hk e1 heq sz) rfl rfl (Nat.le_of_ble_eq_true rfl) ⟨Nat.le_of_ble_eq_true rfl, Nat.le_of_ble_eq_true rfl⟩ ⟨Nat.zero_le _, Nat.zero_le _⟩ dX7_subject_6 ?_
  refine zw_run X (is := [(9, .istore_n 2, 1), (10, .aload_n 0, 1), (11, .iload_n 1, 1)]) (t' := (12, [some (.ref (ad 0)), some (.int (nI g)), some (.int (nI k)), none, none], [.int (nI g), .ref (ad 0)])) ⟨dX7_subject_9, dX7_subject_10, dX7_subject_11, trivial⟩ rfl ?_
  refine zw_Vv X hAd (As := [.int (nI g)]) (rest := []) (d := 0) (i := 0) (by omega) zc_0 (q := (RX7, TX7, 16)) rfl ⟨zm_240, zm_241, zm_242, zm_2, zm_243, rfl, by decide, by decide, (show (parseMethodDescriptor yX7_needNotOver.desc).map (fun d => d.parameters.length) = some 1 by decide +kernel)⟩ (fun sz => c_needNotOver hls hD hn σ g hg8 ho sz) rfl rfl (Nat.le_of_ble_eq_true rfl) ⟨Nat.le_of_ble_eq_true rfl, Nat.le_of_ble_eq_true rfl⟩ ⟨Nat.zero_le _, Nat.zero_le _⟩ dX7_subject_12 ?_
  refine zw_run X (is := [(15, .aload_n 0, 1)]) (t' := (16, [some (.ref (ad 0)), some (.int (nI g)), some (.int (nI k)), none, none], [.ref (ad 0)])) ⟨dX7_subject_15, trivial⟩ rfl ?_
  refine zw_getf X (i := 0) (by omega) zc_0 (C := RX7) (T := TX7) (Nf := 16) rfl zi_X7 0 (by decide) rfl zm_18 rfl dX7_subject_16 ?_
  refine zw_run X (is := [(19, .iload_n 1, 1)]) (t' := (20, [some (.ref (ad 0)), some (.int (nI g)), some (.int (nI k)), none, none], [.int (nI g), .ref (ad 1)])) ⟨dX7_subject_19, trivial⟩ rfl ?_
  refine zw_guild X (by omega) (g := g) rfl hg8 dX7_subject_20 ?_
  refine zw_getf X (i := 8 + g) (by omega) (zc_G hg8) (C := RX1) (T := TX1) (Nf := 7) rfl zi_X1 6 (by decide) rfl zm_112 rfl dX7_subject_21 ?_
  refine zw_run X (is := [(24, .astore_n 3, 1), (25, .aload_n 3, 1)]) (t' := (26, [some (.ref (ad 0)), some (.int (nI g)), some (.int (nI k)), some (.ref (ad (16 + g))), none], [.ref (ad (16 + g))])) ⟨dX7_subject_24, dX7_subject_25, trivial⟩ rfl ?_
  refine zw_getf X (i := 16 + g) (by omega) (zc_P hg8) (C := RX4) (T := TX4) (Nf := 7) rfl zi_X4 2 (by decide) rfl zm_334 rfl dX7_subject_26 ?_
  rw [et]
  refine zw_Sa X hAd (As := [.int (nI tp)]) (rest := []) (d := 0) ⟨zm_335, zm_160, zm_26, zm_161, by decide, by decide, (show (parseMethodDescriptor yX2_wordOf.desc).map (fun d => d.parameters.length) = some 1 by decide +kernel)⟩ (fun sz => c_wordOf hls hD hn σ tp htp sz) rfl rfl (Nat.le_of_ble_eq_true rfl) ⟨Nat.le_of_ble_eq_true rfl, Nat.le_of_ble_eq_true rfl⟩ ⟨Nat.zero_le _, Nat.zero_le _⟩ dX7_subject_29 ?_
  refine zw_run X (is := [(32, .iconst 0, 1)]) (t' := (33, [some (.ref (ad 0)), some (.int (nI g)), some (.int (nI k)), some (.ref (ad (16 + g))), none], [.int 0, .ref (wa tp)])) ⟨dX7_subject_32, trivial⟩ rfl ?_
  rw [show (0 : Int32) = nI 0 from rfl]
  refine zw_Gi X hAd (As := [.int (nI 0)]) (rest := []) (d := 3) (zE_at tp (by omega) _ _ _ X.2.2.2.2.2.2.2.2.1).1 ⟨zm_336, zm_180, zm_181, zm_170, zm_182, rfl, by decide, by decide, (show (parseMethodDescriptor yJ0_charAt_5068e.desc).map (fun d => d.parameters.length) = some 1 by decide +kernel)⟩ (fun sz => c_charAt hls hD hn σ (wa tp) (wa (10 + tp)) (zlen tp) (zbyt tp) (by have := zlen_le tp (by omega); omega) (zE_at tp (by omega)) 0 (by have := zlen_le tp (by omega); omega) (zch tp (by omega) 0 (by have := zlen_le tp (by omega); omega)) sz) rfl rfl (Nat.le_of_ble_eq_true rfl) ⟨Nat.le_of_ble_eq_true rfl, Nat.le_of_ble_eq_true rfl⟩ ⟨Nat.zero_le _, Nat.zero_le _⟩ dX7_subject_33 ?_
  refine zw_run X (is := [(36, .istore 4, 2), (38, .aload_n 3, 1), (39, .iload_n 2, 1)]) (t' := (40, [some (.ref (ad 0)), some (.int (nI g)), some (.int (nI k)), some (.ref (ad (16 + g))), some (.int ((zbyt tp).getD 0 0))], [.int (nI k), .ref (ad (16 + g))])) ⟨dX7_subject_36, dX7_subject_38, dX7_subject_39, trivial⟩ rfl ?_
  refine zw_put X hD hAd (i := 16 + g) (by omega) (zc_P hg8) (C := RX4) (T := TX4) (Nf := 7) rfl zi_X4 tyX4 tyX4_ok nmX4 2 (by decide) rfl rfl zm_334 (ty := .int) (by decide +kernel) rfl rfl (Nat.le_of_ble_eq_true rfl) (zc_P hg8) dX7_subject_40 ?_
  refine zw_run X (is := [(43, .iload 4, 2)]) (t' := (45, [some (.ref (ad 0)), some (.int (nI g)), some (.int (nI k)), some (.ref (ad (16 + g))), some (.int ((zbyt tp).getD 0 0))], [.int ((zbyt tp).getD 0 0)])) ⟨dX7_subject_43, trivial⟩ rfl ?_
  exact zw_zret X hr dX7_subject_45 hnr rfl rfl rfl
end
