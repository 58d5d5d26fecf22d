/-! The law's beginning: the town, the arrays, the guilds. -/
def zpk (τ : zS) (r : Nat) : Nat → zS
  | 0 => τ
  | j + 1 => zu (zpk τ r j) r j (-1)
theorem zpk_off {τ : zS} {r a : Nat} (h : a ≠ r) : ∀ {j : Nat}, zpk τ r j a = τ a
  | 0 => rfl
  | j + 1 => by
    show zu (zpk τ r j) r j (-1) a = _
    rw [zu_off h, zpk_off h]
theorem zpk_at {τ : zS} {r : Nat} : ∀ (n j : Nat), j < n → zpk τ r n r j = -1
  | 0, _, h => absurd h (by omega)
  | n + 1, j, h => by
    show zu (zpk τ r n) r n (-1) r j = _
    by_cases e : j = n
    · subst e
      exact zu_s
    · rw [zu_n (fun q => e q.2), zpk_at n j (by omega)]
def zFs (σ : zS) (i : Nat) : Prop := σ (8 + i) 1 = 0 ∧ σ (8 + i) 2 = 0 ∧ σ (8 + i) 3 = 3 ∧ σ (8 + i) 5 = 5 ∧ σ (16 + i) 2 = 0 ∧ σ (16 + i) 3 = 0 ∧ (∀ j, j < 8 → σ (24 + i) j = -1) ∧ (∀ j, j < 15 → σ (32 + i) j = 0) ∧ σ 42 i = 0 ∧ σ 43 i = 0 ∧ σ 47 i = 0 ∧ ∀ j, j < 15 → σ (51 + 2 * i) j = 0
def zSt (N k : Nat) (σ : zS) : Prop := σ 0 11 = nI k ∧ σ 0 12 = 0 ∧ σ 0 15 = 0 ∧ σ 3 2 = 0 ∧ (∀ j, j < 10 → σ 6 j = 0) ∧ σ 4 1 = 0 ∧ σ 0 13 = 0 ∧ zms σ k = 0 ∧ (∀ i, i < k → zJ σ i) ∧ (∀ i, i < k → σ 2 i = nI i ∧ σ 50 i = nI i) ∧ ∀ i, k ≤ i → i < N → zFs σ i
theorem zSt_0 {N : Nat} (hN : N ≤ 6) : zSt N 0 zs0 := by
  refine ⟨rfl, rfl, rfl, rfl, fun _ _ => rfl, rfl, rfl, rfl, fun i h => absurd h (by omega), fun i h => absurd h (by omega), fun i _ hi => ?_⟩
  have h1 : ∀ i, i < 8 → zs0 (8 + i) 1 = 0 ∧ zs0 (8 + i) 2 = 0 ∧ zs0 (8 + i) 3 = 3 ∧ zs0 (8 + i) 5 = 5 ∧ zs0 (16 + i) 2 = 0 ∧ zs0 (16 + i) 3 = 0 ∧ ∀ j, j < 8 → zs0 (24 + i) j = -1 := by decide +kernel
  obtain ⟨g1, g2, g3, g4, g5, g6, g7⟩ := h1 i (by omega)
  exact ⟨g1, g2, g3, g4, g5, g6, g7, fun j hj => by rw [zs0_hi (by omega)], by rw [zs0_hi (by omega)], by rw [zs0_hi (by omega)], by rw [zs0_hi (by omega)], fun j hj => by rw [zs0_hi (by omega)]⟩
theorem zSt_I {N : Nat} {σ : zS} (h : zSt N N σ) : zI N 0 σ := by
  obtain ⟨s1, s2, s3, s4, s5, s6, s7, s8, s9, s10, -⟩ := h
  refine ⟨s1, s2, s3, s4, s5, by rw [s6]; decide, s8.trans s7.symm, s9, fun i => i, fun k hk => ⟨hk, s10 k hk⟩, fun i j _ _ h => h, fun g hg => ⟨g, hg, rfl⟩⟩
theorem zms_14 {σ σ' : zS} {x : Int32} (h14 : σ' 0 14 = σ 0 14 + x) : ∀ N, (∀ k, k < N → σ' (8 + k) 0 = σ (8 + k) 0) → zms σ' N = zms σ N + x
  | 0, _ => h14
  | N + 1, h => by
    show zms σ' N - σ' (8 + N) 0 = zms σ N - σ (8 + N) 0 + x
    rw [zms_14 h14 N (fun k hk => h k (by omega)), h N (by omega), Int32.sub_eq_add_neg, Int32.sub_eq_add_neg, Int32.add_assoc, Int32.add_assoc, Int32.add_comm x]

set_option maxHeartbeats 4000000 in
theorem zSt_step {N k : Nat} {σ : zS} (h : zSt N k σ) (hN : N ≤ 6) (hk : k < N) {w lc pc : Nat} (hw : w < 10000) (hl1 : 20 ≤ lc) (hl2 : lc ≤ 400) (hp1 : 1 ≤ pc) (hp2 : pc ≤ 8) : zSt N (k + 1) (zu (zu (zu (zu (zu (zu (zu (zpk (zu (zu (zu (zu (zu (zu σ 40 k (nI w)) 41 k (nI lc)) 45 k (nI pc)) 44 k 5) 46 k 99) 50 k (nI k)) (52 + 2 * k) 8) (8 + k) 0 (nI w)) (16 + k) 0 (nI lc)) (16 + k) 4 (nI lc)) (16 + k) 1 (nI pc)) 0 14 ((zpk (zu (zu (zu (zu (zu (zu σ 40 k (nI w)) 41 k (nI lc)) 45 k (nI pc)) 44 k 5) 46 k 99) 50 k (nI k)) (52 + 2 * k) 8) 0 14 + nI w)) 2 k (nI k)) 0 11 ((zpk (zu (zu (zu (zu (zu (zu σ 40 k (nI w)) 41 k (nI lc)) 45 k (nI pc)) 44 k 5) 46 k 99) 50 k (nI k)) (52 + 2 * k) 8) 0 11 + 1)) := by
  obtain ⟨s1, s2, s3, s4, s5, s6, s7, s8, s9, s10, s11⟩ := h
  obtain ⟨f1, f2, f3, f4, f5, f6, f7, f8, f9, f10, f11, f12⟩ := s11 k (Nat.le_refl _) hk
  refine ⟨?_, (by simp (disch := omega) only [zu_off, zu_n, zu_s, zpk_off]; first | done | exact s2), (by simp (disch := omega) only [zu_off, zu_n, zu_s, zpk_off]; first | done | exact s3), (by simp (disch := omega) only [zu_off, zu_n, zu_s, zpk_off]; first | done | exact s4), fun j hj => (by simp (disch := omega) only [zu_off, zu_n, zu_s, zpk_off]; first | done | exact s5 j hj), (by simp (disch := omega) only [zu_off, zu_n, zu_s, zpk_off]; first | done | exact s6), (by simp (disch := omega) only [zu_off, zu_n, zu_s, zpk_off]; first | done | exact s7), ?_, fun i hi => ?_, fun i hi => ?_, fun i hi1 hi2 => ?_⟩
  · simp (disch := omega) only [zu_off, zu_n, zu_s, zpk_off]
    rw [s1, nI_1]
  · show zms _ k - _ = _
    rw [zms_14 (σ := σ) (x := nI w) (by simp (disch := omega) only [zu_off, zu_n, zu_s, zpk_off]) k (fun i hi => by simp (disch := omega) only [zu_off, zu_n, zu_s, zpk_off]), s8]
    simp (disch := omega) only [zu_off, zu_n, zu_s, zpk_off]
    rw [Int32.zero_add, Int32.sub_self]
  · by_cases ei : i = k
    · subst ei
      refine ⟨by simp (disch := omega) only [zu_off, zu_n, zu_s, zpk_off], (by simp (disch := omega) only [zu_off, zu_n, zu_s, zpk_off]; first | done | exact f1), (by simp (disch := omega) only [zu_off, zu_n, zu_s, zpk_off]; rw [f2, f11]), Or.inl (by simp (disch := omega) only [zu_off, zu_n, zu_s, zpk_off]; first | done | exact f11), (by simp (disch := omega) only [zu_off, zu_n, zu_s, zpk_off]; rw [f4]), ?_, ⟨lc, lc, by simp (disch := omega) only [zu_off, zu_n, zu_s, zpk_off], by omega, Nat.le_refl _, hl1, by simp (disch := omega) only [zu_off, zu_n, zu_s, zpk_off], by simp (disch := omega) only [zu_off, zu_n, zu_s, zpk_off], ?_, fun j h1 h2 => (by simp (disch := omega) only [zu_off, zu_n, zu_s, zpk_off]; first | done | exact f8 j h2)⟩, ⟨pc, hp1, hp2, by simp (disch := omega) only [zu_off, zu_n, zu_s, zpk_off], by simp (disch := omega) only [zu_off, zu_n, zu_s, zpk_off]⟩, ⟨0, by decide, ?_, ?_⟩, ⟨0, by decide, ?_, ?_⟩, fun j hj => ?_, fun j hj => ?_⟩
      · simp (disch := omega) only [zu_off, zu_n, zu_s, zpk_off]
        rw [f3]
        decide
      · simp (disch := omega) only [zu_off, zu_n, zu_s, zpk_off]
        rw [f9, Nat.sub_self]
        rfl
      · simp (disch := omega) only [zu_off, zu_n, zu_s, zpk_off]
        rw [f5]
        rfl
      · simp (disch := omega) only [zu_off, zu_n, zu_s, zpk_off]
        rfl
      · simp (disch := omega) only [zu_off, zu_n, zu_s, zpk_off]
        rw [f6]
        rfl
      · simp (disch := omega) only [zu_off, zu_n, zu_s, zpk_off]
        rw [f10]
        rfl
      · rw [show ∀ τ : zS, (zu (zu (zu (zu (zu (zu (zu τ (8 + i) 0 (nI w)) (16 + i) 0 (nI lc)) (16 + i) 4 (nI lc)) (16 + i) 1 (nI pc)) 0 14 (τ 0 14 + nI w)) 2 i (nI i)) 0 11 (τ 0 11 + 1)) (52 + 2 * i) j = τ (52 + 2 * i) j from fun τ => by simp (disch := omega) only [zu_off, zu_n, zu_s, zpk_off], zpk_at 8 j hj]
        simp (disch := omega) only [zu_off, zu_n, zu_s, zpk_off]
        rw [f7 j hj]
      · simp (disch := omega) only [zu_off, zu_n, zu_s, zpk_off]
        rw [f12 j hj, f8 j hj]
    · exact zJ_fr ⟨by simp (disch := omega) only [zu_off, zu_n, zu_s, zpk_off], by simp (disch := omega) only [zu_off, zu_n, zu_s, zpk_off], by simp (disch := omega) only [zu_off, zu_n, zu_s, zpk_off], by simp (disch := omega) only [zu_off, zu_n, zu_s, zpk_off], by simp (disch := omega) only [zu_off, zu_n, zu_s, zpk_off], by simp (disch := omega) only [zu_off, zu_n, zu_s, zpk_off], by simp (disch := omega) only [zu_off, zu_n, zu_s, zpk_off], by simp (disch := omega) only [zu_off, zu_n, zu_s, zpk_off], by simp (disch := omega) only [zu_off, zu_n, zu_s, zpk_off], by simp (disch := omega) only [zu_off, zu_n, zu_s, zpk_off], by simp (disch := omega) only [zu_off, zu_n, zu_s, zpk_off], by simp (disch := omega) only [zu_off, zu_n, zu_s, zpk_off], by simp (disch := omega) only [zu_off, zu_n, zu_s, zpk_off], by simp (disch := omega) only [zu_off, zu_n, zu_s, zpk_off]⟩ (s9 i (by omega))
  · by_cases ei : i = k
    · subst ei
      exact ⟨by simp (disch := omega) only [zu_off, zu_n, zu_s, zpk_off], by simp (disch := omega) only [zu_off, zu_n, zu_s, zpk_off]⟩
    · obtain ⟨g1, g2⟩ := s10 i (by omega)
      exact ⟨(by simp (disch := omega) only [zu_off, zu_n, zu_s, zpk_off]; first | done | exact g1), (by simp (disch := omega) only [zu_off, zu_n, zu_s, zpk_off]; first | done | exact g2)⟩
  · obtain ⟨g1, g2, g3, g4, g5, g6, g7, g8, g9, g10, g11, g12⟩ := s11 i (by omega) hi2
    exact ⟨(by simp (disch := omega) only [zu_off, zu_n, zu_s, zpk_off]; first | done | exact g1), (by simp (disch := omega) only [zu_off, zu_n, zu_s, zpk_off]; first | done | exact g2), (by simp (disch := omega) only [zu_off, zu_n, zu_s, zpk_off]; first | done | exact g3), (by simp (disch := omega) only [zu_off, zu_n, zu_s, zpk_off]; first | done | exact g4), (by simp (disch := omega) only [zu_off, zu_n, zu_s, zpk_off]; first | done | exact g5), (by simp (disch := omega) only [zu_off, zu_n, zu_s, zpk_off]; first | done | exact g6), fun j hj => (by simp (disch := omega) only [zu_off, zu_n, zu_s, zpk_off]; first | done | exact g7 j hj), fun j hj => (by simp (disch := omega) only [zu_off, zu_n, zu_s, zpk_off]; first | done | exact g8 j hj), (by simp (disch := omega) only [zu_off, zu_n, zu_s, zpk_off]; first | done | exact g9), (by simp (disch := omega) only [zu_off, zu_n, zu_s, zpk_off]; first | done | exact g10), (by simp (disch := omega) only [zu_off, zu_n, zu_s, zpk_off]; first | done | exact g11), fun j hj => (by simp (disch := omega) only [zu_off, zu_n, zu_s, zpk_off]; first | done | exact g12 j hj)⟩
