/-! put, callIn, year; the leaves' count. -/
def zupr (r : Nat) (σ : zS) (a : Nat) : Nat → zS
  | 0 => σ
  | d + 1 => zu (zupr r σ a d) r (a + d) (zupr r σ a d r (a + d + 1))
def zdnr (r : Nat) (σ : zS) (a : Nat) : Nat → zS
  | 0 => σ
  | d + 1 => zu (zdnr r σ a d) r (a - d) (zdnr r σ a d r (a - d - 1))
theorem zup_r (σ : zS) (a : Nat) : ∀ d, zup σ a d = zupr 2 σ a d
  | 0 => rfl
  | d + 1 => by
    show zu (zup σ a d) 2 (a + d) _ = zu (zupr 2 σ a d) 2 (a + d) _
    rw [zup_r σ a d]
theorem zdn_r (σ : zS) (a : Nat) : ∀ d, zdn σ a d = zdnr 2 σ a d
  | 0 => rfl
  | d + 1 => by
    show zu (zdn σ a d) 2 (a - d) _ = zu (zdnr 2 σ a d) 2 (a - d) _
    rw [zdn_r σ a d]
theorem zupr_off {r q : Nat} {σ : zS} {a : Nat} (h : q ≠ r) : ∀ {d : Nat}, zupr r σ a d q = σ q
  | 0 => rfl
  | d + 1 => by
    show zu (zupr r σ a d) r (a + d) _ q = _
    rw [zu_off h, zupr_off h]
theorem zdnr_off {r q : Nat} {σ : zS} {a : Nat} (h : q ≠ r) : ∀ {d : Nat}, zdnr r σ a d q = σ q
  | 0 => rfl
  | d + 1 => by
    show zu (zdnr r σ a d) r (a - d) _ q = _
    rw [zu_off h, zdnr_off h]
theorem zupr_at {r : Nat} {σ : zS} {a : Nat} : ∀ (d i : Nat), zupr r σ a d r i = if a ≤ i ∧ i < a + d then σ r (i + 1) else σ r i
  | 0, i => by
    rw [if_neg (by omega)]
    rfl
  | d + 1, i => by
    show zu (zupr r σ a d) r (a + d) _ r i = _
    by_cases e : i = a + d
    · subst e
      rw [zu_s, zupr_at d, if_neg (by omega), if_pos (by omega)]
    · rw [zu_n (fun q => e q.2), zupr_at d]
      by_cases h : a ≤ i ∧ i < a + d
      · rw [if_pos h, if_pos (by omega)]
      · rw [if_neg h, if_neg (by omega)]
theorem zdnr_at {r : Nat} {σ : zS} {a : Nat} : ∀ (d i : Nat), d ≤ a → zdnr r σ a d r i = if a - d < i ∧ i ≤ a then σ r (i - 1) else σ r i
  | 0, i, _ => by
    rw [if_neg (by omega)]
    rfl
  | d + 1, i, hd => by
    show zu (zdnr r σ a d) r (a - d) _ r i = _
    by_cases e : i = a - d
    · subst e
      rw [zu_s, zdnr_at d _ (by omega), if_neg (by omega), if_pos (by omega)]
    · rw [zu_n (fun q => e q.2), zdnr_at d _ (by omega)]
      by_cases h : a - d < i ∧ i ≤ a
      · rw [if_pos h, if_pos (by omega)]
      · rw [if_neg h, if_neg (by omega)]
/-- the place whose guild comes to the place i -/
def zrot (j q i : Nat) : Nat := if i = q then j else if j ≤ i ∧ i < q then i + 1 else if q < i ∧ i ≤ j then i - 1 else i
theorem zrot_at {r : Nat} {σ : zS} {j q : Nat} {v : Int32} (hv : σ r j = v) (i : Nat) : zu (zdnr r (zupr r σ j (q - j)) j (j - q)) r q v r i = σ r (zrot j q i) := by
  unfold zrot
  by_cases e : i = q
  · subst e
    rw [zu_s, if_pos rfl, hv]
  · rw [zu_n (fun h => e h.2), if_neg e, zdnr_at _ _ (by omega)]
    by_cases h1 : j ≤ i ∧ i < q
    · rw [if_pos h1, if_neg (by omega), zupr_at, if_pos (by omega)]
    · rw [if_neg h1]
      by_cases h2 : q < i ∧ i ≤ j
      · rw [if_pos h2, if_pos (by omega), zupr_at, if_neg (by omega)]
      · rw [if_neg h2, if_neg (by omega), zupr_at, if_neg (by omega)]
theorem zrot_lt {N j q i : Nat} (hj : j < N) (hq : q < N) (hi : i < N) : zrot j q i < N := by
  unfold zrot
  split
  · exact hj
  · split
    · omega
    · split <;> omega
theorem zrot_inj {j q i k : Nat} (h : zrot j q i = zrot j q k) : i = k := by
  unfold zrot at h
  split at h <;> split at h <;> (try split at h) <;> (try split at h) <;> (try split at h) <;> (try split at h) <;> omega
theorem zrot_sur {N j q k : Nat} (hj : j < N) (hq : q < N) (hk : k < N) : ∃ i, i < N ∧ zrot j q i = k := by
  by_cases e : k = j
  · exact ⟨q, hq, by unfold zrot; rw [if_pos rfl, e]⟩
  · by_cases h1 : j < k ∧ k ≤ q
    · exact ⟨k - 1, by omega, by unfold zrot; rw [if_neg (by omega), if_pos (by omega)]; omega⟩
    · by_cases h2 : q ≤ k ∧ k < j
      · exact ⟨k + 1, by omega, by unfold zrot; rw [if_neg (by omega), if_neg (by omega), if_pos (by omega)]; omega⟩
      · exact ⟨k, hk, by unfold zrot; rw [if_neg (by omega), if_neg (by omega), if_neg (by omega)]⟩

set_option maxHeartbeats 4000000 in
theorem zI_put {N y : Nat} {σ : zS} (hI : zI N y σ) (hN : N ≤ 6) {po : Nat → Nat} (hO : zO N po σ) {g j q : Nat} (hj : j < N) (hjg : po j = g) (hq : q < N) : zI N y (zu (zdnr 50 (zupr 50 (zu (zdnr 2 (zupr 2 σ j (q - j)) j (j - q)) 2 q (nI g)) j (q - j)) j (j - q)) 50 q (nI g)) := by
  obtain ⟨i1, i2, i3, i4, i5, i6, i7, i8, -⟩ := hI
  obtain ⟨o1, o2, o3⟩ := hO
  refine ⟨by simp (disch := omega) only [zu_off, zu_n, zu_s, zupr_off, zdnr_off]; first | done | exact i1, by simp (disch := omega) only [zu_off, zu_n, zu_s, zupr_off, zdnr_off]; first | done | exact i2, by simp (disch := omega) only [zu_off, zu_n, zu_s, zupr_off, zdnr_off]; first | done | exact i3, by simp (disch := omega) only [zu_off, zu_n, zu_s, zupr_off, zdnr_off]; first | done | exact i4, fun j hj => by simp (disch := omega) only [zu_off, zu_n, zu_s, zupr_off, zdnr_off]; first | done | exact i5 j hj, by simp (disch := omega) only [zu_off, zu_n, zu_s, zupr_off, zdnr_off]; first | done | exact i6, ?_, fun k hk => zJ_fr ⟨by simp (disch := omega) only [zu_off, zu_n, zu_s, zupr_off, zdnr_off], by simp (disch := omega) only [zu_off, zu_n, zu_s, zupr_off, zdnr_off], by simp (disch := omega) only [zu_off, zu_n, zu_s, zupr_off, zdnr_off], by simp (disch := omega) only [zu_off, zu_n, zu_s, zupr_off, zdnr_off], by simp (disch := omega) only [zu_off, zu_n, zu_s, zupr_off, zdnr_off], by simp (disch := omega) only [zu_off, zu_n, zu_s, zupr_off, zdnr_off], by simp (disch := omega) only [zu_off, zu_n, zu_s, zupr_off, zdnr_off], by simp (disch := omega) only [zu_off, zu_n, zu_s, zupr_off, zdnr_off], by simp (disch := omega) only [zu_off, zu_n, zu_s, zupr_off, zdnr_off], by simp (disch := omega) only [zu_off, zu_n, zu_s, zupr_off, zdnr_off], by simp (disch := omega) only [zu_off, zu_n, zu_s, zupr_off, zdnr_off], by simp (disch := omega) only [zu_off, zu_n, zu_s, zupr_off, zdnr_off], by simp (disch := omega) only [zu_off, zu_n, zu_s, zupr_off, zdnr_off], by simp (disch := omega) only [zu_off, zu_n, zu_s, zupr_off, zdnr_off]⟩ (i8 k hk), fun i => po (zrot j q i), ⟨fun k hk => ⟨(o1 _ (zrot_lt hj hq hk)).1, ?_, ?_⟩, fun a b ha hb h => zrot_inj (o2 _ _ (zrot_lt hj hq ha) (zrot_lt hj hq hb) h), fun v hv => ?_⟩⟩
  · exact (zms_congr (by simp (disch := omega) only [zu_off, zu_n, zu_s, zupr_off, zdnr_off]) N (fun k hk => by simp (disch := omega) only [zu_off, zu_n, zu_s, zupr_off, zdnr_off])).trans (i7.trans (by simp (disch := omega) only [zu_off, zu_n, zu_s, zupr_off, zdnr_off]))
  · rw [zu_off (by omega), zdnr_off (by omega), zupr_off (by omega), zrot_at (by rw [(o1 j hj).2.1, hjg])]
    exact (o1 _ (zrot_lt hj hq hk)).2.1
  · have e : ∀ i, (zu (zdnr 2 (zupr 2 σ j (q - j)) j (j - q)) 2 q (nI g)) 50 i = σ 50 i := fun i => by rw [zu_off (by omega), zdnr_off (by omega), zupr_off (by omega)]
    rw [zrot_at (by rw [e, (o1 j hj).2.2, hjg]), e]
    exact (o1 _ (zrot_lt hj hq hk)).2.2
  · obtain ⟨k, hk, hkv⟩ := o3 v hv
    obtain ⟨i, hi, hik⟩ := zrot_sur hj hq hk
    exact ⟨i, hi, by show po (zrot j q i) = v; rw [hik]; exact hkv⟩

def zly (σ : zS) (E : Nat → Nat) : Nat → zS
  | 0 => σ
  | k + 1 => zu (zly σ E k) 43 k (nI (E k - 30))
theorem zly_off {σ : zS} {E : Nat → Nat} {a : Nat} (h : a ≠ 43) : ∀ {k : Nat}, zly σ E k a = σ a
  | 0 => rfl
  | k + 1 => by
    show zu (zly σ E k) 43 k _ a = _
    rw [zu_off h, zly_off h]
theorem zly_hi {σ : zS} {E : Nat → Nat} {g : Nat} : ∀ k, k ≤ g → zly σ E k 43 g = σ 43 g
  | 0, _ => rfl
  | k + 1, h => by
    show zu (zly σ E k) 43 k _ 43 g = _
    rw [zu_n (by omega), zly_hi k (by omega)]
theorem zly_lo {σ : zS} {E : Nat → Nat} {g : Nat} : ∀ k, g < k → zly σ E k 43 g = nI (E g - 30)
  | 0, h => absurd h (by omega)
  | k + 1, h => by
    show zu (zly σ E k) 43 k _ 43 g = _
    by_cases e : g = k
    · subst e
      exact zu_s
    · rw [zu_n (by omega), zly_lo k (by omega)]
theorem zyr_n {σ : zS} {E : Nat → Nat} {a b k : Nat} (h : ¬ (b = 3 ∧ 16 ≤ a ∧ a < 16 + k)) : zyr σ E k a b = σ a b := by
  induction k with
  | zero => rfl
  | succ k ih =>
    show zu (zyr σ E k) (16 + k) 3 _ a b = σ a b
    rw [zu_n (by omega), ih (by omega)]
theorem zyr_off2 {σ : zS} {E : Nat → Nat} {a k : Nat} (h : ¬ (16 ≤ a ∧ a < 16 + k)) : zyr σ E k a = σ a := funext fun b => zyr_n (fun q => h q.2)

set_option maxHeartbeats 4000000 in
theorem zI_year {N y : Nat} {σ : zS} (hI : zI N y σ) (hN : N ≤ 6) {Ef : Nat → Nat} (hE : ∀ k, k < N → σ 43 k = nI (Ef k) ∧ Ef k ≤ 100) : zI N (y + 1) (zyr (zu (zu (zly σ Ef N) 0 12 (nI (y + 1))) 0 15 0) Ef N) := by
  obtain ⟨i1, i2, i3, i4, i5, i6, i7, i8, po, i9⟩ := hI
  refine ⟨by simp (disch := omega) only [zyr_off2, zyr_n, zyr_lo, zu_off, zu_n, zu_s, zly_off, zly_lo]; first | done | exact i1, by simp (disch := omega) only [zyr_off2, zyr_n, zyr_lo, zu_off, zu_n, zu_s, zly_off, zly_lo], by simp (disch := omega) only [zyr_off2, zyr_n, zyr_lo, zu_off, zu_n, zu_s, zly_off, zly_lo], by simp (disch := omega) only [zyr_off2, zyr_n, zyr_lo, zu_off, zu_n, zu_s, zly_off, zly_lo]; first | done | exact i4, fun j hj => by simp (disch := omega) only [zyr_off2, zyr_n, zyr_lo, zu_off, zu_n, zu_s, zly_off, zly_lo]; first | done | exact i5 j hj, by simp (disch := omega) only [zyr_off2, zyr_n, zyr_lo, zu_off, zu_n, zu_s, zly_off, zly_lo]; first | done | exact i6, ?_, fun k hk => ?_, po, zO_fr (by simp (disch := omega) only [zyr_off2, zyr_n, zyr_lo, zu_off, zu_n, zu_s, zly_off, zly_lo]) (by simp (disch := omega) only [zyr_off2, zyr_n, zyr_lo, zu_off, zu_n, zu_s, zly_off, zly_lo]) i9⟩
  · exact (zms_congr (by simp (disch := omega) only [zyr_off2, zyr_n, zyr_lo, zu_off, zu_n, zu_s, zly_off, zly_lo]) N (fun k hk => by simp (disch := omega) only [zyr_off2, zyr_n, zyr_lo, zu_off, zu_n, zu_s, zly_off, zly_lo])).trans (i7.trans (by simp (disch := omega) only [zyr_off2, zyr_n, zyr_lo, zu_off, zu_n, zu_s, zly_off, zly_lo]))
  · obtain ⟨j1, j2, j3, j4, j5, j6, ⟨T, B, t1, t2, t3, t4, t5, t6, t7, t8⟩, ⟨P, p1, p2, p3, p4⟩, ⟨w, w1, w2, w3⟩, ⟨E, e1, e2, e3⟩, r1, r2⟩ := i8 k hk
    refine ⟨(by simp (disch := omega) only [zyr_off2, zyr_n, zyr_lo, zu_off, zu_n, zu_s, zly_off, zly_lo]; first | done | exact j1), (by simp (disch := omega) only [zyr_off2, zyr_n, zyr_lo, zu_off, zu_n, zu_s, zly_off, zly_lo]; first | done | exact j2), (by simp (disch := omega) only [zyr_off2, zyr_n, zyr_lo, zu_off, zu_n, zu_s, zly_off, zly_lo]; first | done | exact j3), (by simp (disch := omega) only [zyr_off2, zyr_n, zyr_lo, zu_off, zu_n, zu_s, zly_off, zly_lo]; first | done | exact j4), (by simp (disch := omega) only [zyr_off2, zyr_n, zyr_lo, zu_off, zu_n, zu_s, zly_off, zly_lo]; first | done | exact j5), (by simp (disch := omega) only [zyr_off2, zyr_n, zyr_lo, zu_off, zu_n, zu_s, zly_off, zly_lo]; first | done | exact j6), ⟨T, B, (by simp (disch := omega) only [zyr_off2, zyr_n, zyr_lo, zu_off, zu_n, zu_s, zly_off, zly_lo]; first | done | exact t1), t2, t3, t4, (by simp (disch := omega) only [zyr_off2, zyr_n, zyr_lo, zu_off, zu_n, zu_s, zly_off, zly_lo]; first | done | exact t5), (by simp (disch := omega) only [zyr_off2, zyr_n, zyr_lo, zu_off, zu_n, zu_s, zly_off, zly_lo]; first | done | exact t6), (by simp (disch := omega) only [zyr_off2, zyr_n, zyr_lo, zu_off, zu_n, zu_s, zly_off, zly_lo]; first | done | exact t7), fun j h1 h2 => (by simp (disch := omega) only [zyr_off2, zyr_n, zyr_lo, zu_off, zu_n, zu_s, zly_off, zly_lo]; first | done | exact t8 j h1 h2)⟩, ⟨P, p1, p2, (by simp (disch := omega) only [zyr_off2, zyr_n, zyr_lo, zu_off, zu_n, zu_s, zly_off, zly_lo]; first | done | exact p3), (by simp (disch := omega) only [zyr_off2, zyr_n, zyr_lo, zu_off, zu_n, zu_s, zly_off, zly_lo]; first | done | exact p4)⟩, ⟨w, w1, (by simp (disch := omega) only [zyr_off2, zyr_n, zyr_lo, zu_off, zu_n, zu_s, zly_off, zly_lo]; first | done | exact w2), (by simp (disch := omega) only [zyr_off2, zyr_n, zyr_lo, zu_off, zu_n, zu_s, zly_off, zly_lo]; first | done | exact w3)⟩, ⟨Ef k - 30, by have := (hE k hk).2; omega, by rw [zyr_lo N hk], by rw [zyr_off2 (by omega), zu_off (by omega), zu_off (by omega), zly_lo N hk]⟩, fun j hj => (by simp (disch := omega) only [zyr_off2, zyr_n, zyr_lo, zu_off, zu_n, zu_s, zly_off, zly_lo]; first | done | exact r1 j hj), fun j hj => (by simp (disch := omega) only [zyr_off2, zyr_n, zyr_lo, zu_off, zu_n, zu_s, zly_off, zly_lo]; first | done | exact r2 j hj)⟩

def zlc (σ : zS) : Nat → zS
  | 0 => σ
  | k + 1 => zz (zu (zu (zlc σ k) 41 k (zlc σ k 41 k + zlc σ k 42 k)) 42 k 0) (51 + 2 * k)
theorem zlc_off {σ : zS} {a : Nat} (h1 : a ≠ 41) (h2 : a ≠ 42) (h3 : a < 51 ∨ a % 2 = 0) : ∀ {k : Nat}, zlc σ k a = σ a
  | 0 => rfl
  | k + 1 => by
    show zz (zu (zu (zlc σ k) 41 k _) 42 k 0) (51 + 2 * k) a = _
    rw [zz_n (by omega), zu_off h2, zu_off h1, zlc_off h1 h2 h3]
theorem zlc_hi {σ : zS} {a g : Nat} (h3 : a = 41 ∨ a = 42) : ∀ k, k ≤ g → zlc σ k a g = σ a g
  | 0, _ => rfl
  | k + 1, h => by
    show zz (zu (zu (zlc σ k) 41 k _) 42 k 0) (51 + 2 * k) a g = _
    rw [zz_n (by omega), zu_n (by omega), zu_n (by omega), zlc_hi h3 k (by omega)]
theorem zlc_41 {σ : zS} {g : Nat} : ∀ k, g < k → zlc σ k 41 g = σ 41 g + σ 42 g
  | 0, h => absurd h (by omega)
  | k + 1, h => by
    show zz (zu (zu (zlc σ k) 41 k _) 42 k 0) (51 + 2 * k) 41 g = _
    rw [zz_n (by omega), zu_n (by omega)]
    by_cases e : g = k
    · subst e
      rw [zu_s, zlc_hi (Or.inl rfl) g (Nat.le_refl _), zlc_hi (Or.inr rfl) g (Nat.le_refl _)]
    · rw [zu_n (by omega), zlc_41 k (by omega)]
theorem zlc_42 {σ : zS} {g : Nat} : ∀ k, g < k → zlc σ k 42 g = 0
  | 0, h => absurd h (by omega)
  | k + 1, h => by
    show zz (zu (zu (zlc σ k) 41 k _) 42 k 0) (51 + 2 * k) 42 g = _
    rw [zz_n (by omega)]
    by_cases e : g = k
    · subst e
      rw [zu_s]
    · rw [zu_n (by omega), zu_n (by omega), zlc_42 k (by omega)]
theorem zlc_L {σ : zS} {g : Nat} : ∀ k, g < k → zlc σ k (51 + 2 * g) = fun _ => 0
  | 0, h => absurd h (by omega)
  | k + 1, h => by
    show zz (zu (zu (zlc σ k) 41 k _) 42 k 0) (51 + 2 * k) (51 + 2 * g) = _
    by_cases e : g = k
    · subst e
      exact zz_s
    · rw [zz_n (by omega), zu_off (by omega), zu_off (by omega), zlc_L k (by omega)]
theorem zcl_at {σ : zS} {i : Nat} : ∀ (n j : Nat), zcl σ i n i j = if j < n then 0 else σ i j
  | 0, j => by
    rw [if_neg (by omega)]
    rfl
  | n + 1, j => by
    show zu (zcl σ i n) i n 0 i j = _
    by_cases e : j = n
    · subst e
      rw [zu_s, if_pos (by omega)]
    · rw [zu_n (fun q => e q.2), zcl_at n]
      by_cases h : j < n
      · rw [if_pos h, if_pos (by omega)]
      · rw [if_neg h, if_neg (by omega)]
theorem zca_4 {σ : zS} {T : Nat → Nat} {g : Nat} : ∀ k, g < k → k ≤ 8 → zca σ T k (16 + g) 4 = nI (T g)
  | 0, h, _ => absurd h (by omega)
  | k + 1, h, h8 => by
    show zbb (zca σ T k) k (T k) (16 + g) 4 = _
    by_cases e : g = k
    · subst e
      unfold zbb
      rw [zcl_off (by omega), zu_s]
    · rw [zbb_off (by omega) (by omega), zca_4 k (by omega) (by omega)]
theorem zca_no {σ : zS} {T : Nat → Nat} {g : Nat} (hg : g < 8) : ∀ k, k ≤ g → zca σ T k (32 + g) = σ (32 + g)
  | 0, _ => rfl
  | k + 1, h => by
    funext j
    show zbb (zca σ T k) k (T k) (32 + g) j = _
    rw [zbb_off (by omega) (by omega), zca_no hg k (by omega)]
theorem zca_L {σ : zS} {T : Nat → Nat} {g j : Nat} : ∀ k, g < k → k ≤ 8 → zca σ T k (32 + g) j = if j < (T g + 39) / 40 then 0 else σ (32 + g) j
  | 0, h, _ => absurd h (by omega)
  | k + 1, h, h8 => by
    show zbb (zca σ T k) k (T k) (32 + g) j = _
    by_cases e : g = k
    · subst e
      unfold zbb
      rw [zcl_at, zu_off (by omega), zca_no (by omega) g (Nat.le_refl _)]
    · rw [zbb_off (by omega) (by omega), zca_L k (by omega) (by omega)]
theorem zca_n {σ : zS} {T : Nat → Nat} {a b k : Nat} (hk : k ≤ 8) (h1 : a < 32 ∨ 40 ≤ a) (h2 : b ≠ 4 ∨ a < 16 ∨ 24 ≤ a) : zca σ T k a b = σ a b := zca_off h1 h2 k hk
theorem zca_off2 {σ : zS} {T : Nat → Nat} {a k : Nat} (hk : k ≤ 8) (h1 : a < 16 ∨ (24 ≤ a ∧ a < 32) ∨ 40 ≤ a) : zca σ T k a = σ a := funext fun b => zca_off (by omega) (by omega) k hk

set_option maxHeartbeats 4000000 in
theorem zI_callIn {N y : Nat} {σ : zS} (hI : zI N y σ) (hN : N ≤ 6) {Tf : Nat → Nat} (hT : ∀ k, k < N → σ (16 + k) 0 = nI (Tf k) ∧ Tf k ≤ 600) : zI N y (zca (zlc σ N) Tf N) := by
  obtain ⟨i1, i2, i3, i4, i5, i6, i7, i8, po, i9⟩ := hI
  refine ⟨by simp (disch := omega) only [zca_off2, zca_n, zlc_off]; first | done | exact i1, by simp (disch := omega) only [zca_off2, zca_n, zlc_off]; first | done | exact i2, by simp (disch := omega) only [zca_off2, zca_n, zlc_off]; first | done | exact i3, by simp (disch := omega) only [zca_off2, zca_n, zlc_off]; first | done | exact i4, fun j hj => by simp (disch := omega) only [zca_off2, zca_n, zlc_off]; first | done | exact i5 j hj, by simp (disch := omega) only [zca_off2, zca_n, zlc_off]; first | done | exact i6, ?_, fun k hk => ?_, po, zO_fr (by simp (disch := omega) only [zca_off2, zca_n, zlc_off]) (by simp (disch := omega) only [zca_off2, zca_n, zlc_off]) i9⟩
  · exact (zms_congr (by simp (disch := omega) only [zca_off2, zca_n, zlc_off]) N (fun k hk => by simp (disch := omega) only [zca_off2, zca_n, zlc_off])).trans (i7.trans (by simp (disch := omega) only [zca_off2, zca_n, zlc_off]))
  · obtain ⟨j1, j2, j3, j4, j5, j6, ⟨T, B, t1, t2, t3, t4, t5, t6, t7, t8⟩, ⟨P, p1, p2, p3, p4⟩, ⟨w, w1, w2, w3⟩, ⟨E, e1, e2, e3⟩, r1, r2⟩ := i8 k hk
    obtain ⟨hT1, hT2⟩ := hT k hk
    have hTT : Tf k = T := (nI_eq (by omega) (by omega)).mp (hT1.symm.trans t1)
    refine ⟨(by simp (disch := omega) only [zca_off2, zca_n, zlc_off]; first | done | exact j1), (by simp (disch := omega) only [zca_off2, zca_n, zlc_off]; first | done | exact j2), (by simp (disch := omega) only [zca_off2, zca_n, zlc_off]; first | done | exact j3), (by simp (disch := omega) only [zca_off2, zca_n, zlc_off]; first | done | exact j4), (by simp (disch := omega) only [zca_off2, zca_n, zlc_off]; first | done | exact j5), (by simp (disch := omega) only [zca_off2, zca_n, zlc_off]; first | done | exact j6), ⟨T, T, (by simp (disch := omega) only [zca_off2, zca_n, zlc_off]; first | done | exact t1), t2, Nat.le_refl _, by omega, by rw [zca_4 N hk (by omega), hTT], ?_, ?_, fun j h1 h2 => ?_⟩, ⟨P, p1, p2, (by simp (disch := omega) only [zca_off2, zca_n, zlc_off]; first | done | exact p3), (by simp (disch := omega) only [zca_off2, zca_n, zlc_off]; first | done | exact p4)⟩, ⟨w, w1, (by simp (disch := omega) only [zca_off2, zca_n, zlc_off]; first | done | exact w2), (by simp (disch := omega) only [zca_off2, zca_n, zlc_off]; first | done | exact w3)⟩, ⟨E, e1, (by simp (disch := omega) only [zca_off2, zca_n, zlc_off]; first | done | exact e2), (by simp (disch := omega) only [zca_off2, zca_n, zlc_off]; first | done | exact e3)⟩, fun j hj => (by simp (disch := omega) only [zca_off2, zca_n, zlc_off]; first | done | exact r1 j hj), fun j hj => ?_⟩
    · rw [zca_off2 (by omega) (by omega), zlc_41 N hk, t6, t7, nI_add]
      exact congrArg nI (by omega)
    · rw [zca_off2 (by omega) (by omega), zlc_42 N hk, Nat.sub_self]
      rfl
    · rw [zca_L N hk (by omega), if_neg (by omega), zlc_off (by omega) (by omega) (by omega)]
      exact t8 j (by omega) h2
    · rw [zca_off2 (by omega) (by omega), zlc_L N hk, zca_L N hk (by omega)]
      by_cases h : j < (Tf k + 39) / 40
      · rw [if_pos h]
      · rw [if_neg h, zlc_off (by omega) (by omega) (by omega)]
        exact (t8 j (by omega) hj).symm

def zco (lo : Nat → Int32) : Nat → Nat
  | 0 => 0
  | j + 1 => zco lo j + (if lo (j / 40) = 0 then 1 else 0)
theorem zco_leaf (lo : Nat → Int32) (k : Nat) : ∀ d, d ≤ 40 → zco lo (k * 40 + d) = zco lo (k * 40) + (if lo k = 0 then d else 0)
  | 0, _ => by
    split <;> rfl
  | d + 1, h => by
    show zco lo (k * 40 + d) + (if lo ((k * 40 + d) / 40) = 0 then 1 else 0) = _
    rw [zco_leaf lo k d (by omega), show (k * 40 + d) / 40 = k by omega]
    by_cases hl : lo k = 0
    · rw [if_pos hl, if_pos hl, if_pos hl]
      omega
    · rw [if_neg hl, if_neg hl, if_neg hl]
theorem zco_kn (lo : Nat → Int32) (b : Nat) : ∀ k, zkn lo b k = zco lo (min b (k * 40))
  | 0 => by
    rw [Nat.zero_mul, Nat.min_zero]
    rfl
  | k + 1 => by
    show zkn lo b k + (if lo k = 0 then min b ((k + 1) * 40) - k * 40 else 0) = _
    rw [zco_kn lo b k]
    by_cases h : k * 40 ≤ b
    · obtain ⟨d, hd, hd2⟩ : ∃ d, d ≤ 40 ∧ min b ((k + 1) * 40) = k * 40 + d := ⟨min b ((k + 1) * 40) - k * 40, by omega, by omega⟩
      rw [hd2, zco_leaf lo k d hd, show min b (k * 40) = k * 40 by omega, show k * 40 + d - k * 40 = d by omega]
    · rw [show min b ((k + 1) * 40) = b by omega, show min b (k * 40) = b by omega, show b - k * 40 = 0 by omega]
      split <;> rfl
theorem zco_all (lo : Nat → Int32) (b : Nat) : zkn lo b ((b + 39) / 40) = zco lo b := by
  rw [zco_kn, show min b ((b + 39) / 40 * 40) = b by omega]
