/-! ===== the tree: ways up ===== -/
def zrB (P : Nat → Int32) : Nat → Nat → Bool
  | 0, a => decide (a = 0)
  | k + 1, a => decide (a = 0) || zrB P k (P a).toNatClampNeg
theorem zrB_iff (P : Nat → Int32) : ∀ k a, zrB P k a = true ↔ zro P k a
  | 0, a => by simp only [zrB, zro, decide_eq_true_eq]
  | k + 1, a => by simp only [zrB, zro, Bool.or_eq_true, decide_eq_true_eq, zrB_iff P k]
theorem zro_z (P : Nat → Int32) : ∀ k, zro P k 0
  | 0 => rfl
  | _ + 1 => Or.inl rfl
theorem zro_up {P : Nat → Int32} : ∀ k a, zro P k a → zro P (k + 1) a
  | 0, a, h => Or.inl h
  | k + 1, a, h => h.elim Or.inl (fun q => Or.inr (zro_up k _ q))
theorem zro_le {P : Nat → Int32} {k a : Nat} (h : zro P k a) : ∀ n, k ≤ n → zro P n a
  | 0, hn => by rw [show k = 0 by omega] at h; exact h
  | n + 1, hn => by
    by_cases hk : k = n + 1
    · rw [← hk]; exact h
    · exact zro_up n a (zro_le h n (by omega))
theorem cnt_sub {p q : Nat → Bool} : ∀ n, (∀ i, i < n → p i = true → q i = true) → cnt p n ≤ cnt q n ∧ (cnt q n ≤ cnt p n → ∀ i, i < n → q i = true → p i = true)
  | 0, _ => ⟨Nat.le_refl _, fun _ i hi => by omega⟩
  | n + 1, h => by
    obtain ⟨h1, h2⟩ := cnt_sub n (fun i hi => h i (by omega))
    have hn := h n (by omega)
    simp only [cnt]
    cases hp : p n <;> cases hq : q n <;> simp only [hp, hq, if_true, Bool.false_eq_true, if_false] at hn ⊢
    · refine ⟨by omega, fun he i hi hqi => ?_⟩
      by_cases hin : i = n
      · rw [hin, hq] at hqi; cases hqi
      · exact h2 (by omega) i (by omega) hqi
    · exact ⟨by omega, fun he => by omega⟩
    · exact absurd hn (by decide)
    · refine ⟨by omega, fun he i hi hqi => ?_⟩
      by_cases hin : i = n
      · rw [hin]; exact hp
      · exact h2 (by omega) i (by omega) hqi
theorem cnt_all (n : Nat) : cnt (fun _ => true) n = n := by
  induction n with
  | zero => rfl
  | succ n ih => simp only [cnt, ih, if_true]
theorem zro_stb {P : Nat → Int32} (hP : ∀ i, i < 16 → (P i).toNatClampNeg < 16) {k : Nat} (hs : ∀ i, i < 16 → zro P (k + 1) i → zro P k i) : ∀ n a, a < 16 → zro P (k + n) a → zro P k a
  | 0, a, _, h => h
  | n + 1, a, ha, h => by
    rcases h with h | h
    · rw [h]; exact zro_z P k
    · exact hs a ha (Or.inr (zro_stb hP hs n _ (hP a ha) h))
theorem zro_cl {P : Nat → Int32} : ∀ k, (k + 1 ≤ cnt (zrB P k) 16) ∨ ∃ k', k' ≤ k ∧ ∀ i, i < 16 → zro P (k' + 1) i → zro P k' i
  | 0 => Or.inl (by show 0 + 1 ≤ cnt (fun a => decide (a = 0)) 16; decide)
  | k + 1 => by
    rcases zro_cl (P := P) k with h | ⟨k', h1, h2⟩
    · obtain ⟨c1, c2⟩ := cnt_sub (p := zrB P k) (q := zrB P (k + 1)) 16 (fun i _ hi => (zrB_iff P _ _).mpr (zro_up _ _ ((zrB_iff P _ _).mp hi)))
      by_cases hc : cnt (zrB P (k + 1)) 16 ≤ cnt (zrB P k) 16
      · exact Or.inr ⟨k, by omega, fun i hi hz => (zrB_iff P _ _).mp (c2 hc i hi ((zrB_iff P _ _).mpr hz))⟩
      · exact Or.inl (by omega)
    · exact Or.inr ⟨k', by omega, h2⟩
/-- a way up that comes to the root at all comes there in 15 steps -/
theorem zro_15 {P : Nat → Int32} (hP : ∀ i, i < 16 → (P i).toNatClampNeg < 16) {N a : Nat} (ha : a < 16) (h : zro P N a) : zro P 15 a := by
  rcases zro_cl (P := P) 15 with hc | ⟨k', h1, h2⟩
  · have := (cnt_sub (p := zrB P 15) (q := fun _ => true) 16 (fun _ _ _ => rfl)).2 (by rw [cnt_all]; exact hc) a ha rfl
    exact (zrB_iff P _ _).mp this
  · have : zro P k' a := zro_stb hP h2 N a ha (zro_le h _ (by omega))
    exact zro_le this _ h1
theorem wup_up {P : Nat → Int32} {f : Int32} : ∀ k a, zro P k a → wup P f (k + 1) a = wup P f k a
  | 0, a, h => by rw [show a = 0 from h, wup_0, wup_0]
  | k + 1, a, h => by
    rw [wup_s, wup_s P f k a]
    by_cases ha : a = 0
    · rw [if_pos ha, if_pos ha]
    · rw [if_neg ha, if_neg ha, wup_up k _ (h.resolve_left ha)]
theorem wup_c {P Q : Nat → Int32} {f : Int32} (hP : ∀ i, i < 16 → (P i).toNatClampNeg < 16) (e : ∀ i, 1 ≤ i → i < 16 → P i = Q i) : ∀ k a, a < 16 → wup P f k a = wup Q f k a
  | 0, _, _ => rfl
  | k + 1, a, ha => by
    rw [wup_s, wup_s]
    by_cases h0 : a = 0
    · rw [if_pos h0, if_pos h0]
    · rw [if_neg h0, if_neg h0, e a (by omega) ha, ← e a (by omega) ha, wup_c hP e k _ (hP a ha), e a (by omega) ha]
theorem zro_c {P Q : Nat → Int32} (hP : ∀ i, i < 16 → (P i).toNatClampNeg < 16) (e : ∀ i, 1 ≤ i → i < 16 → P i = Q i) : ∀ k a, a < 16 → zro P k a → zro Q k a
  | 0, _, _, h => h
  | k + 1, a, ha, h => by
    by_cases h0 : a = 0
    · exact Or.inl h0
    · refine Or.inr ?_
      rw [← e a (by omega) ha]
      exact zro_c hP e k _ (hP a ha) (h.resolve_left h0)
/-- the states and the parents -/
def TS (s P : Nat → Int32) : Prop := s 0 = 1 ∧ (∀ j, j < 16 → ∃ k, k < 16 ∧ P j = nI k) ∧ (∀ j, j < 16 → ¬ s j = 0 → zro P 15 j) ∧ ∀ j, 1 ≤ j → j < 16 → ¬ s j = 0 → s (P j).toNatClampNeg = 1
theorem TS.cl {s P : Nat → Int32} (h : TS s P) : ∀ i, i < 16 → (P i).toNatClampNeg < 16 := fun i hi => by
  obtain ⟨k, k1, k2⟩ := h.2.1 i hi
  rw [k2, nI_clamp (by omega)]; exact k1
theorem up_cl {P P' : Nat → Int32} {j k : Nat} (hP : ∀ i, i < 16 → ∃ k, k < 16 ∧ P i = nI k) (hk : k < 16) (e : ∀ i, P' i = if i = j then nI k else P i) : ∀ i, i < 16 → ∃ k, k < 16 ∧ P' i = nI k := fun i hi => by
  rw [e i]
  by_cases h : i = j
  · rw [if_pos h]; exact ⟨k, hk, rfl⟩
  · rw [if_neg h]; exact hP i hi
theorem TS.make {s P s' P' : Nat → Int32} {j k : Nat} {v : Int32} (h : TS s P) (hj1 : 1 ≤ j) (hj : j < 16) (hs : s j = 0) (hk : k < 16) (hsk : s k = 1) (es : ∀ i, s' i = if i = j then v else s i) (eP : ∀ i, P' i = if i = j then nI k else P i) : TS s' P' := by
  have hr := up_cl h.2.1 hk eP
  have hcl : ∀ i, i < 16 → (P' i).toNatClampNeg < 16 := fun i hi => by
    obtain ⟨k, k1, k2⟩ := hr i hi
    rw [k2, nI_clamp (by omega)]; exact k1
  have hkj : k ≠ j := fun q => by rw [q, hs] at hsk; exact absurd hsk (by decide)
  have hold : ∀ n a, a < 16 → ¬ s a = 0 → zro P n a → zro P' n a := by
    intro n
    induction n with
    | zero => intro a _ _ hz; exact hz
    | succ n ih =>
      intro a ha hsa hz
      by_cases h0 : a = 0
      · exact Or.inl h0
      · refine Or.inr ?_
        have haj : a ≠ j := fun q => hsa (by rw [q]; exact hs)
        rw [eP a, if_neg haj]
        exact ih _ (h.cl a ha) (by rw [h.2.2.2 a (by omega) ha hsa]; decide) (hz.resolve_left h0)
  have hk15 := hold 15 k hk (by rw [hsk]; decide) (h.2.2.1 k hk (by rw [hsk]; decide))
  refine ⟨by rw [es, if_neg (by omega)]; exact h.1, hr, fun i hi hsi => ?_, fun i hi1 hi hsi => ?_⟩
  · by_cases hij : i = j
    · refine zro_15 (N := 16) hcl hi (Or.inr ?_)
      rw [eP i, if_pos hij, nI_clamp (by omega)]; exact hk15
    · rw [es i, if_neg hij] at hsi
      exact hold 15 i hi hsi (h.2.2.1 i hi hsi)
  · by_cases hij : i = j
    · rw [eP i, if_pos hij, nI_clamp (by omega), es k, if_neg hkj]; exact hsk
    · rw [es i, if_neg hij] at hsi
      rw [eP i, if_neg hij, es, if_neg (fun q => by have := h.2.2.2 i hi1 hi hsi; rw [q, hs] at this; exact absurd this (by decide))]
      exact h.2.2.2 i hi1 hi hsi
theorem TS.move {s P P' : Nat → Int32} {j k : Nat} (h : TS s P) (hj : j < 16) (hk : k < 16) (hsk : s k = 1) (hkj : k ≠ j) (hw : wup P (nI j) 16 k = false) (eP : ∀ i, P' i = if i = j then nI k else P i) : TS s P' := by
  have hr := up_cl h.2.1 hk eP
  have hcl : ∀ i, i < 16 → (P' i).toNatClampNeg < 16 := fun i hi => by
    obtain ⟨k, k1, k2⟩ := hr i hi
    rw [k2, nI_clamp (by omega)]; exact k1
  have hav : ∀ n a, a < 16 → a ≠ j → wup P (nI j) (n + 1) a = false → zro P n a → zro P' n a := by
    intro n
    induction n with
    | zero => intro a _ _ _ hz; exact hz
    | succ n ih =>
      intro a ha haj hwa hz
      by_cases h0 : a = 0
      · exact Or.inl h0
      · refine Or.inr ?_
        rw [wup_s, if_neg h0] at hwa
        by_cases hf : P a = nI j
        · rw [if_pos hf] at hwa; cases hwa
        · rw [if_neg hf] at hwa
          rw [eP a, if_neg haj]
          refine ih _ (h.cl a ha) (fun q => hf ?_) hwa (hz.resolve_left h0)
          obtain ⟨k0, k1, k2⟩ := h.2.1 a ha
          rw [k2, nI_clamp (by omega)] at q
          rw [k2, q]
  have hk15 : zro P' 15 k := hav 15 k hk hkj hw (h.2.2.1 k hk (by rw [hsk]; decide))
  have hall : ∀ n a, a < 16 → zro P n a → zro P' (n + 16) a := by
    intro n
    induction n with
    | zero => intro a _ hz; rw [show a = 0 from hz]; exact zro_z P' _
    | succ n ih =>
      intro a ha hz
      by_cases haj : a = j
      · refine zro_le (k := 16) (Or.inr ?_) _ (by omega)
        rw [eP a, if_pos haj, nI_clamp (by omega)]; exact hk15
      · rcases hz with hz | hz
        · rw [hz]; exact zro_z P' _
        · rw [show n + 1 + 16 = (n + 16) + 1 by omega]
          refine Or.inr ?_
          rw [eP a, if_neg haj]
          exact ih _ (h.cl a ha) hz
  refine ⟨h.1, hr, fun i hi hsi => zro_15 hcl hi (hall 15 i hi (h.2.2.1 i hi hsi)), fun i hi1 hi hsi => ?_⟩
  by_cases hij : i = j
  · rw [eP i, if_pos hij, nI_clamp (by omega)]; exact hsk
  · rw [eP i, if_neg hij]; exact h.2.2.2 i hi1 hi hsi
theorem TS.rem {s P s' : Nat → Int32} {j : Nat} (h : TS s P) (hj1 : 1 ≤ j) (hj : j < 16) (es : ∀ i, i < 16 → (s' i = s i ∧ i ≠ j ∧ (s i = 0 ∨ wup P (nI j) 16 i = false)) ∨ (s' i = 0 ∧ (i = j ∨ wup P (nI j) 16 i = true))) : TS s' P := by
  have hsub : ∀ i, i < 16 → ¬ s' i = 0 → s' i = s i ∧ i ≠ j ∧ wup P (nI j) 16 i = false := fun i hi hsi => by
    rcases es i hi with ⟨a, b, c⟩ | ⟨a, b⟩
    · exact ⟨a, b, c.resolve_left (fun q => hsi (by rw [a, q]))⟩
    · exact absurd a hsi
  refine ⟨?_, h.2.1, fun i hi hsi => ?_, fun i hi1 hi hsi => ?_⟩
  · rcases es 0 (by omega) with ⟨a, _⟩ | ⟨_, b⟩
    · rw [a]; exact h.1
    · rcases b with b | b
      · omega
      · rw [wup_0] at b; cases b
  · exact h.2.2.1 i hi (by rw [← (hsub i hi hsi).1]; exact hsi)
  · obtain ⟨a, b, c⟩ := hsub i hi hsi
    rw [a] at hsi
    have hp := h.2.2.2 i hi1 hi hsi
    rw [wup_s, if_neg (by omega)] at c
    by_cases hf : P i = nI j
    · rw [if_pos hf] at c; cases c
    · rw [if_neg hf] at c
      have hpi := h.cl i hi
      rcases es _ hpi with ⟨a', _, _⟩ | ⟨_, b'⟩
      · rw [a']; exact hp
      · rcases b' with b' | b'
        · obtain ⟨k0, k1, k2⟩ := h.2.1 i hi
          rw [k2, nI_clamp (by omega)] at b'
          exact absurd (by rw [k2, b']) hf
        · rw [wup_up 15 _ (h.2.2.1 _ hpi (by rw [hp]; decide)), c] at b'; cases b'
