/-! ===== the index ===== -/
theorem scn_c {c d : Nat → Int32} {n : Nat} (h : ∀ i, i < n → c i = d i) : ∀ k, k ≤ n → scn c n k = scn d n k
  | 0, _ => rfl
  | k + 1, hk => by
    have ih := scn_c h k (by omega)
    have e : (k + 1 = n ∨ isLt (c (k + 1)) = false) ↔ (k + 1 = n ∨ isLt (d (k + 1)) = false) := by
      by_cases hn : k + 1 = n
      · exact ⟨fun _ => Or.inl hn, fun _ => Or.inl hn⟩
      · rw [h (k + 1) (by omega)]
    rw [scn_s, scn_s, ih, h k (by omega)]
    simp only [e]
theorem scn_w (c : Nat → Int32) (n : Nat) : ∀ k, k ≤ n → (scn c n k).2 ≤ k ∧ (∀ i, k ≤ i + (scn c n k).2 → i < k → isLt (c i) = true) ∧ ∀ p ∈ (scn c n k).1, p.1 < p.2 ∧ p.2 ≤ k ∧ ∀ i, p.1 ≤ i → i < p.2 → isLt (c i) = true
  | 0, _ => ⟨Nat.le_refl _, fun i _ hi => by omega, fun p hp => by cases hp⟩
  | k + 1, hk => by
    obtain ⟨h1, h2, h3⟩ := scn_w c n k (by omega)
    have hv := (scn_inv c n k (by omega)).2.1
    obtain ⟨q, hq⟩ : ∃ q, q = if isLt (c k) then (scn c n k).2 + 1 else (scn c n k).2 := ⟨_, rfl⟩
    have hq1 : q ≤ k + 1 ∧ ∀ i, k + 1 ≤ i + q → i < k + 1 → isLt (c i) = true := by
      by_cases hl : isLt (c k) = true
      · rw [if_pos hl] at hq
        refine ⟨by omega, fun i hi hik => ?_⟩
        by_cases he : i = k
        · rw [he]; exact hl
        · exact h2 i (by omega) (by omega)
      · rw [if_neg hl] at hq
        have : ¬ 0 < (scn c n k).2 := fun h0 => hl ((hv h0).2 (by omega))
        exact ⟨by omega, fun i hi hik => by omega⟩
    rw [scn_s, ← hq]
    by_cases hc : 0 < q ∧ (k + 1 = n ∨ isLt (c (k + 1)) = false)
    · rw [if_pos hc]
      refine ⟨Nat.zero_le _, fun i hi hik => by omega, fun p hp => ?_⟩
      rcases List.mem_append.mp hp with hp | hp
      · obtain ⟨a, b, d⟩ := h3 p hp
        exact ⟨a, by omega, d⟩
      · rw [List.mem_singleton.mp hp]
        exact ⟨by show k + 1 - q < k + 1; omega, Nat.le_refl _, fun i hi hik => hq1.2 i (by have : k + 1 - q ≤ i := hi; omega) hik⟩
    · rw [if_neg hc]
      refine ⟨hq1.1, hq1.2, fun p hp => ?_⟩
      obtain ⟨a, b, d⟩ := h3 p hp
      exact ⟨a, by omega, d⟩
theorem wC_8 (c : Nat → Int32) (s : Nat) : ∀ l, wC c s l = wC c s (min l 8)
  | 0 => rfl
  | l + 1 => by
    by_cases h : l < 8
    · rw [Nat.min_eq_left (by omega)]
    · rw [wC_s, if_neg h, wC_8 c s l, Nat.min_eq_right (by omega), Nat.min_eq_right (by omega)]
theorem wM_8 (c : Nat → Int32) (s : Nat) : ∀ l, wM c s l = wM c s (min l 8)
  | 0 => rfl
  | l + 1 => by
    by_cases h : l < 8
    · rw [Nat.min_eq_left (by omega)]
    · rw [show wM c s (l + 1) = if l < 8 then _ else wM c s l from rfl, if_neg h, wM_8 c s l, Nat.min_eq_right (by omega), Nat.min_eq_right (by omega)]
theorem wM_c {c d : Nat → Int32} {s : Nat} : ∀ l, (∀ i, i < l → c (s + i) = d (s + i)) → wM c s l = wM d s l
  | 0, _ => rfl
  | l + 1, h => by
    show (if l < 8 then (wM c s l <<< 8) ||| (ltr (c (s + l))).toInt64 else wM c s l) = if l < 8 then (wM d s l <<< 8) ||| (ltr (d (s + l))).toInt64 else wM d s l
    rw [wM_c l (fun i hi => h i (by omega)), h l (by omega)]
theorem tiE_c {c d : Nat → Int32} {n : Nat} (h : ∀ i, i < n → c i = d i) : tiE c n = tiE d n := by
  unfold tiE
  by_cases hn : n = 0
  · rw [if_pos hn, if_pos hn]
  · rw [if_neg hn, if_neg hn, h 0 (by omega), plc_eq 59 n 0 (fun j _ hj => h j (by omega))]
def EnR (A : DI) (K : DJ) (B : DI) (M : DJ) (j : Nat) : Prop := ∃ m, m ≤ 30 ∧ A (28 + 3 * j) 2 = nI m ∧ B 134 j = nI m ∧ ∀ i, i < m → WD (K (29 + 3 * j) i) (M 135 (30 * j + i)) (B 136 (30 * j + i)) ∧ A (30 + 3 * j) i = B 137 (30 * j + i) ∧ (A (30 + 3 * j) i = 1 ∨ A (30 + 3 * j) i = 3)
def XR (A : DI) (K : DJ) (B : DI) (M : DJ) : Prop := A 25 2 = B 124 11 ∧ A 27 0 = 0 ∧ (∀ j, j < 16 → A 27 j = B 133 j ∧ (A 27 j = 0 ∨ A 27 j = 1)) ∧ ∀ j, j < 16 → EnR A K B M j
def CoR (A B : DI) : Prop := ∀ j, j < 16 → ∃ q, q ≤ 60 ∧ A 21 j = nI q ∧ B 129 j = nI q ∧ ∀ i, i < q → A (5 + j) i = B 128 (60 * j + i)
theorem EnR.c {A A1 B B1 : DI} {K K1 M M1 : DJ} {j : Nat} (h : EnR A K B M j) (a1 : A1 (28 + 3 * j) 2 = A (28 + 3 * j) 2) (a2 : A1 (30 + 3 * j) = A (30 + 3 * j)) (a3 : K1 (29 + 3 * j) = K (29 + 3 * j)) (b1 : B1 134 j = B 134 j)
    (b2 : ∀ i, i < 30 → B1 136 (30 * j + i) = B 136 (30 * j + i) ∧ B1 137 (30 * j + i) = B 137 (30 * j + i) ∧ M1 135 (30 * j + i) = M 135 (30 * j + i)) : EnR A1 K1 B1 M1 j := by
  obtain ⟨m, m1, m2, m3, m4⟩ := h
  refine ⟨m, m1, by rw [a1]; exact m2, by rw [b1]; exact m3, fun i hi => ?_⟩
  rw [a2, a3, (b2 i (by omega)).1, (b2 i (by omega)).2.1, (b2 i (by omega)).2.2]
  exact m4 i hi
theorem XR.c {A A1 B B1 : DI} {K K1 M M1 : DJ} (h : XR A K B M) (a : ∀ b, 25 ≤ b → b < 76 → A1 b = A b) (ak : ∀ b, 25 ≤ b → b < 76 → K1 b = K b) (b : ∀ b, b = 133 ∨ b = 134 ∨ b = 136 ∨ b = 137 → B1 b = B b) (b11 : B1 124 11 = B 124 11) (bm : M1 135 = M 135) : XR A1 K1 B1 M1 := by
  obtain ⟨h1, h2, h3, h4⟩ := h
  refine ⟨by rw [a 25 (by decide) (by decide), b11]; exact h1, by rw [a 27 (by decide) (by decide)]; exact h2, fun j hj => by rw [a 27 (by decide) (by decide), b 133 (by decide)]; exact h3 j hj, fun j hj => (h4 j hj).c ?_ ?_ ?_ ?_ ?_⟩
  · rw [a _ (by omega) (by omega)]
  · rw [a _ (by omega) (by omega)]
  · rw [ak _ (by omega) (by omega)]
  · rw [b 134 (by decide)]
  · intro i _; rw [b 136 (by decide), b 137 (by decide), bm]; exact ⟨rfl, rfl, rfl⟩
theorem CoR.c {A A1 B B1 : DI} (h : CoR A B) (a : ∀ b, 5 ≤ b → b < 22 → A1 b = A b) (b1 : B1 128 = B 128) (b2 : B1 129 = B 129) : CoR A1 B1 := fun j hj => by
  rw [a 21 (by decide) (by decide), a (5 + j) (by omega) (by omega), b1, b2]; exact h j hj
theorem rd_ag {A A1 B B1 : DI} {K K1 M M1 : DJ} {j : Nat} (hj : j < 16) (hj1 : 1 ≤ j) (hc : CoR A B) (h : XR A K B M) (ha : Rd A K j A1 K1) (hb : RdM B M j B1 M1) : XR A1 K1 B1 M1 := by
  obtain ⟨m, m1, m2, X, ⟨t1, t2, t3, t4⟩, rfl⟩ := ha
  obtain ⟨n, Y, n1, n2, ⟨r1, r2, r3, r4, r5⟩, rfl⟩ := hb
  obtain ⟨q, q1, q2, q3, q4⟩ := hc j hj
  have e1 : m = q := (nI_eq (by omega) (by omega)).mp (m1.symm.trans q2)
  have e2 : n = q := (nI_eq (by omega) (by omega)).mp (n1.symm.trans q3)
  subst e1; subst e2
  have ec : ∀ i, i < n → A (5 + j) i = coM B j i := q4
  have es := scn_c ec n (Nat.le_refl _)
  have et := tiE_c ec
  rw [← es, ← et] at r1
  rw [← es]
  obtain ⟨w1, w2, w3⟩ := scn_w (A (5 + j)) n n (Nat.le_refl _)
  have wl := (scn_inv (A (5 + j)) n n (Nat.le_refl _)).1
  obtain ⟨h1, h2, h3, h4⟩ := h
  have u27 : ∀ i, u2 (u2 X 27 j 1) 25 2 (A 25 2 + 1) 27 i = if i = j then 1 else A 27 i := fun i => by
    rw [u2_o (by decide)]
    by_cases hi : i = j
    · rw [if_pos hi, hi, u2_s]
    · rw [if_neg hi, u2_n (Or.inr hi), t3 27 (by omega) (by omega)]
  have u133 : ∀ i, u2 (u2 (u2 Y 134 j (nI (scn (A (5 + j)) n n).1.length)) 133 j 1) 124 11 (B 124 11 + 1) 133 i = if i = j then 1 else B 133 i := fun i => by
    rw [u2_o (by decide)]
    by_cases hi : i = j
    · rw [if_pos hi, hi, u2_s]
    · rw [if_neg hi, u2_n (Or.inr hi), u2_o (by decide), r2 133 (by decide) (by decide)]
  refine ⟨by rw [u2_s, u2_s, h1], by rw [u27, if_neg (by omega)]; exact h2, fun i hi => ?_, fun i hi => ?_⟩
  · rw [u27, u133]
    by_cases hij : i = j
    · rw [if_pos hij, if_pos hij]; exact ⟨rfl, Or.inr rfl⟩
    · rw [if_neg hij, if_neg hij]; exact h3 i hi
  · by_cases hij : i = j
    · subst hij
      refine ⟨(scn (A (5 + i)) n n).1.length, by omega, by rw [u2_o (by omega), u2_o (by omega)]; exact t1, by rw [u2_o (by decide), u2_o (by decide), u2_s], fun k hk => ?_⟩
      obtain ⟨s, e, hg⟩ : ∃ s e, (scn (A (5 + i)) n n).1[k]? = some (s, e) := ⟨_, _, List.getElem?_eq_getElem hk⟩
      obtain ⟨a1, a2⟩ := t2 k s e hg
      obtain ⟨b1, b2, b3⟩ := r1 k s e hg
      obtain ⟨z1, z2, z3⟩ := w3 (s, e) (List.mem_of_getElem? hg)
      rw [u2_o (by omega), u2_o (by omega), u2_o (by omega), u2_o (by omega), u2_o (by omega), u2_o (by omega), u2_o (by omega), u2_o (by omega), a1, a2, b1, b2, b3, wC_8, wM_8, ← wM_c (c := A (5 + i)) (d := coM B i) _ (fun t ht => ec _ (by simp only at z2; omega))]
      refine ⟨WD_w (by simp only at z1; omega) (by omega) (fun t ht => z3 _ (by simp only; omega) (by simp only; omega)), rfl, ?_⟩
      by_cases hs : s < tiE (A (5 + i)) n
      · rw [if_pos hs]; exact Or.inr rfl
      · rw [if_neg hs]; exact Or.inl rfl
    · refine (h4 i hi).c ?_ ?_ ?_ ?_ ?_
      · rw [u2_o (by omega), u2_o (by omega), t3 _ (by omega) (by omega)]
      · rw [u2_o (by omega), u2_o (by omega), t3 _ (by omega) (by omega)]
      · rw [t4 _ (by omega)]
      · rw [u2_o (by decide), u2_o (by decide), u2_n (Or.inr hij), r2 134 (by decide) (by decide)]
      · intro t ht
        have hz : 30 * i + t < 30 * j ∨ 30 * j + 30 ≤ 30 * i + t := by omega
        rw [u2_o (by decide), u2_o (by decide), u2_o (by decide), u2_o (by decide), u2_o (by decide), u2_o (by decide), (r3 _ hz).1, (r3 _ hz).2, r5 _ hz]
        exact ⟨rfl, rfl, rfl⟩
/-- a file is forgotten -/
theorem fg_ag {A B : DI} {K M : DJ} {j : Nat} (h : XR A K B M) : XR (u2 A 27 j 0) K (u2 B 133 j 0) M := by
  obtain ⟨h1, h2, h3, h4⟩ := h
  refine ⟨by rw [u2_o (by decide), u2_o (by decide)]; exact h1, ?_, fun i hi => ?_, fun i hi => (h4 i hi).c ?_ ?_ rfl ?_ ?_⟩
  · by_cases hij : 0 = j
    · rw [← hij, u2_s]
    · rw [u2_n (Or.inr hij)]; exact h2
  · by_cases hij : i = j
    · rw [hij, u2_s, u2_s]; exact ⟨rfl, Or.inl rfl⟩
    · rw [u2_n (Or.inr hij), u2_n (Or.inr hij)]; exact h3 i hi
  · rw [u2_o (by omega)]
  · rw [u2_o (by omega)]
  · rw [u2_o (by decide)]
  · intro t _; rw [u2_o (by decide), u2_o (by decide)]; exact ⟨rfl, rfl, rfl⟩
theorem fl_ag {A A1 B B1 : DI} {K K1 M M1 : DJ} {j : Nat} {k : Int32} (hj : j < 16) (hj1 : ¬ k = 3 → 1 ≤ j) (hc : CoR A B) (h : XR A K B M) (ha : Fl A K k j A1 K1) (hb : FlM B M k j B1 M1) : XR A1 K1 B1 M1 := by
  rcases ha with ⟨a1, rfl, rfl⟩ | ⟨a1, a2⟩
  · rcases hb with ⟨b1, rfl, rfl⟩ | ⟨b1, _⟩
    · exact fg_ag h
    · exact absurd a1 b1
  · rcases hb with ⟨b1, _⟩ | ⟨_, b2⟩
    · exact absurd b1 a1
    · exact rd_ag hj (hj1 a1) hc h a2 b2
