/-! ===== READING: the longest runs of letters ===== -/
def scn (c : Nat → Int32) (n : Nat) : Nat → List (Nat × Nat) × Nat
  | 0 => ([], 0)
  | i + 1 => if 0 < (if isLt (c i) then (scn c n i).2 + 1 else (scn c n i).2) ∧ (i + 1 = n ∨ isLt (c (i + 1)) = false)
    then ((scn c n i).1 ++ [(i + 1 - (if isLt (c i) then (scn c n i).2 + 1 else (scn c n i).2), i + 1)], 0)
    else ((scn c n i).1, if isLt (c i) then (scn c n i).2 + 1 else (scn c n i).2)
theorem scn_s (c : Nat → Int32) (n i : Nat) : scn c n (i + 1) = if 0 < (if isLt (c i) then (scn c n i).2 + 1 else (scn c n i).2) ∧ (i + 1 = n ∨ isLt (c (i + 1)) = false)
    then ((scn c n i).1 ++ [(i + 1 - (if isLt (c i) then (scn c n i).2 + 1 else (scn c n i).2), i + 1)], 0)
    else ((scn c n i).1, if isLt (c i) then (scn c n i).2 + 1 else (scn c n i).2) := rfl
theorem scn_inv (c : Nat → Int32) (n : Nat) : ∀ k, k ≤ n → 2 * (scn c n k).1.length ≤ k + 1 ∧ (0 < (scn c n k).2 → 2 * (scn c n k).1.length + (scn c n k).2 ≤ k ∧ (k < n → isLt (c k) = true)) ∧ (2 * (scn c n k).1.length = k + 1 → k = n ∨ isLt (c k) = false)
  | 0, _ => ⟨by simp [scn], by simp [scn], by simp [scn]⟩
  | k + 1, hk => by
    obtain ⟨h1, h2, h3⟩ := scn_inv c n k (by omega)
    rw [scn_s]
    generalize hp : scn c n k = p at h1 h2 h3
    obtain ⟨ws, l⟩ := p
    simp only at h1 h2 h3 ⊢
    by_cases hL : isLt (c k) = true
    · rw [hL]
      simp only [if_true]
      by_cases hr : k + 1 = n ∨ isLt (c (k + 1)) = false
      · rw [if_pos ⟨by omega, hr⟩]
        simp only [List.length_append, List.length_singleton]
        refine ⟨?_, by omega, fun _ => hr⟩
        rcases Nat.eq_zero_or_pos l with h0 | h0
        · by_cases h9 : 2 * ws.length = k + 1
          · rcases h3 h9 with h8 | h8
            · omega
            · rw [hL] at h8; cases h8
          · omega
        · have := (h2 h0).1; omega
      · rw [if_neg (fun h => hr h.2)]
        simp only
        have h7 : 2 * ws.length + l ≤ k := by
          rcases Nat.eq_zero_or_pos l with h0 | h0
          · by_cases h9 : 2 * ws.length = k + 1
            · rcases h3 h9 with h8 | h8
              · omega
              · rw [hL] at h8; cases h8
            · omega
          · exact (h2 h0).1
        refine ⟨by omega, fun _ => ⟨by omega, fun hn => ?_⟩, fun h9 => by omega⟩
        cases hq : isLt (c (k + 1))
        · exact absurd (Or.inr hq) hr
        · rfl
    · have hL' : isLt (c k) = false := by cases h : isLt (c k); rfl; exact absurd h hL
      rw [hL']
      simp only [Bool.false_eq_true, if_false]
      have h0 : l = 0 := by
        rcases Nat.eq_zero_or_pos l with h0 | h0
        · exact h0
        · have := (h2 h0).2 (by omega)
          rw [hL'] at this; cases this
      subst h0
      rw [if_neg (fun h => absurd h.1 (by omega))]
      exact ⟨by simp only; omega, fun h => absurd h (by simp only; omega), fun h9 => by simp only at h9; omega⟩
/-- the class's word of the first l letters from s on -/
def wC (c : Nat → Int32) (s : Nat) : Nat → Int64
  | 0 => 0
  | l + 1 => if l < 8 then wiLe (wC c s l) (nI l) (c (s + l)) else wC c s l
theorem wC_s (c : Nat → Int32) (s l : Nat) : wC c s (l + 1) = if l < 8 then wiLe (wC c s l) (nI l) (c (s + l)) else wC c s l := rfl
/-- the state of Entry.take at its loop's head: k characters are behind it -/
def TkI (I0 : DI) (J0 : DJ) (i m T k : Nat) (I : DI) (J : DJ) : Prop :=
  I (28 + 3 * i) 2 = nI (scn (I0 (5 + i)) m k).1.length ∧ (∀ j s e, (scn (I0 (5 + i)) m k).1[j]? = some (s, e) → J (29 + 3 * i) j = wC (I0 (5 + i)) s (e - s) ∧ I (30 + 3 * i) j = if s < T then 3 else 1) ∧
  (∀ b, b ≠ 28 + 3 * i → b ≠ 30 + 3 * i → I b = I0 b) ∧ (∀ b, b ≠ 29 + 3 * i → J b = J0 b)
theorem TkI.add {I0 : DI} {J0 : DJ} {i m T k : Nat} {I : DI} {J : DJ} (h : TkI I0 J0 i m T k I J) (hi : i < 16) {q : Nat} (hq : q = if isLt (I0 (5 + i) k) then (scn (I0 (5 + i)) m k).2 + 1 else (scn (I0 (5 + i)) m k).2) (h0 : 0 < q) (hr : k + 1 = m ∨ isLt (I0 (5 + i) (k + 1)) = false) {x : Int32} (hx : x = if k + 1 - q < T then 3 else 1) (hqk : q ≤ k + 1) :
    TkI I0 J0 i m T (k + 1) (u2 (u2 I (30 + 3 * i) (scn (I0 (5 + i)) m k).1.length x) (28 + 3 * i) 2 (nI ((scn (I0 (5 + i)) m k).1.length + 1))) (u2 J (29 + 3 * i) (scn (I0 (5 + i)) m k).1.length (wC (I0 (5 + i)) (k + 1 - q) q)) ∧ (scn (I0 (5 + i)) m (k + 1)).2 = 0 := by
  obtain ⟨h1, h2, h3, h4⟩ := h
  have hs : scn (I0 (5 + i)) m (k + 1) = ((scn (I0 (5 + i)) m k).1 ++ [(k + 1 - q, k + 1)], 0) := by
    rw [scn_s, ← hq, if_pos ⟨h0, hr⟩]
  refine ⟨⟨?_, fun j s e hj => ?_, fun b b1 b2 => ?_, fun b b1 => ?_⟩, by rw [hs]⟩
  · rw [u2_s, hs]
    simp
  · rw [hs] at hj
    simp only at hj
    by_cases hl : j < (scn (I0 (5 + i)) m k).1.length
    · rw [List.getElem?_append_left hl] at hj
      rw [u2_n (Or.inr (by omega)), u2_n (Or.inl (by omega)), u2_n (Or.inr (by omega))]
      exact h2 j s e hj
    · rw [List.getElem?_append_right (by omega)] at hj
      have hz : j - (scn (I0 (5 + i)) m k).1.length < 1 := (List.getElem?_eq_some_iff.mp hj).1
      have hj2 : j = (scn (I0 (5 + i)) m k).1.length := by omega
      rw [show j - (scn (I0 (5 + i)) m k).1.length = 0 by omega] at hj
      cases hj
      rw [hj2, u2_s, u2_n (Or.inl (by omega)), u2_s]
      exact ⟨by rw [show k + 1 - (k + 1 - q) = q by omega], hx⟩
  · rw [u2_o b1, u2_o b2]
    exact h3 b b1 b2
  · rw [u2_o b1]
    exact h4 b b1
theorem TkI.go {I0 : DI} {J0 : DJ} {i m T k : Nat} {I : DI} {J : DJ} (h : TkI I0 J0 i m T k I J) {q : Nat} (hq : q = if isLt (I0 (5 + i) k) then (scn (I0 (5 + i)) m k).2 + 1 else (scn (I0 (5 + i)) m k).2) (hn : ¬ (0 < q ∧ (k + 1 = m ∨ isLt (I0 (5 + i) (k + 1)) = false))) : TkI I0 J0 i m T (k + 1) I J ∧ (scn (I0 (5 + i)) m (k + 1)).2 = q := by
  have hs : scn (I0 (5 + i)) m (k + 1) = ((scn (I0 (5 + i)) m k).1, q) := by
    rw [scn_s, ← hq, if_neg hn]
  unfold TkI
  rw [hs]
  exact ⟨h, rfl⟩
