def setL : List (Nat × Nat) := [(1, 0), (1, 1), (4, 0), (4, 1), (4, 2), (4, 3), (4, 4), (4, 5), (4, 6), (4, 7), (4, 8), (4, 9), (4, 10), (4, 11), (4, 12), (4, 13), (4, 14), (4, 15), (1, 2), (1, 3), (0, 0), (22, 0), (22, 1), (0, 1), (25, 0), (25, 1), (28, 0), (28, 1), (26, 0), (31, 0), (31, 1), (26, 1), (34, 0), (34, 1), (26, 2), (37, 0), (37, 1), (26, 3), (40, 0), (40, 1), (26, 4), (43, 0), (43, 1), (26, 5), (46, 0), (46, 1), (26, 6), (49, 0), (49, 1), (26, 7), (52, 0), (52, 1), (26, 8), (55, 0), (55, 1), (26, 9), (58, 0), (58, 1), (26, 10), (61, 0), (61, 1), (26, 11), (64, 0), (64, 1), (26, 12), (67, 0), (67, 1), (26, 13), (70, 0), (70, 1), (26, 14), (73, 0), (73, 1), (26, 15), (0, 2), (76, 0), (76, 2), (79, 0), (78, 0), (81, 0), (78, 1), (83, 0), (78, 2), (85, 0), (78, 3), (87, 0), (78, 4), (89, 0), (78, 5), (91, 0), (78, 6), (93, 0), (78, 7), (95, 0), (78, 8), (97, 0), (78, 9), (99, 0), (78, 10), (101, 0), (78, 11), (103, 0), (78, 12), (105, 0), (78, 13), (107, 0), (78, 14), (109, 0), (78, 15), (111, 0), (78, 16), (113, 0), (78, 17), (115, 0), (78, 18), (117, 0), (78, 19), (119, 0), (78, 20), (0, 3), (121, 0), (121, 1), (0, 4), (124, 1), (124, 2), (124, 3), (124, 4), (124, 5), (124, 6), (124, 7), (124, 8), (124, 12), (124, 13), (124, 14), (124, 15), (124, 16), (124, 17), (124, 19), (124, 20), (124, 21), (124, 22), (124, 23), (124, 25), (124, 26), (124, 31), (124, 32)]
/-- the shape while it is being made: n cells, the first t references of setL -/
def PS (n t : Nat) (S : ShT) : Prop := S.1 = n ∧ (∀ a, a < n → S.2.1 a = kd0 a) ∧ ∀ a, a < n → ∀ j, S.2.2 a j = if (a, j) ∈ setL.take t then rf0 a j else none
theorem PS.al {n t : Nat} {S : ShT} {k : Nat × Nat} (h : PS n t S) (hk : kd0 n = k) (hn : (setL.take t).all (fun p => !decide (p.1 = n)) = true) : PS (n + 1) t (ad1 S k) := by
  obtain ⟨h1, h2, h3⟩ := h
  subst h1
  refine ⟨rfl, fun a ha => ?_, fun a ha j => ?_⟩
  · show (if a = S.1 then k else S.2.1 a) = kd0 a
    by_cases he : a = S.1
    · rw [if_pos he, he, hk]
    · rw [if_neg he, h2 a (by omega)]
  · show zf S.2.2 S.1 none a j = _
    by_cases he : a = S.1
    · rw [zf_ge (by omega), if_neg]
      intro hm
      have := List.all_eq_true.mp hn _ hm
      simp [he] at this
    · rw [zf_lt (by omega), h3 a (by omega) j]
theorem tk_s {t a j : Nat} (hs : setL[t]? = some (a, j)) (p : Nat × Nat) : p ∈ setL.take (t + 1) ↔ p ∈ setL.take t ∨ p = (a, j) := by
  rw [List.take_add_one, hs, List.mem_append, Option.toList_some, List.mem_singleton]
theorem PS.st {n t a j r : Nat} {S : ShT} (h : PS n t S) (hs : setL[t]? = some (a, j)) (hr : rf0 a j = some r) : PS n (t + 1) (S.1, S.2.1, u2 S.2.2 a j (some r)) := by
  obtain ⟨h1, h2, h3⟩ := h
  refine ⟨h1, h2, fun b hb i => ?_⟩
  show u2 S.2.2 a j (some r) b i = _
  by_cases he : b = a ∧ i = j
  · rw [he.1, he.2, u2_s, if_pos ((tk_s hs _).mpr (Or.inr rfl)), hr]
  · rw [u2_n (by omega), h3 b hb i]
    by_cases hm : (b, i) ∈ setL.take t
    · rw [if_pos hm, if_pos ((tk_s hs _).mpr (Or.inl hm))]
    · rw [if_neg hm, if_neg]
      intro q
      rcases (tk_s hs _).mp q with q | q
      · exact hm q
      · injection q with q1 q2; exact he ⟨q1, q2⟩
theorem tk_a {t : Nat} {l : List (Nat × Nat)} (hs : (setL.drop t).take l.length = l) (p : Nat × Nat) : p ∈ setL.take (t + l.length) ↔ p ∈ setL.take t ∨ p ∈ l := by
  rw [List.take_add, hs, List.mem_append]
theorem PS.al2 {t : Nat} {S : ShT} (h : PS 4 t S) (ht : t = 2) : PS 21 18 (ad2 S 16 60) := by
  subst ht
  obtain ⟨h1, h2, h3⟩ := h
  refine ⟨by show S.1 + 1 + 16 = 21; omega, fun a ha => ?_, fun a ha j => ?_⟩
  · show (if a = S.1 then (37, 16) else if S.1 < a then (32, 60) else S.2.1 a) = kd0 a
    rw [h1]
    have hk : ∀ a, a < 21 → ¬ a < 4 → (if a = 4 then ((37 : Nat), (16 : Nat)) else (32, 60)) = kd0 a := by decide +kernel
    by_cases h4 : a < 4
    · rw [if_neg (by omega), if_neg (by omega), h2 a h4]
    · have := hk a ha h4
      by_cases h5 : a = 4
      · rw [if_pos h5] at this ⊢; exact this
      · rw [if_neg h5] at this ⊢; rw [if_pos (by omega)]; exact this
  · show (if a = S.1 then (if j < 16 then some (S.1 + 1 + j) else none) else zf S.2.2 S.1 none a j) = _
    rw [h1]
    have hs := tk_a (t := 2) (l := (List.range 16).map (fun j => (4, j))) (by decide +kernel) (a, j)
    rw [show ((List.range 16).map (fun j => ((4 : Nat), j))).length = 16 by decide, show 2 + 16 = 18 by decide] at hs
    have hr : ∀ j, j < 16 → rf0 4 j = some (4 + 1 + j) := by decide +kernel
    have h24 : ∀ p ∈ setL.take 2, p.1 < 4 := by decide +kernel
    by_cases h5 : a = 4
    · rw [if_pos h5, h5]
      by_cases hj : j < 16
      · rw [if_pos hj, if_pos, hr j hj]
        rw [h5] at hs
        exact hs.mpr (Or.inr (List.mem_map.mpr ⟨j, List.mem_range.mpr hj, rfl⟩))
      · rw [if_neg hj, if_neg]
        intro q
        rw [h5] at hs
        rcases hs.mp q with q | q
        · have := h24 _ q; simp at this
        · obtain ⟨i, hi, he⟩ := List.mem_map.mp q
          injection he with _ he
          exact hj (he ▸ List.mem_range.mp hi)
    · rw [if_neg h5]
      by_cases h4 : a < 4
      · rw [zf_lt h4, h3 a h4 j]
        have : (a, j) ∈ setL.take 18 ↔ (a, j) ∈ setL.take 2 := ⟨fun q => (hs.mp q).resolve_right (fun w => by obtain ⟨i, _, he⟩ := List.mem_map.mp w; injection he with he _; omega), fun q => hs.mpr (Or.inl q)⟩
        simp only [this]
      · rw [zf_ge (by omega), if_neg]
        intro q
        rcases hs.mp q with q | q
        · have := h24 _ q; simp at this; omega
        · obtain ⟨i, _, he⟩ := List.mem_map.mp q
          injection he with he _; omega
theorem PS.o {n t : Nat} {S : ShT} (h : PS n t S) {a ci : Nat} (ha : a < n) (hk : (kd0 a).1 = ci) : isO S a ci := ⟨by rw [h.1]; exact ha, by rw [h.2.1 a ha]; exact hk⟩
theorem PS.a {n t : Nat} {S : ShT} (h : PS n t S) {a b m : Nat} (ha : a < n) (hk : kd0 a = (b, m)) : isA S a b m := ⟨by rw [h.1]; exact ha, by rw [h.2.1 a ha]; exact hk⟩
theorem PS.r {n t : Nat} {S : ShT} (h : PS n t S) {a j r : Nat} (ha : a < n) (hm : (a, j) ∈ setL.take t) (hr : rf0 a j = some r) : S.2.2 a j = some r := by rw [h.2.2 a ha, if_pos hm]; exact hr
theorem setL_all : ∀ a, a < 149 → ∀ j, j < (rfL.getD a []).length → (a, j) ∈ setL ∨ rf0 a j = none := by decide +kernel
theorem PS.shp {n : Nat} {S : ShT} (h : PS 149 n S) (hn : setL.length = n) : SHP S := by
  refine ⟨Nat.le_of_eq h.1.symm, fun a ha => ⟨h.2.1 a ha, fun j => ?_⟩⟩
  rw [h.2.2 a ha j, ← hn, List.take_length]
  by_cases hm : (a, j) ∈ setL
  · rw [if_pos hm]
  · rw [if_neg hm]
    by_cases hj : j < (rfL.getD a []).length
    · exact ((setL_all a ha j hj).resolve_left hm).symm
    · unfold rf0
      rw [List.getD_eq_getElem?_getD (l := rfL.getD a []), List.getElem?_eq_none (by omega)]; rfl
/-- a memory by its list -/
def mA {α : Type} (z : α) (L : List ((Nat × Nat) × α)) : Nat → Nat → α := fun b j => (L.lookup (b, j)).getD z
theorem mA_st {α : Type} {z : α} {L : List ((Nat × Nat) × α)} {a k : Nat} {x : α} : u2 (mA z L) a k x = mA z (((a, k), x) :: L) := by
  funext b j
  unfold u2 mA
  rw [List.lookup_cons]
  by_cases h : b = a ∧ j = k
  · rw [if_pos h, h.1, h.2, beq_self_eq_true]; rfl
  · rw [if_neg h]
    have : ((b, j) == (a, k)) = false := by
      rw [beq_eq_false_iff_ne]
      intro q; injection q with q1 q2; exact h ⟨q1, q2⟩
    rw [this]
theorem mA_zf {α : Type} {z : α} {L : List ((Nat × Nat) × α)} {n : Nat} (h : ∀ p ∈ L, p.1.1 < n) : zf (mA z L) n z = mA z L := by
  funext b j
  by_cases hb : n ≤ b
  · rw [zf_ge hb]
    unfold mA
    cases hl : L.lookup (b, j) with
    | none => rfl
    | some x =>
      exfalso
      obtain ⟨l1, l2, e, _⟩ := List.lookup_eq_some_iff.mp hl
      have := h ((b, j), x) (by rw [e]; exact List.mem_append.mpr (Or.inr List.mem_cons_self))
      simp at this
      omega
  · rw [zf_lt (by omega)]
