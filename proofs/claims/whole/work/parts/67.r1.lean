/-! ===== HOLDING CLASS AND MODEL TOGETHER: the queue ===== -/
def QQ (s : Nat → Int32) (l : Int32) (m : Nat) (f g : Nat → Int32) : Prop :=
  m ≤ 8 ∧ (l = 0 ∨ l = 1) ∧ (¬ l = 0 → m = 0) ∧
  (∀ i, i < m → ∃ j, j < 16 ∧ g i = nI j ∧ (((f i = 1 ∨ f i = 2) ∧ s j = 2) ∨ (f i = 3 ∧ ¬ s j = 2))) ∧
  ∀ i k, i < m → k < m → g i = g k → i = k
def QE (m : Nat) (f g f' g' : Nat → Int32) : Prop := ∀ i, i < m → f i = f' i ∧ g i = g' i
theorem QQ.eq {s : Nat → Int32} {l : Int32} {m : Nat} {f g f' g' : Nat → Int32} (h : QQ s l m f g) (e : QE m f g f' g') : QQ s l m f' g' := by
  obtain ⟨h1, h2, h3, h4, h5⟩ := h
  refine ⟨h1, h2, h3, fun i hi => ?_, fun i k hi hk he => ?_⟩
  · rw [← (e i hi).1, ← (e i hi).2]; exact h4 i hi
  · rw [← (e i hi).2, ← (e k hk).2] at he; exact h5 i k hi hk he
theorem shf_v {f : Nat → Int32} {p i j : Nat} (h : j < i) : shf f p i j = f (if p ≤ j then j + 1 else j) := by
  unfold shf
  by_cases hp : p ≤ j
  · rw [if_pos ⟨hp, h⟩, if_pos hp]
  · rw [if_neg (fun q => hp q.1), if_neg hp]
theorem QQ.drop {s : Nat → Int32} {l : Int32} {m : Nat} {f g : Nat → Int32} (h : QQ s l m f g) (p : Nat) : QQ s l (m - 1) (shf f p (m - 1)) (shf g p (m - 1)) := by
  obtain ⟨h1, h2, h3, h4, h5⟩ := h
  refine ⟨by omega, h2, fun q => by have := h3 q; omega, fun i hi => ?_, fun i k hi hk he => ?_⟩
  · rw [shf_v hi, shf_v hi]; exact h4 _ (by split <;> omega)
  · rw [shf_v hi, shf_v hk] at he
    have := h5 _ _ (by split <;> omega) (by split <;> omega) he
    split at this <;> split at this <;> omega
theorem QE.drop {m : Nat} {f g f' g' : Nat → Int32} (e : QE m f g f' g') (p : Nat) : QE (m - 1) (shf f p (m - 1)) (shf g p (m - 1)) (shf f' p (m - 1)) (shf g' p (m - 1)) := fun i hi => by
  rw [shf_v hi, shf_v hi, shf_v hi, shf_v hi]; exact e _ (by split <;> omega)
theorem QQ.st {s s' : Nat → Int32} {l : Int32} {m j : Nat} {f g : Nat → Int32} (h : QQ s l m f g) (hs : ∀ i, i < 16 → i ≠ j → s' i = s i) (hn : ∀ i, i < m → ¬ g i = nI j) : QQ s' l m f g := by
  obtain ⟨h1, h2, h3, h4, h5⟩ := h
  refine ⟨h1, h2, h3, fun i hi => ?_, h5⟩
  obtain ⟨k, k1, k2, k3⟩ := h4 i hi
  exact ⟨k, k1, k2, by rw [hs k k1 (fun q => hn i hi (by rw [k2, q]))]; exact k3⟩
theorem QQ.sEq {s s' : Nat → Int32} {l : Int32} {m : Nat} {f g : Nat → Int32} (h : QQ s l m f g) (hs : ∀ i, i < 16 → (s' i = 2 ↔ s i = 2)) : QQ s' l m f g := by
  obtain ⟨h1, h2, h3, h4, h5⟩ := h
  refine ⟨h1, h2, h3, fun i hi => ?_, h5⟩
  obtain ⟨k, k1, k2, k3⟩ := h4 i hi
  exact ⟨k, k1, k2, by rw [hs k k1]; exact k3⟩
theorem plc_no {f : Nat → Int32} {x : Int32} : ∀ k i, ¬ plc f x i k < i + k → ∀ j, i ≤ j → j < i + k → ¬ f j = x
  | 0, i, _, j, h1, h2 => by omega
  | k + 1, i, h, j, h1, h2 => by
    rw [plc_s] at h
    by_cases hf : f i = x
    · rw [if_pos hf] at h; omega
    · rw [if_neg hf] at h
      by_cases hj : j = i
      · rw [hj]; exact hf
      · exact plc_no k (i + 1) (by omega) j (by omega) (by omega)
/-- what may be told: made (a file that was none), changed (a file), gone (a file no more) -/
def TlO (s s' : Nat → Int32) (j : Nat) (k : Int32) : Prop := (∀ i, i < 16 → i ≠ j → s' i = s i) ∧ ((k = 1 ∧ ¬ s j = 2 ∧ s' j = 2) ∨ (k = 2 ∧ s j = 2 ∧ s' j = 2) ∨ (k = 3 ∧ s j = 2 ∧ ¬ s' j = 2))
theorem tell_ag {s s' : Nat → Int32} {l l1 l2 k : Int32} {m m1 m2 j : Nat} {f g f1 g1 fM gM f2 g2 : Nat → Int32} (hj : j < 16) (h : QQ s l m f g) (e : QE m f g fM gM) (o : TlO s s' j k)
    (hq : TQ l m f g (nI j) k l1 m1 f1 g1) (hm : TM l m fM gM (nI j) k l2 m2 f2 g2) : QQ s' l1 m1 f1 g1 ∧ l1 = l2 ∧ m1 = m2 ∧ QE m1 f1 g1 f2 g2 := by
  obtain ⟨q1, q2, q3, q4, q5⟩ := hq
  obtain ⟨r1, r2, r3, r4, r5⟩ := hm
  have hp : plc gM (nI j) 0 m = plc g (nI j) 0 m := plc_eq (nI j) m 0 (fun i _ hi => (e i (by omega)).2.symm)
  rw [hp] at r2 r3 r4 r5
  by_cases h0 : l = 0
  · by_cases hlt : plc g (nI j) 0 m < m
    · have hg := plc_at g (nI j) m 0 (by omega)
      have ef := (e _ hlt).1
      obtain ⟨j1, a1, a2, a3⟩ := h.2.2.2.1 _ hlt
      have ej : j1 = j := (nI_eq (by omega) (by omega)).mp (a2.symm.trans hg)
      subst ej
      have hu : ∀ i, i < m → g i = nI j1 → i = plc g (nI j1) 0 m := fun i hi hgi => h.2.2.2.2 i _ hi hlt (hgi.trans hg.symm)
      by_cases hd : f (plc g (nI j1) 0 m) = 1 ∧ k = 3
      · obtain ⟨b1, b2, b3⟩ := q2 h0 hlt hd
        obtain ⟨c1, c2, c3⟩ := r2 h0 hlt (by rw [← ef, hd.1, hd.2]; decide)
        refine ⟨?_, by rw [b1, c1], by omega, fun i hi => ?_⟩
        · rw [b1, b2]
          refine (QQ.st (s' := s') (h.drop (plc g (nI j1) 0 m)) o.1 ?_).eq (fun i hi => ⟨(b3 i hi).1.symm, (b3 i hi).2.symm⟩)
          intro i hi hgi
          rw [shf_v hi] at hgi
          have := hu _ (by split <;> omega) hgi
          split at this <;> omega
        · have := e.drop (plc g (nI j1) 0 m) i (by omega)
          rw [(b3 i (by omega)).1, (b3 i (by omega)).2, (c3 i (by omega)).1, (c3 i (by omega)).2]
          exact this
      · have ht : tgM (f (plc g (nI j1) 0 m)) k = tgt (f (plc g (nI j1) 0 m)) k ∧ ¬ tgM (f (plc g (nI j1) 0 m)) k = 0 ∧ (((tgt (f (plc g (nI j1) 0 m)) k = 1 ∨ tgt (f (plc g (nI j1) 0 m)) k = 2) ∧ s' j1 = 2) ∨ (tgt (f (plc g (nI j1) 0 m)) k = 3 ∧ ¬ s' j1 = 2)) := by
          rcases o.2 with ⟨k1, s1, s2⟩ | ⟨k1, s1, s2⟩ | ⟨k1, s1, s2⟩
          · rcases a3 with ⟨_, w⟩ | ⟨w, _⟩
            · exact absurd w s1
            · rw [w, k1]; exact ⟨by decide, by decide, Or.inl ⟨by decide, s2⟩⟩
          · rcases a3 with ⟨w | w, _⟩ | ⟨_, w⟩
            · rw [w, k1]; exact ⟨by decide, by decide, Or.inl ⟨by decide, s2⟩⟩
            · rw [w, k1]; exact ⟨by decide, by decide, Or.inl ⟨by decide, s2⟩⟩
            · exact absurd s1 w
          · rcases a3 with ⟨w | w, _⟩ | ⟨_, w⟩
            · exact absurd ⟨w, k1⟩ hd
            · rw [w, k1]; exact ⟨by decide, by decide, Or.inr ⟨by decide, s2⟩⟩
            · exact absurd s1 w
        obtain ⟨b1, b2, b3⟩ := q3 h0 hlt hd
        obtain ⟨c1, c2, c3⟩ := r3 h0 hlt (by rw [← ef]; exact ht.2.1)
        refine ⟨?_, by rw [b1, c1], by omega, fun i hi => ?_⟩
        · rw [b1, b2]
          refine ⟨h.1, h.2.1, h.2.2.1, fun i hi => ?_, fun i k hi hk he => ?_⟩
          · obtain ⟨jx, w1, w2, w3⟩ := h.2.2.2.1 i hi
            refine ⟨jx, w1, by rw [(b3 i hi).1]; exact w2, ?_⟩
            rw [(b3 i hi).2]
            by_cases hi0 : i = plc g (nI j1) 0 m
            · rw [if_pos hi0]
              have : jx = j1 := (nI_eq (by omega) (by omega)).mp (w2.symm.trans (by rw [hi0]; exact hg))
              rw [this, hi0]; exact ht.2.2
            · rw [if_neg hi0, o.1 jx w1 (fun q => hi0 (hu i hi (by rw [w2, q])))]; exact w3
          · rw [(b3 i hi).1, (b3 k hk).1] at he; exact h.2.2.2.2 i k hi hk he
        · have hi' : i < m := by omega
          rw [(b3 i hi').1, (b3 i hi').2, (c3 i hi').1, (c3 i hi').2, ← (e i hi').1, ← (e i hi').2]
          refine ⟨?_, rfl⟩
          by_cases hi0 : i = plc g (nI j1) 0 m
          · rw [if_pos hi0, if_pos hi0, hi0, ht.1]
          · rw [if_neg hi0, if_neg hi0]
    · have hno := plc_no (f := g) (x := nI j) m 0 (by omega)
      by_cases h8 : m < 8
      · obtain ⟨b1, b2, b3, b4, b5⟩ := q4 h0 hlt h8
        obtain ⟨c1, c2, c3, c4, c5⟩ := r4 h0 hlt h8
        refine ⟨?_, by rw [b1, c1], by omega, fun i hi => ?_⟩
        · rw [b1, b2]
          have h' := h.st o.1 (fun i hi => hno i (by omega) (by omega))
          refine ⟨by omega, h.2.1, fun q => absurd h0 q, fun i hi => ?_, fun i k' hi hk he => ?_⟩
          · by_cases him : i = m
            · subst him
              refine ⟨j, hj, b4, ?_⟩
              rw [b3]
              rcases o.2 with ⟨k1, s1, s2⟩ | ⟨k1, s1, s2⟩ | ⟨k1, s1, s2⟩
              · exact Or.inl ⟨Or.inl k1, s2⟩
              · exact Or.inl ⟨Or.inr k1, s2⟩
              · exact Or.inr ⟨k1, s2⟩
            · rw [(b5 i (by omega)).1, (b5 i (by omega)).2]; exact h'.2.2.2.1 i (by omega)
          · by_cases him : i = m
            · by_cases hkm : k' = m
              · omega
              · rw [him, b4, (b5 k' (by omega)).2] at he; exact absurd he.symm (hno k' (by omega) (by omega))
            · by_cases hkm : k' = m
              · rw [hkm, b4, (b5 i (by omega)).2] at he; exact absurd he (hno i (by omega) (by omega))
              · rw [(b5 i (by omega)).2, (b5 k' (by omega)).2] at he; exact h.2.2.2.2 i k' (by omega) (by omega) he
        · by_cases him : i = m
          · rw [him, b3, b4, c3, c4]; exact ⟨rfl, rfl⟩
          · rw [(b5 i (by omega)).1, (b5 i (by omega)).2, (c5 i (by omega)).1, (c5 i (by omega)).2]; exact e i (by omega)
      · obtain ⟨b1, b2⟩ := q5 h0 hlt h8
        obtain ⟨c1, c2⟩ := r5 h0 hlt h8
        refine ⟨?_, by rw [b1, c1], by omega, fun i hi => by omega⟩
        rw [b1, b2]
        exact ⟨by omega, Or.inr rfl, fun _ => rfl, fun i hi => by omega, fun i k hi => by omega⟩
  · obtain ⟨b1, b2, b3⟩ := q1 h0
    obtain ⟨c1, c2, c3⟩ := r1 h0
    have hm0 := h.2.2.1 h0
    refine ⟨?_, by rw [b1, c1], by omega, fun i hi => by omega⟩
    rw [b1, b2, hm0]
    exact ⟨by omega, h.2.1, fun _ => rfl, fun i hi => by omega, fun i k hi => by omega⟩
