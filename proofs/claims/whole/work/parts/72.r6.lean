/-! ===== REL: the class's cells (A, K) and the model's (B, M) say the same ===== -/
def TrR (A B : DI) : Prop := TS (A 2) (A 3) ∧ (∀ j, j < 16 → A 2 j = mst B j) ∧ B 127 0 = -1 ∧ ∀ j, 1 ≤ j → j < 16 → A 3 j = B 127 j
def QuS (s : Nat → Int32) (A B : DI) : Prop := ∃ m, QQ s (A 22 3) m (A 23) (A 24) ∧ A 22 2 = nI m ∧ B 124 9 = nI m ∧ B 124 10 = A 22 3 ∧ QE m (A 23) (A 24) (B 131) (B 132)
def YR (A B : DI) : Prop := ∃ n, n ≤ 40 ∧ A 76 1 = nI n ∧ B 124 18 = nI n ∧ ∀ i, i < n → A 77 i = B 138 i ∧ isCd (A 77 i) = true
def RR (A B : DI) : Prop := ∃ q, q ≤ 16 ∧ A 121 2 = nI q ∧ B 124 33 = nI q ∧ ∀ i, i < q → A 122 i = B 146 i ∧ A 123 i = B 147 i
def REL0 (A : DI) (K : DJ) (B : DI) (M : DJ) : Prop := CoR A B ∧ XR A K B M ∧ YR A B ∧ A 0 5 = B 124 30 ∧ RR A B
def REL (A : DI) (K : DJ) (B : DI) (M : DJ) : Prop := REL0 A K B M ∧ TrR A B ∧ QuS (A 2) A B
theorem YR.c {A B A1 B1 : DI} (h : YR A B) (a1 : A1 76 1 = A 76 1) (a2 : A1 77 = A 77) (b1 : B1 124 18 = B 124 18) (b2 : B1 138 = B 138) : YR A1 B1 := by
  unfold YR; rw [a1, a2, b1, b2]; exact h
theorem RR.c {A B A1 B1 : DI} (h : RR A B) (a1 : A1 121 2 = A 121 2) (a2 : A1 122 = A 122) (a3 : A1 123 = A 123) (b1 : B1 124 33 = B 124 33) (b2 : B1 146 = B 146) (b3 : B1 147 = B 147) : RR A1 B1 := by
  unfold RR; rw [a1, a2, a3, b1, b2, b3]; exact h
theorem QuS.c {s : Nat → Int32} {A B A1 B1 : DI} (h : QuS s A B) (a1 : A1 22 2 = A 22 2) (a2 : A1 22 3 = A 22 3) (a3 : A1 23 = A 23) (a4 : A1 24 = A 24) (b1 : B1 124 9 = B 124 9) (b2 : B1 124 10 = B 124 10) (b3 : B1 131 = B 131) (b4 : B1 132 = B 132) : QuS s A1 B1 := by
  unfold QuS; rw [a1, a2, a3, a4, b1, b2, b3, b4]; exact h
theorem TrR.c {A B A1 B1 : DI} (h : TrR A B) (a1 : A1 2 = A 2) (a2 : A1 3 = A 3) (b1 : B1 125 = B 125) (b2 : B1 126 = B 126) (b3 : B1 127 = B 127) : TrR A1 B1 := by
  unfold TrR mst; rw [a1, a2, b1, b2, b3]; exact h
/-- what REL0 does not see: the tree, the queue, thrown -/
theorem REL0.c {A B A1 B1 : DI} {K K1 M M1 : DJ} (h : REL0 A K B M) (hA : ∀ b, b < 124 → b ≠ 2 → b ≠ 3 → b ≠ 22 → b ≠ 23 → b ≠ 24 → A1 b = A b) (hK : ∀ b, 25 ≤ b → b < 76 → K1 b = K b)
    (hB : ∀ b, 128 ≤ b → b < 148 → b ≠ 130 → b ≠ 131 → b ≠ 132 → B1 b = B b) (hB4 : ∀ j, j ≠ 0 → j ≠ 9 → j ≠ 10 → B1 124 j = B 124 j) (hM : M1 135 = M 135) : REL0 A1 K1 B1 M1 := by
  obtain ⟨h1, h2, h3, h4, h5⟩ := h
  refine ⟨h1.c (fun b b1 b2 => hA b (by omega) (by omega) (by omega) (by omega) (by omega) (by omega)) (hB 128 (by decide) (by decide) (by decide) (by decide) (by decide)) (hB 129 (by decide) (by decide) (by decide) (by decide) (by decide)),
    h2.c (fun b b1 b2 => hA b (by omega) (by omega) (by omega) (by omega) (by omega) (by omega)) hK (fun b hb => hB b (by omega) (by omega) (by omega) (by omega) (by omega)) (hB4 11 (by decide) (by decide) (by decide)) hM,
    h3.c (by rw [hA 76 (by decide) (by decide) (by decide) (by decide) (by decide) (by decide)]) (hA 77 (by decide) (by decide) (by decide) (by decide) (by decide) (by decide)) (hB4 18 (by decide) (by decide) (by decide)) (hB 138 (by decide) (by decide) (by decide) (by decide) (by decide)), ?_,
    h5.c (by rw [hA 121 (by decide) (by decide) (by decide) (by decide) (by decide) (by decide)]) (hA 122 (by decide) (by decide) (by decide) (by decide) (by decide) (by decide)) (hA 123 (by decide) (by decide) (by decide) (by decide) (by decide) (by decide)) (hB4 33 (by decide) (by decide) (by decide)) (hB 146 (by decide) (by decide) (by decide) (by decide) (by decide)) (hB 147 (by decide) (by decide) (by decide) (by decide) (by decide))⟩
  rw [hA 0 (by decide) (by decide) (by decide) (by decide) (by decide) (by decide), hB4 30 (by decide) (by decide) (by decide)]; exact h4
theorem REL.c {A B A1 B1 : DI} {K K1 M M1 : DJ} (h : REL A K B M) (hA : ∀ b, b < 124 → A1 b = A b) (hK : ∀ b, b < 124 → K1 b = K b)
    (hB : ∀ b, 125 ≤ b → b < 148 → B1 b = B b) (hB4 : ∀ j, j ≠ 0 → B1 124 j = B 124 j) (hM : ∀ b, 124 ≤ b → b < 148 → M1 b = M b) : REL A1 K1 B1 M1 := by
  obtain ⟨h1, h2, h3⟩ := h
  refine ⟨h1.c (fun b hb _ _ _ _ _ => hA b hb) (fun b _ hb => hK b (by omega)) (fun b hb hb' _ _ _ => hB b (by omega) hb') (fun j hj _ _ => hB4 j hj) (hM 135 (by decide) (by decide)),
    h2.c (hA 2 (by decide)) (hA 3 (by decide)) (hB 125 (by decide) (by decide)) (hB 126 (by decide) (by decide)) (hB 127 (by decide) (by decide)), ?_⟩
  rw [hA 2 (by decide)]
  exact h3.c (by rw [hA 22 (by decide)]) (by rw [hA 22 (by decide)]) (hA 23 (by decide)) (hA 24 (by decide)) (hB4 9 (by decide)) (hB4 10 (by decide)) (hB 131 (by decide) (by decide)) (hB 132 (by decide) (by decide))
theorem REL.th {A B : DI} {K M : DJ} (h : REL A K B M) (x : Int32) : REL A K (u2 B 124 0 x) M := h.c (fun _ _ => rfl) (fun _ _ => rfl) (fun b hb _ => u2_o (by omega)) (fun j hj => u2_n (Or.inr hj)) (fun _ _ _ => rfl)
/-- what a call answers: the same on both sides; T: the number of an exception's class -/
def AG (T : Nat → Int32) (r : Int32 ⊕ Nat) (x : Int32) (B1 : DI) : Prop := match r with
  | .inl y => B1 124 0 = 0 ∧ x = y
  | .inr c => B1 124 0 = T c
def cdT (a b c : Int32) (k : Nat) : Int32 := if k = 9 then a else if k = 10 then b else c
theorem TrR.nd {A B : DI} (h : TrR A B) (x : Int32) : ndS A x = mdS B x := by
  cases hx : isNd x with
  | false => rw [ndS_n hx, mdS_n hx]
  | true =>
    obtain ⟨j, hj, rfl⟩ := isNd_j hx
    rw [ndS_j hj, mdS_j hj, h.2.1 j hj]
theorem TrR.cl {A B : DI} (h : TrR A B) : ∀ i, i < 16 → (A 3 i).toNatClampNeg < 16 := h.1.cl
theorem TrR.wup {A B : DI} (h : TrR A B) {f : Int32} {k a : Nat} (ha : a < 16) : wup (A 3) f k a = wup (B 127) f k a := wup_c h.cl h.2.2.2 k a ha
/-- telling -/
theorem tell_rel {A B A1 B1 : DI} {s : Nat → Int32} {j : Nat} {k : Int32} (hj : j < 16) (hq : QuS s A B) (ho : TlO s (A 2) j k) (ha : Tl A (nI j) k A1) (hb : TlM B (nI j) k B1) : QuS (A1 2) A1 B1 ∧ (∀ b, b ≠ 22 → b ≠ 23 → b ≠ 24 → A1 b = A b) ∧ (∀ j, j ≠ 9 → j ≠ 10 → B1 124 j = B 124 j) ∧ (∀ b, b ≠ 124 → b ≠ 131 → b ≠ 132 → B1 b = B b) := by
  obtain ⟨m, q1, q2, q3, q4, q5⟩ := hq
  obtain ⟨m1, m1', a1, a2, a3, a4, a5, a6⟩ := ha
  obtain ⟨m2, m2', b1, b2, b3, b4, b5, b6, b7⟩ := hb
  have hm := q1.1
  have e1 : m1 = m := (nI_eq (by omega) (by omega)).mp (a1.symm.trans q2)
  have e2 : m2 = m := (nI_eq (by omega) (by omega)).mp (b1.symm.trans q3)
  subst e1; subst e2
  rw [q4] at b5
  obtain ⟨r1, r2, r3, r4⟩ := tell_ag hj q1 q5 ho a5 b5
  refine ⟨⟨m1', ?_, a3, by rw [r3]; exact b3, r2.symm, r4⟩, a6, b6, b7⟩
  rw [a6 2 (by decide) (by decide) (by decide)]; exact r1
theorem mk_ag {A B A1 B1 : DI} {K K1 M : DJ} {a b x : Int32} {p : Bool} {r : Int32 ⊕ Nat} (h : REL A K B M) (h0 : B 124 0 = 0) (ha : MkQ A K a b p r A1 K1) (hb : MkM B a b p x B1) : AG (cdT 1 2 0) r x B1 ∧ REL A1 K1 B1 M := by
  obtain ⟨rfl, ha⟩ := ha
  obtain ⟨hR, hT, hQ⟩ := h
  rcases ha with ⟨a1, rfl, rfl⟩ | ⟨a1, a2, a3, rfl, rfl⟩ | ⟨j, k, a1, a2, a3, a4, a5, a6, a7, rfl, a8⟩
  · rcases hb with ⟨_, _, rfl⟩ | ⟨b1, b2, _⟩ | ⟨j, k, rfl, b2, b3, rfl, b5, _⟩
    · exact ⟨u2_s, REL.th ⟨hR, hT, hQ⟩ _⟩
    · rw [b1, b2] at a1; exact absurd a1 (by decide)
    · rw [isNb_nI b2 b3, isNd_nI b5] at a1; exact absurd a1 (by decide)
  · rw [hT.nd a, hT.nd b] at a3
    rcases hb with ⟨b1, _⟩ | ⟨_, _, _, _, rfl⟩ | ⟨j, k, rfl, b2, b3, rfl, b5, b6, b7, _⟩
    · rw [a1, a2] at b1; exact absurd b1 (by decide)
    · exact ⟨u2_s, REL.th ⟨hR, hT, hQ⟩ _⟩
    · rw [mdS_j b3, mdS_j b5, b6, b7] at a3; exact absurd a3 (by decide)
  · subst a1; subst a4
    rcases hb with ⟨b1, _⟩ | ⟨_, _, b3, _⟩ | ⟨j', k', b1, b2, b3, b4, b5, b6, b7, rfl, b8⟩
    · rw [isNb_nI a2 a3, isNd_nI a5] at b1; exact absurd b1 (by decide)
    · rw [← hT.nd, ← hT.nd, ndS_j a3, ndS_j a5, a6, a7] at b3; exact absurd b3 (by decide)
    · have ej : j' = j := (nI_eq (by omega) (by omega)).mp b1.symm
      have ek : k' = k := (nI_eq (by omega) (by omega)).mp b4.symm
      subst ej; subst ek
      have hv : ¬ (if p then (1 : Int32) else 2) = 0 := by cases p <;> decide
      have m2 : ∀ i, mk1 A j' k' p 2 i = if i = j' then (if p then 1 else 2) else A 2 i := fun i => by
        unfold mk1
        rw [u2_o (by decide), u2_o (by decide)]
        by_cases hi : i = j'
        · rw [if_pos hi, hi, u2_s]
        · rw [if_neg hi, u2_n (Or.inr hi)]
      have m3 : ∀ i, mk1 A j' k' p 3 i = if i = j' then nI k' else A 3 i := fun i => by
        unfold mk1
        rw [u2_o (by decide)]
        by_cases hi : i = j'
        · rw [if_pos hi, hi, u2_s]
        · rw [if_neg hi, u2_n (Or.inr hi), u2_o (by decide)]
      have n7 : ∀ i, mk1M B j' k' p 127 i = if i = j' then nI k' else B 127 i := fun i => by
        unfold mk1M
        rw [u2_o (by decide)]
        by_cases hi : i = j'
        · rw [if_pos hi, hi, u2_s]
        · rw [if_neg hi, u2_n (Or.inr hi), u2_o (by decide), u2_o (by decide)]
      have n5 : ∀ i, mk1M B j' k' p 125 i = if i = j' then 1 else B 125 i := fun i => by
        unfold mk1M
        rw [u2_o (by decide), u2_o (by decide), u2_o (by decide)]
        by_cases hi : i = j'
        · rw [if_pos hi, hi, u2_s]
        · rw [if_neg hi, u2_n (Or.inr hi)]
      have n6 : ∀ i, mk1M B j' k' p 126 i = if i = j' then bI p else B 126 i := fun i => by
        unfold mk1M
        rw [u2_o (by decide), u2_o (by decide)]
        by_cases hi : i = j'
        · rw [if_pos hi, hi, u2_s]
        · rw [if_neg hi, u2_n (Or.inr hi), u2_o (by decide)]
      have ns : ∀ i, mst (mk1M B j' k' p) i = if i = j' then (if p then 1 else 2) else mst B i := fun i => by
        unfold mst
        rw [n5, n6]
        by_cases hi : i = j'
        · rw [if_pos hi, if_pos hi, if_pos hi]; cases p <;> decide
        · rw [if_neg hi, if_neg hi, if_neg hi]
      have hT1 : TrR (mk1 A j' k' p) (mk1M B j' k' p) := by
        refine ⟨hT.1.make a2 a3 a6 a5 a7 m2 m3, fun i hi => by rw [m2, ns, hT.2.1 i hi], by rw [n7, if_neg (by omega)]; exact hT.2.2.1, fun i hi1 hi => ?_⟩
        rw [m3, n7, hT.2.2.2 i hi1 hi]
      have hC1 : CoR (mk1 A j' k' p) (mk1M B j' k' p) := by
        intro i hi
        obtain ⟨q, q1, q2, q3, q4⟩ := hR.1 i hi
        by_cases hij : i = j'
        · refine ⟨0, by omega, ?_, ?_, fun t ht => by omega⟩
          · unfold mk1; rw [hij, u2_s]; exact nI_0.symm
          · unfold mk1M; rw [hij, u2_s]; exact nI_0.symm
        · refine ⟨q, q1, ?_, ?_, fun t ht => ?_⟩
          · unfold mk1; rw [u2_n (Or.inr hij), u2_o (by decide), u2_o (by decide)]; exact q2
          · unfold mk1M; rw [u2_n (Or.inr hij), u2_o (by decide), u2_o (by decide), u2_o (by decide)]; exact q3
          · unfold mk1 mk1M
            rw [u2_o (by omega), u2_o (by omega), u2_o (by omega), u2_o (by decide), u2_o (by decide), u2_o (by decide), u2_o (by decide)]
            exact q4 t ht
      have eA : ∀ b, b ≠ 2 → b ≠ 3 → b ≠ 21 → mk1 A j' k' p b = A b := fun b b1 b2 b3 => by unfold mk1; rw [u2_o b3, u2_o b2, u2_o b1]
      have eB : ∀ b, b ≠ 125 → b ≠ 126 → b ≠ 127 → b ≠ 129 → mk1M B j' k' p b = B b := fun b b1 b2 b3 b4 => by unfold mk1M; rw [u2_o b4, u2_o b3, u2_o b2, u2_o b1]
      have hR1 : REL0 (mk1 A j' k' p) K1 (mk1M B j' k' p) M := by
        obtain ⟨_, h2, h3, h4, h5⟩ := hR
        refine ⟨hC1, h2.c (fun b _ _ => eA b (by omega) (by omega) (by omega)) (fun _ _ _ => rfl) (fun b hb => eB b (by omega) (by omega) (by omega) (by omega)) (by rw [eB 124 (by decide) (by decide) (by decide) (by decide)]) rfl, h3.c (by rw [eA 76 (by decide) (by decide) (by decide)]) (eA 77 (by decide) (by decide) (by decide)) (by rw [eB 124 (by decide) (by decide) (by decide) (by decide)]) (eB 138 (by decide) (by decide) (by decide) (by decide)), ?_, h5.c (by rw [eA 121 (by decide) (by decide) (by decide)]) (eA 122 (by decide) (by decide) (by decide)) (eA 123 (by decide) (by decide) (by decide)) (by rw [eB 124 (by decide) (by decide) (by decide) (by decide)]) (eB 146 (by decide) (by decide) (by decide) (by decide)) (eB 147 (by decide) (by decide) (by decide) (by decide))⟩
        rw [eA 0 (by decide) (by decide) (by decide), eB 124 (by decide) (by decide) (by decide) (by decide)]; exact h4
      have hQ1 : QuS (A 2) (mk1 A j' k' p) (mk1M B j' k' p) := hQ.c (by rw [eA 22 (by decide) (by decide) (by decide)]) (by rw [eA 22 (by decide) (by decide) (by decide)]) (eA 23 (by decide) (by decide) (by decide)) (eA 24 (by decide) (by decide) (by decide)) (by rw [eB 124 (by decide) (by decide) (by decide) (by decide)]) (by rw [eB 124 (by decide) (by decide) (by decide) (by decide)]) (eB 131 (by decide) (by decide) (by decide) (by decide)) (eB 132 (by decide) (by decide) (by decide) (by decide))
      cases p with
      | true =>
        obtain ⟨_, rfl⟩ := a8.resolve_right (fun q => by cases q.1)
        obtain ⟨_, rfl⟩ := b8.resolve_right (fun q => by cases q.1)
        refine ⟨⟨by rw [eB 124 (by decide) (by decide) (by decide) (by decide)]; exact h0, rfl⟩, hR1, hT1, ?_⟩
        obtain ⟨m, z1, z2⟩ := hQ1
        refine ⟨m, z1.sEq (fun i hi => ?_), z2⟩
        rw [m2]
        by_cases hi : i = j'
        · rw [if_pos hi, hi, a6]; decide
        · rw [if_neg hi]
      | false =>
        obtain ⟨_, a9⟩ := a8.resolve_left (fun q => by cases q.1)
        obtain ⟨_, b9⟩ := b8.resolve_left (fun q => by cases q.1)
        obtain ⟨y1, y2, y3, y4⟩ := tell_rel a3 hQ1 ⟨fun i hi hij => by rw [m2, if_neg hij], Or.inl ⟨rfl, by rw [a6]; decide, by rw [m2, if_pos rfl]; rfl⟩⟩ a9 b9
        refine ⟨⟨by rw [y3 0 (by decide) (by decide), eB 124 (by decide) (by decide) (by decide) (by decide)]; exact h0, rfl⟩, hR1.c (fun b _ _ _ b1 b2 b3 => y2 b b1 b2 b3) (fun _ _ _ => rfl) (fun b _ _ _ b1 b2 => y4 b (by omega) b1 b2) (fun j _ j1 j2 => y3 j j1 j2) rfl, hT1.c (y2 2 (by decide) (by decide) (by decide)) (y2 3 (by decide) (by decide) (by decide)) (y4 125 (by decide) (by decide) (by decide)) (y4 126 (by decide) (by decide) (by decide)) (y4 127 (by decide) (by decide) (by decide)), y1⟩
