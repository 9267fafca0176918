theorem co_tell {A B A' B' A1 B1 : DI} {K M : DJ} {j : Nat} (hj : j < 16) (h : REL A K B M) (hs : A 2 j = 2) (eA : ∀ b, (b < 5 ∨ 22 ≤ b) → A' b = A b) (eB : ∀ b, b ≠ 128 → b ≠ 129 → B' b = B b) (hC : CoR A' B') (ha : Tl A' (nI j) 2 A1) (hb : TlM B' (nI j) 2 B1) : REL A1 K B1 M ∧ B1 124 0 = B 124 0 := by
  obtain ⟨⟨_, h2, h3, h4, h5⟩, hT, hQ⟩ := h
  have e4 := eB 124 (by decide) (by decide)
  have hR1 : REL0 A' K B' M := by
    refine ⟨hC, h2.c (fun b _ _ => eA b (by omega)) (fun _ _ _ => rfl) (fun b hb => eB b (by omega) (by omega)) (by rw [e4]) rfl, h3.c (by rw [eA 76 (by decide)]) (eA 77 (by decide)) (by rw [e4]) (eB 138 (by decide) (by decide)), ?_, h5.c (by rw [eA 121 (by decide)]) (eA 122 (by decide)) (eA 123 (by decide)) (by rw [e4]) (eB 146 (by decide) (by decide)) (eB 147 (by decide) (by decide))⟩
    rw [eA 0 (by decide), e4]; exact h4
  have hT1 : TrR A' B' := hT.c (eA 2 (by decide)) (eA 3 (by decide)) (eB 125 (by decide) (by decide)) (eB 126 (by decide) (by decide)) (eB 127 (by decide) (by decide))
  have hQ1 : QuS (A 2) A' B' := hQ.c (by rw [eA 22 (by decide)]) (by rw [eA 22 (by decide)]) (eA 23 (by decide)) (eA 24 (by decide)) (by rw [e4]) (by rw [e4]) (eB 131 (by decide) (by decide)) (eB 132 (by decide) (by decide))
  obtain ⟨y1, y2, y3, y4⟩ := tell_rel hj hQ1 ⟨fun i hi hij => by rw [eA 2 (by decide)], Or.inr (Or.inl ⟨rfl, hs, by rw [eA 2 (by decide)]; exact hs⟩)⟩ ha hb
  exact ⟨⟨hR1.c (fun b _ _ _ b1 b2 b3 => y2 b b1 b2 b3) (fun _ _ _ => rfl) (fun b _ _ _ b1 b2 => y4 b (by omega) b1 b2) (fun j _ j1 j2 => y3 j j1 j2) rfl, hT1.c (y2 2 (by decide) (by decide) (by decide)) (y2 3 (by decide) (by decide) (by decide)) (y4 125 (by decide) (by decide) (by decide)) (y4 126 (by decide) (by decide) (by decide)) (y4 127 (by decide) (by decide) (by decide)), y1⟩, by rw [y3 0 (by decide) (by decide), e4]⟩
theorem nI_r {n : Int32} {k m : Nat} (hn : n = nI k) (hk : k ≤ m) (hm : m < 2 ^ 31) : ¬ (n < 0 ∨ ¬ n ≤ nI m) := by
  subst hn
  intro h
  rcases h with h | h
  · exact nI_pos (by omega) h
  · exact h (nI_le hk hm)
theorem ct_ag {A B A1 B1 : DI} {K K1 M : DJ} {a n x : Int32} {r : Int32 ⊕ Nat} (h : REL A K B M) (h0 : B 124 0 = 0) (ha : CtQ A K a n r A1 K1) (hb : CtM B a n x B1) : AG (cdT 2 0 1) r x B1 ∧ REL A1 K1 B1 M := by
  obtain ⟨rfl, ha⟩ := ha
  have hT := h.2.1
  rcases ha with ⟨a1, rfl, rfl⟩ | ⟨j, m, rfl, a2, a3, a4, a5, a6⟩
  · rcases hb with ⟨_, _, rfl⟩ | ⟨j, m, rfl, b2, b3, _⟩
    · exact ⟨u2_s, h.th _⟩
    · rw [hT.nd, mdS_j b2] at a1; exact absurd b3 a1
  · rcases hb with ⟨b1, _⟩ | ⟨j', m', b1, b2, b3, b4, b5, b6⟩
    · rw [← hT.nd, ndS_j a2] at b1; exact absurd a3 b1
    · have ej : j' = j := (nI_eq (by omega) (by omega)).mp b1.symm
      subst ej
      obtain ⟨q, q1, q2, q3, q4⟩ := h.1.1 j' b2
      have e1 : m = q := (nI_eq (by omega) (by omega)).mp (a4.symm.trans q2)
      have e2 : m' = q := (nI_eq (by omega) (by omega)).mp (b4.symm.trans q3)
      subst e1; subst e2
      rcases a6 with ⟨c1, rfl, rfl⟩ | ⟨k, c1, c2, rfl, c3⟩
      · rcases b6 with ⟨_, _, rfl⟩ | ⟨k, d1, d2, _⟩
        · exact ⟨u2_s, h.th _⟩
        · exact absurd c1 (nI_r d1 d2 (by omega))
      · rcases b6 with ⟨d1, _⟩ | ⟨k', d1, d2, rfl, d3⟩
        · exact absurd d1 (nI_r c1 c2 (by omega))
        · have ek : k' = k := (nI_eq (by omega) (by omega)).mp (d1.symm.trans c1)
          subst ek
          rcases c3 with ⟨c3, rfl⟩ | ⟨c3, c4⟩
          · rcases d3 with ⟨_, rfl⟩ | ⟨d3, _⟩
            · rw [c3, u2_self b4]; exact ⟨⟨h0, rfl⟩, h⟩
            · omega
          · rcases d3 with ⟨d3, _⟩ | ⟨_, d4⟩
            · omega
            · obtain ⟨y1, y2⟩ := co_tell b2 h a3 (fun b hb => u2_o (by omega)) (fun b _ hb => u2_o hb) (fun i hi => by
                obtain ⟨q, y1, y2, y3, y4⟩ := h.1.1 i hi
                by_cases hij : i = j'
                · subst hij
                  have e3 : q = m' := (nI_eq (by omega) (by omega)).mp (y2.symm.trans a4)
                  refine ⟨k', by omega, u2_s, u2_s, fun t ht => ?_⟩
                  rw [u2_o (by omega), u2_o (by decide)]; exact y4 t (by omega)
                · refine ⟨q, y1, by rw [u2_n (Or.inr hij)]; exact y2, by rw [u2_n (Or.inr hij)]; exact y3, fun t ht => ?_⟩
                  rw [u2_o (by omega), u2_o (by decide)]; exact y4 t ht) c4 d4
              exact ⟨⟨by rw [y2]; exact h0, rfl⟩, y1⟩
theorem mv_ag {A B A1 B1 : DI} {K K1 M : DJ} {a b x : Int32} {r : Int32 ⊕ Nat} (h : REL A K B M) (h0 : B 124 0 = 0) (ha : MvQ A K a b r A1 K1) (hb : MvM B a b x B1) : AG (cdT 1 3 2) r x B1 ∧ REL A1 K1 B1 M := by
  obtain ⟨rfl, ha⟩ := ha
  have hT := h.2.1
  rcases ha with ⟨a1, rfl, rfl⟩ | ⟨a1, a2, a3, rfl, rfl⟩ | ⟨j, k, a1, a2, a3, a4, a5, a6, a7, a8⟩
  · rcases hb with ⟨_, _, rfl⟩ | ⟨b1, b2, _⟩ | ⟨j, k, rfl, b2, b3, rfl, b5, _⟩
    · exact ⟨u2_s, h.th _⟩
    · rw [b1, b2] at a1; exact absurd a1 (by decide)
    · rw [isNb_nI b2 b3, isNd_nI b5] at a1; exact absurd a1 (by decide)
  · rw [hT.nd a, hT.nd b] at a3
    rcases hb with ⟨b1, _⟩ | ⟨_, _, _, _, rfl⟩ | ⟨j, k, rfl, b2, b3, rfl, b5, b6, b7, _⟩
    · rw [a1, a2] at b1; exact absurd b1 (by decide)
    · exact ⟨u2_s, h.th _⟩
    · rw [mdS_j b3, mdS_j b5, b7] at a3; exact absurd a3 (fun q => q.elim b6 (fun q => q rfl))
  · subst a1; subst a4
    rcases hb with ⟨b1, _⟩ | ⟨_, _, b3, _⟩ | ⟨j', k', b1, b2, b3, b4, b5, b6, b7, b8⟩
    · rw [isNb_nI a2 a3, isNd_nI a5] at b1; exact absurd b1 (by decide)
    · rw [← hT.nd, ← hT.nd, ndS_j a3, ndS_j a5, a7] at b3; exact absurd b3 (fun q => q.elim a6 (fun q => q rfl))
    · have ej : j' = j := (nI_eq (by omega) (by omega)).mp b1.symm
      have ek : k' = k := (nI_eq (by omega) (by omega)).mp b4.symm
      subst ej; subst ek
      rw [← hT.wup a5] at b8
      rcases a8 with ⟨c1, rfl, rfl⟩ | ⟨c1, c2, c3⟩
      · rcases b8 with ⟨_, _, rfl⟩ | ⟨d1, d2, _⟩
        · exact ⟨u2_s, h.th _⟩
        · rw [d2] at c1; exact absurd c1 (fun q => q.elim d1 (fun q => by cases q))
      · rcases b8 with ⟨d1, _⟩ | ⟨d1, d2, d3, rfl⟩
        · rw [c2] at d1; exact absurd d1 (fun q => q.elim c1 (fun q => by cases q))
        · have e3 := hT.2.2.2 j' a2 a3
          have hR : REL (u2 A 3 j' (nI k')) K1 (u2 B 127 j' (nI k')) M := by
            obtain ⟨hR, hT, hQ⟩ := h
            have m3 : ∀ i, u2 A 3 j' (nI k') 3 i = if i = j' then nI k' else A 3 i := fun i => by
              by_cases hi : i = j'
              · rw [if_pos hi, hi, u2_s]
              · rw [if_neg hi, u2_n (Or.inr hi)]
            refine ⟨hR.c (fun b _ _ hb _ _ _ => u2_o hb) (fun _ _ _ => rfl) (fun b _ _ _ _ _ => u2_o (by omega)) (fun j _ _ _ => by rw [u2_o (by decide)]) rfl, ⟨?_, fun i hi => ?_, ?_, fun i hi1 hi => ?_⟩, ?_⟩
            · rw [u2_o (by decide)]
              exact hT.1.move a3 a5 a7 (fun q => c1 (by rw [q])) c2 m3
            · unfold mst; rw [u2_o (by decide), u2_o (by decide), u2_o (by decide)]; exact hT.2.1 i hi
            · rw [u2_n (Or.inr (by omega))]; exact hT.2.2.1
            · by_cases hij : i = j'
              · rw [hij, u2_s, u2_s]
              · rw [u2_n (Or.inr hij), u2_n (Or.inr hij)]; exact hT.2.2.2 i hi1 hi
            · rw [u2_o (by decide)]
              exact hQ.c (by rw [u2_o (by decide)]) (by rw [u2_o (by decide)]) (u2_o (by decide)) (u2_o (by decide)) (by rw [u2_o (by decide)]) (by rw [u2_o (by decide)]) (u2_o (by decide)) (u2_o (by decide))
          have h04 : u2 B 127 j' (nI k') 124 0 = 0 := by rw [u2_o (by decide)]; exact h0
          rcases c3 with ⟨c3, rfl, rfl⟩ | ⟨c3, rfl, rfl⟩
          · rcases d3 with ⟨_, rfl⟩ | ⟨d3, _⟩
            · rw [u2_self c3] at hR; exact ⟨⟨h04, rfl⟩, hR⟩
            · exact absurd (e3.symm.trans c3) d3
          · rcases d3 with ⟨d3, _⟩ | ⟨_, rfl⟩
            · exact absurd (e3.trans d3) c3
            · exact ⟨⟨h04, rfl⟩, hR⟩
theorem ty_ag {A B A1 B1 : DI} {K K1 M : DJ} {n n' : Nat} {x r' : Int32} {r : Int32 ⊕ Nat} (h : REL A K B M) (h0 : B 124 0 = 0) (hn : A 76 1 = nI n) (hn' : B 124 18 = nI n') (n40 : n ≤ 40) (n40' : n' ≤ 40) (ha : TyQ A K n x r A1 K1) (hb : TyM B n' x r' B1) : AG (cdT 1 2 0) r r' B1 ∧ REL A1 K1 B1 M := by
  obtain ⟨rfl, ha⟩ := ha
  obtain ⟨q, q1, q2, q3, q4⟩ := h.1.2.2.1
  have e1 : n = q := (nI_eq (by omega) (by omega)).mp (hn.symm.trans q2)
  have e2 : n' = q := (nI_eq (by omega) (by omega)).mp (hn'.symm.trans q3)
  subst e1; subst e2
  rcases ha with ⟨a1, rfl, rfl⟩ | ⟨a1, a2, rfl, rfl⟩ | ⟨a1, a2, rfl, rfl⟩
  · rcases hb with ⟨_, _, rfl⟩ | ⟨b1, _⟩ | ⟨b1, _⟩
    · exact ⟨u2_s, h.th _⟩
    · rw [a1] at b1; cases b1
    · rw [a1] at b1; cases b1
  · rcases hb with ⟨b1, _⟩ | ⟨_, _, _, rfl⟩ | ⟨_, b2, _⟩
    · rw [a1] at b1; cases b1
    · exact ⟨u2_s, h.th _⟩
    · omega
  · rcases hb with ⟨b1, _⟩ | ⟨_, b2, _⟩ | ⟨_, _, rfl, rfl⟩
    · rw [a1] at b1; cases b1
    · omega
    · refine ⟨⟨by rw [u2_n (Or.inr (by decide)), u2_o (by decide)]; exact h0, rfl⟩, ?_⟩
      obtain ⟨⟨h1, h2, h3, h4, h5⟩, hT, hQ⟩ := h
      have eA : ∀ b, b ≠ 76 → b ≠ 77 → u2 (u2 A 77 n' x) 76 1 (nI (n' + 1)) b = A b := fun b b1 b2 => by rw [u2_o b1, u2_o b2]
      have eB : ∀ b, b ≠ 124 → b ≠ 138 → u2 (u2 B 138 n' x) 124 18 (nI (n' + 1)) b = B b := fun b b1 b2 => by rw [u2_o b1, u2_o b2]
      have eB4 : ∀ i, i ≠ 18 → u2 (u2 B 138 n' x) 124 18 (nI (n' + 1)) 124 i = B 124 i := fun i hi => by rw [u2_n (Or.inr hi), u2_o (by decide)]
      refine ⟨⟨h1.c (fun b _ _ => eA b (by omega) (by omega)) (eB 128 (by decide) (by decide)) (eB 129 (by decide) (by decide)), h2.c (fun b _ _ => eA b (by omega) (by omega)) (fun _ _ _ => rfl) (fun b hb => eB b (by omega) (by omega)) (eB4 11 (by decide)) rfl, ⟨n' + 1, by omega, u2_s, u2_s, fun i hi => ?_⟩, by rw [eA 0 (by decide) (by decide), eB4 30 (by decide)]; exact h4, h5.c (by rw [eA 121 (by decide) (by decide)]) (eA 122 (by decide) (by decide)) (eA 123 (by decide) (by decide)) (eB4 33 (by decide)) (eB 146 (by decide) (by decide)) (eB 147 (by decide) (by decide))⟩,
        hT.c (eA 2 (by decide) (by decide)) (eA 3 (by decide) (by decide)) (eB 125 (by decide) (by decide)) (eB 126 (by decide) (by decide)) (eB 127 (by decide) (by decide)), ?_⟩
      · rw [u2_o (b := 77) (by decide), u2_o (b := 138) (by decide)]
        by_cases hi' : i = n'
        · rw [hi', u2_s, u2_s]; exact ⟨rfl, a1⟩
        · rw [u2_n (Or.inr hi'), u2_n (Or.inr hi')]; exact q4 i (by omega)
      · rw [eA 2 (by decide) (by decide)]
        exact hQ.c (by rw [eA 22 (by decide) (by decide)]) (by rw [eA 22 (by decide) (by decide)]) (eA 23 (by decide) (by decide)) (eA 24 (by decide) (by decide)) (eB4 9 (by decide)) (eB4 10 (by decide)) (eB 131 (by decide) (by decide)) (eB 132 (by decide) (by decide))
theorem nI_out {x : Int32} {j q : Nat} (hx : x = nI j) (hj : j < q) (hq : q < 2 ^ 31) : ¬ (x < 0 ∨ nI q ≤ x) := by
  subst hx
  intro h
  rcases h with h | h
  · exact nI_pos (by omega) h
  · exact nI_ge hj hq h
theorem rs_ag {A B A1 B1 : DI} {K K1 M : DJ} {q q' : Nat} {x y r' : Int32} {r : Int32 ⊕ Nat} (h : REL A K B M) (h0 : B 124 0 = 0) (hn : A 121 2 = nI q) (hn' : B 124 33 = nI q') (n40 : q ≤ 16) (n40' : q' ≤ 16) (ha : RsQ A K q x y r A1 K1) (hb : RsM B q' x y r' B1) : AG (cdT 2 0 1) r r' B1 ∧ REL A1 K1 B1 M := by
  obtain ⟨rfl, rfl, ha⟩ := ha
  obtain ⟨p, q1, q2, q3, q4⟩ := h.1.2.2.2.2
  have e1 : q = p := (nI_eq (by omega) (by omega)).mp (hn.symm.trans q2)
  have e2 : q' = p := (nI_eq (by omega) (by omega)).mp (hn'.symm.trans q3)
  subst e1; subst e2
  rcases ha with ⟨a1, rfl⟩ | ⟨j, a1, a2, a3⟩
  · rcases hb with ⟨_, _, rfl⟩ | ⟨j, b1, b2, _⟩
    · exact ⟨u2_s, h.th _⟩
    · exact absurd a1 (nI_out b1 b2 (by omega))
  · rcases hb with ⟨b1, _⟩ | ⟨j', b1, b2, b3⟩
    · exact absurd b1 (nI_out a1 a2 (by omega))
    · have ej : j' = j := (nI_eq (by omega) (by omega)).mp (b1.symm.trans a1)
      subst ej
      rcases a3 with ⟨c1, c2, rfl⟩ | ⟨c1, rfl⟩ | ⟨c1, rfl⟩
      · rcases b3 with ⟨_, _, _, rfl⟩ | ⟨d1, _⟩ | ⟨d1, _⟩
        · exact ⟨u2_s, h.th _⟩
        · exact absurd d1 c1
        · exact absurd d1 c2
      · rcases b3 with ⟨d1, _⟩ | ⟨_, rfl, rfl⟩ | ⟨d1, _⟩
        · exact absurd c1 d1
        · exact ⟨⟨h0, (q4 j' a2).1.symm⟩, h⟩
        · rw [c1] at d1; exact absurd d1 (by decide)
      · rcases b3 with ⟨_, d1, _⟩ | ⟨d1, _⟩ | ⟨_, rfl, rfl⟩
        · exact absurd c1 d1
        · rw [c1] at d1; exact absurd d1 (by decide)
        · exact ⟨⟨h0, (q4 j' a2).2.symm⟩, h⟩
theorem XR.ix {A B : DI} {K M : DJ} (h : XR A K B M) (x : Int32) : ixH A x = ixM B x := by
  unfold ixM
  cases hx : isNd x with
  | false => rw [ixH_n hx]; rfl
  | true =>
    obtain ⟨j, hj, rfl⟩ := isNd_j hx
    obtain ⟨h1, h2⟩ := h.2.2.1 j hj
    rw [ixH_j hj, nI_clamp (by omega), ← h1]
    rcases h2 with q | q <;> rw [q] <;> decide
theorem wo_ag {A B A1 B1 : DI} {K K1 M : DJ} {x r' : Int32} {r : Int32 ⊕ Nat} (h : REL A K B M) (h0 : B 124 0 = 0) (ha : WoQ A K x r A1 K1) (hb : WoM B x r' B1) : AG (cdT 0 0 1) r r' B1 ∧ REL A1 K1 B1 M := by
  obtain ⟨rfl, rfl, ha⟩ := ha
  have hX := h.1.2.1
  rcases ha with ⟨a1, rfl⟩ | ⟨j, rfl, a2, a3, rfl⟩
  · rcases hb with ⟨_, _, rfl⟩ | ⟨j, rfl, b2, b3, _⟩
    · exact ⟨u2_s, h.th _⟩
    · rw [hX.ix] at a1; unfold ixM at a1
      rw [isNd_nI b2, nI_clamp (by omega)] at a1
      simp [b3] at a1
  · rcases hb with ⟨b1, _⟩ | ⟨j', b1, b2, b3, rfl, rfl⟩
    · rw [← hX.ix, ixH_j a2, a3] at b1; exact absurd b1 (by decide)
    · have ej : j' = j := (nI_eq (by omega) (by omega)).mp b1.symm
      subst ej
      obtain ⟨m, m1, m2, m3, _⟩ := hX.2.2.2 j' a2
      exact ⟨⟨h0, by rw [m2, m3]⟩, h⟩
theorem ev_ag {A B A1 B1 : DI} {K K1 M : DJ} {m m' : Nat} {x r' : Int32} {r : Int32 ⊕ Nat} (h : REL A K B M) (h0 : B 124 0 = 0) (hn : A 22 2 = nI m) (hn' : B 124 9 = nI m') (n40 : m ≤ 8) (n40' : m' ≤ 8) (ha : EvQ A K m x r A1 K1) (hb : EvM B m' x r' B1) : AG (cdT 0 0 1) r r' B1 ∧ REL A1 K1 B1 M := by
  obtain ⟨rfl, rfl, ha⟩ := ha
  obtain ⟨p, q1, q2, q3, q4, q5⟩ := h.2.2
  have q6 := q1.1
  have e1 : m = p := (nI_eq (by omega) (by omega)).mp (hn.symm.trans q2)
  have e2 : m' = p := (nI_eq (by omega) (by omega)).mp (hn'.symm.trans q3)
  subst e1; subst e2
  rcases ha with ⟨a1, rfl⟩ | ⟨j, a1, a2, rfl⟩
  · rcases hb with ⟨_, _, rfl⟩ | ⟨j, b1, b2, _⟩
    · exact ⟨u2_s, h.th _⟩
    · exact absurd a1 (nI_out b1 b2 (by omega))
  · rcases hb with ⟨b1, _⟩ | ⟨j', b1, b2, rfl, rfl⟩
    · exact absurd b1 (nI_out a1 a2 (by omega))
    · have ej : j' = j := (nI_eq (by omega) (by omega)).mp (b1.symm.trans a1)
      subst ej
      exact ⟨⟨h0, by rw [(q5 j' a2).1, (q5 j' a2).2]⟩, h⟩
theorem cn_ag {A B A1 B1 : DI} {K K1 M : DJ} {x r' : Int32} {r : Int32 ⊕ Nat} (h : REL A K B M) (h0 : B 124 0 = 0) (ha : CnQ A K x r A1 K1) (hb : CnM B x r' B1) : AG (cdT 1 0 0) r r' B1 ∧ REL A1 K1 B1 M := by
  obtain ⟨rfl, rfl, ha⟩ := ha
  have hT := h.2.1
  obtain ⟨p, q1, q2, q3, q4, q5⟩ := h.2.2
  obtain ⟨n, n1, n2, n3, _⟩ := h.1.2.2.1
  have hX := h.1.2.1
  have out : ∀ k : Nat, k ≤ 6 → x = nI k → ¬ (x.toInt < 0 ∨ 6 < x.toInt) := fun k hk hx => by rw [hx, nI_toInt (by omega)]; omega
  have i0 : ∀ k : Nat, k ≤ 6 → x = nI k → ∀ k' : Nat, k' ≤ 6 → x = nI k' → k = k' := fun k hk hx k' hk' hx' => (nI_eq (by omega) (by omega)).mp (hx.symm.trans hx')
  have v0 : (0 : Int32) = nI 0 := by decide
  have v1 : (1 : Int32) = nI 1 := by decide
  have v2 : (2 : Int32) = nI 2 := by decide
  have v3 : (3 : Int32) = nI 3 := by decide
  have v4 : (4 : Int32) = nI 4 := by decide
  have v5 : (5 : Int32) = nI 5 := by decide
  have v6 : (6 : Int32) = nI 6 := by decide
  have hb' : (∃ k : Nat, k ≤ 2 ∧ x = nI k ∧ r' = nI (cnt (cfM B x) 16) ∧ B1 = B) ∨ (x = nI 3 ∧ r' = B 124 9 ∧ B1 = B) ∨ (x = nI 4 ∧ r' = (if B 124 10 = 0 then 0 else 1) ∧ B1 = B) ∨ (x = nI 5 ∧ r' = B 124 18 ∧ B1 = B) ∨ (x = nI 6 ∧ r' = B 124 11 ∧ B1 = B) ∨ ((x.toInt < 0 ∨ 6 < x.toInt) ∧ r' = 0 ∧ B1 = u2 B 124 0 1) := by
    rcases hb with ⟨b1, b2⟩ | b | b | b | b | b
    · refine Or.inl ?_
      rcases b1 with b1 | b1 | b1
      · exact ⟨0, by omega, b1, b2⟩
      · exact ⟨1, by omega, b1, b2⟩
      · exact ⟨2, by omega, b1, b2⟩
    · exact Or.inr (Or.inl b)
    · exact Or.inr (Or.inr (Or.inl b))
    · exact Or.inr (Or.inr (Or.inr (Or.inl b)))
    · exact Or.inr (Or.inr (Or.inr (Or.inr (Or.inl b))))
    · exact Or.inr (Or.inr (Or.inr (Or.inr (Or.inr b))))
  have ct : ∀ f : Nat → Bool, (∀ j, j < 16 → f j = cfM B x j) → r' = nI (cnt (cfM B x) 16) → B1 = B → r = .inl (nI (cnt f 16)) → AG (cdT 1 0 0) r r' B1 ∧ REL A1 K1 B1 M := fun f hf e1 e2 e3 => by
    subst e1; subst e2; subst e3
    exact ⟨⟨h0, by rw [cnt_eq 16 hf]⟩, h⟩
  have hbk : ∀ k : Nat, k ≤ 6 → x = nI k → (k ≤ 2 → r' = nI (cnt (cfM B x) 16)) ∧ (k = 3 → r' = B 124 9) ∧ (k = 4 → r' = (if B 124 10 = 0 then 0 else 1)) ∧ (k = 5 → r' = B 124 18) ∧ (k = 6 → r' = B 124 11) ∧ B1 = B := by
    intro k hk hx
    rcases hb' with ⟨k', b1, b2, b3, b4⟩ | ⟨b, b3, b4⟩ | ⟨b, b3, b4⟩ | ⟨b, b3, b4⟩ | ⟨b, b3, b4⟩ | ⟨b, _⟩
    · have e := i0 k hk hx k' (by omega) b2
      exact ⟨fun _ => b3, fun _ => by omega, fun _ => by omega, fun _ => by omega, fun _ => by omega, b4⟩
    · have e := i0 k hk hx 3 (by omega) b
      exact ⟨fun _ => by omega, fun _ => b3, fun _ => by omega, fun _ => by omega, fun _ => by omega, b4⟩
    · have e := i0 k hk hx 4 (by omega) b
      exact ⟨fun _ => by omega, fun _ => by omega, fun _ => b3, fun _ => by omega, fun _ => by omega, b4⟩
    · have e := i0 k hk hx 5 (by omega) b
      exact ⟨fun _ => by omega, fun _ => by omega, fun _ => by omega, fun _ => b3, fun _ => by omega, b4⟩
    · have e := i0 k hk hx 6 (by omega) b
      exact ⟨fun _ => by omega, fun _ => by omega, fun _ => by omega, fun _ => by omega, fun _ => b3, b4⟩
    · exact absurd b (out k hk hx)
  rcases ha with ⟨a1, a2⟩ | ⟨a1, a2⟩ | ⟨a1, a2⟩ | ⟨a1, a2⟩ | ⟨a1, a2⟩ | ⟨a1, a2⟩ | ⟨a1, a2⟩ | ⟨a1, a2⟩
  case inr.inr.inr.inr.inr.inr.inr =>
    subst a2
    rcases hb' with ⟨k, b1, b2, _⟩ | ⟨b, _⟩ | ⟨b, _⟩ | ⟨b, _⟩ | ⟨b, _⟩ | ⟨_, rfl, rfl⟩
    · exact absurd a1 (out k (by omega) b2)
    · exact absurd a1 (out 3 (by omega) b)
    · exact absurd a1 (out 4 (by omega) b)
    · exact absurd a1 (out 5 (by omega) b)
    · exact absurd a1 (out 6 (by omega) b)
    · exact ⟨u2_s, h.th _⟩
  · obtain ⟨e1, _, _, _, _, e6⟩ := hbk 0 (by omega) (a1.trans v0)
    refine ct _ (fun j hj => ?_) (e1 (by omega)) e6 a2
    unfold cfM; rw [if_pos a1, hT.2.1 j hj, decide_eq_decide.mpr mst_0]
  · obtain ⟨e1, _, _, _, _, e6⟩ := hbk 1 (by omega) (a1.trans v1)
    refine ct _ (fun j hj => ?_) (e1 (by omega)) e6 a2
    unfold cfM; rw [if_neg (by rw [a1]; decide), if_pos a1, hT.2.1 j hj]
  · obtain ⟨e1, _, _, _, _, e6⟩ := hbk 2 (by omega) (a1.trans v2)
    refine ct _ (fun j hj => ?_) (e1 (by omega)) e6 a2
    unfold cfM; rw [if_neg (by rw [a1]; decide), if_neg (by rw [a1]; decide), ← (hX.2.2.1 j hj).1]
    rcases (hX.2.2.1 j hj).2 with w | w <;> rw [w] <;> decide
  · obtain ⟨_, e2, _, _, _, e6⟩ := hbk 3 (by omega) (a1.trans v3)
    subst a2; subst e6; exact ⟨⟨h0, by rw [e2 rfl, q2, q3]⟩, h⟩
  · obtain ⟨_, _, e3, _, _, e6⟩ := hbk 4 (by omega) (a1.trans v4)
    subst a2; subst e6
    refine ⟨⟨h0, ?_⟩, h⟩
    rw [e3 rfl, q4]
    rcases q1.2.1 with w | w <;> rw [w] <;> decide
  · obtain ⟨_, _, _, e4, _, e6⟩ := hbk 5 (by omega) (a1.trans v5)
    subst a2; subst e6; exact ⟨⟨h0, by rw [e4 rfl, n2, n3]⟩, h⟩
  · obtain ⟨_, _, _, _, e5, e6⟩ := hbk 6 (by omega) (a1.trans v6)
    subst a2; subst e6; exact ⟨⟨h0, by rw [e5 rfl]; exact hX.1.symm⟩, h⟩
