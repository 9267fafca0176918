/-! ===== work ===== -/
theorem QQ.tail {s : Nat → Int32} {l : Int32} {m : Nat} {f g : Nat → Int32} (h : QQ s l m f g) (t : Nat) : QQ s l (m - t) (fun i => f (i + t)) (fun i => g (i + t)) := by
  obtain ⟨h1, h2, h3, h4, h5⟩ := h
  refine ⟨by omega, h2, fun q => by have := h3 q; omega, fun i hi => h4 _ (by omega), fun i k hi hk he => ?_⟩
  have := h5 (i + t) (k + t) (by omega) (by omega) he
  omega
theorem wk_ch {A B : DI} {K M : DJ} {m : Nat} (h : REL A K B M) (hm : A 22 2 = nI m) (hm8 : m ≤ 8) : ∀ t I J I' J', t ≤ m → WkC A K m t I J → WkMC B M m t I' J' → XR I J I' J'
  | 0, I, J, I', J', _, ⟨e1, e2⟩, ⟨e3, e4⟩ => by subst e1; subst e2; subst e3; subst e4; exact h.1.2.1
  | t + 1, I, J, I', J', ht, ⟨I1, J1, I2, j, e1, e2, e3, e4, e5⟩, ⟨I1', J1', I2', j', f1, f2, f3, f4, f5⟩ => by
    have hX := wk_ch h hm hm8 t I1 J1 I1' J1' (by omega) e1 f1
    obtain ⟨m0, q1, q2, q3, q4, q5⟩ := h.2.2
    have := q1.1
    have em : m0 = m := (nI_eq (by omega) (by omega)).mp (q2.symm.trans hm)
    subst em
    obtain ⟨a1, a2, a3, a4, a5⟩ := WkC.inv hm t I1 J1 (by omega) e1
    obtain ⟨b1, b2, b3, b4, b5⟩ := WkMC.inv q3 t I1' J1' (by omega) f1
    have w1 := a2 0 (by omega)
    have w2 := b2 0 (by omega)
    rw [Nat.zero_add] at w1 w2
    obtain ⟨qa, qb⟩ := q5 t (by omega)
    have ek : I1 23 0 = I1' 131 0 := by rw [w1.1, w2.1, qa]
    have ej : j' = j := (nI_eq (by omega) (by omega)).mp (by rw [← e2, ← f2, w1.2, w2.2, qb])
    subst ej
    rw [← ek] at f4
    have hC : CoR I1 I1' := h.1.1.c (fun b _ _ => a4 b (by omega)) (b4 128 (by decide) (by decide) (by decide) (by decide) (by decide) (by decide) (by decide)) (b4 129 (by decide) (by decide) (by decide) (by decide) (by decide) (by decide) (by decide))
    have hj1 : ¬ I1 23 0 = 3 → 1 ≤ j' := fun h3 => by
      obtain ⟨j0, j1, j2, j3⟩ := q1.2.2.2.1 t (by omega)
      have e0 : j0 = j' := (nI_eq (by omega) (by omega)).mp (by rw [← j2, ← e2, w1.2])
      rw [w1.1] at h3
      rcases j3 with ⟨_, j3⟩ | ⟨j3, _⟩
      · by_cases hz : j' = 0
        · rw [e0, hz, h.2.1.1.1] at j3; exact absurd j3 (by decide)
        · omega
      · exact absurd j3 h3
    have hX2 := fl_ag e3 hj1 hC hX e4 f4
    refine hX2.c (fun b b1 b2 => e5.2.2.2.2 b (by omega) (by omega) (by omega)) (fun _ _ _ => rfl) (fun b hb => f5.2.2.2.2 b (by omega) (by omega) (by omega)) (f5.2.1 11 (by decide)) rfl
theorem wk_ag {A B A1 B1 : DI} {K K1 M M1 : DJ} {m m' : Nat} {n x : Int32} {r : Int32 ⊕ Nat} (h : REL A K B M) (h0 : B 124 0 = 0) (hm : A 22 2 = nI m) (hm' : B 124 9 = nI m') (hm8 : m ≤ 8) (hm8' : m' ≤ 8) (ha : WkQ A K m n r A1 K1) (hb : WkM B M m' n x B1 M1) : AG (cdT 1 2 0) r x B1 ∧ REL A1 K1 B1 M1 := by
  obtain ⟨m0, q1, q2, q3, q4, q5⟩ := h.2.2
  have q6 := q1.1
  have em : m0 = m := (nI_eq (by omega) (by omega)).mp (q2.symm.trans hm)
  have em' : m' = m0 := (nI_eq (by omega) (by omega)).mp (hm'.symm.trans q3)
  subst em; subst em'
  have hin : ∀ k : Nat, n = nI k → 1 ≤ k → k ≤ 8 → ¬ (n < 1 ∨ 8 < n) := fun k hk h1 h8 q => by
    rw [hk, Int32.lt_iff_toInt_lt, Int32.lt_iff_toInt_lt, nI_toInt (by omega), show (1 : Int32).toInt = 1 by decide, show (8 : Int32).toInt = 8 by decide] at q
    omega
  rcases ha with ⟨a1, rfl, rfl, rfl⟩ | ⟨k, a1, a2, a3, a4⟩
  · rcases hb with ⟨_, _, rfl, rfl⟩ | ⟨k, b1, b2, b3, _⟩
    · exact ⟨u2_s, h.th _⟩
    · exact absurd a1 (hin k b1 b2 b3)
  · rcases hb with ⟨b1, _⟩ | ⟨k', b1, b2, b3, b4⟩
    · exact absurd b1 (hin k a1 a2 a3)
    · have ek : k' = k := (nI_eq (by omega) (by omega)).mp (b1.symm.trans a1)
      subst ek
      rw [q4] at b4
      rcases a4 with ⟨c1, rfl, rfl, rfl⟩ | ⟨c1, rfl, c2⟩
      · rcases b4 with ⟨_, _, rfl, rfl⟩ | ⟨d1, _⟩
        · exact ⟨u2_s, h.th _⟩
        · exact absurd d1 c1
      · rcases b4 with ⟨d1, _⟩ | ⟨_, rfl, d2⟩
        · exact absurd c1 d1
        · have hX := wk_ch h q2 hm8 _ _ _ _ _ (by omega) c2 d2
          obtain ⟨a1, a2, a3, a4, a5⟩ := WkC.inv q2 _ _ _ (by omega) c2
          obtain ⟨b1, b2, b3, b4, b5⟩ := WkMC.inv q3 _ _ _ (by omega) d2
          have bb : ∀ b, b ≠ 124 → b ≠ 131 → b ≠ 132 → b ≠ 133 → b ≠ 134 → b ≠ 136 → b ≠ 137 → B1 b = B b := b4
          obtain ⟨⟨h1, _, h3, h4, h5⟩, hT, _⟩ := h
          refine ⟨⟨by rw [b3 0 (by decide) (by decide)]; exact h0, rfl⟩, ⟨h1.c (fun b _ _ => a4 b (by omega)) (bb 128 (by decide) (by decide) (by decide) (by decide) (by decide) (by decide) (by decide)) (bb 129 (by decide) (by decide) (by decide) (by decide) (by decide) (by decide) (by decide)), hX, h3.c (by rw [a4 76 (by omega)]) (a4 77 (by omega)) (b3 18 (by decide) (by decide)) (bb 138 (by decide) (by decide) (by decide) (by decide) (by decide) (by decide) (by decide)), by rw [a4 0 (by omega), b3 30 (by decide) (by decide)]; exact h4, h5.c (by rw [a4 121 (by omega)]) (a4 122 (by omega)) (a4 123 (by omega)) (b3 33 (by decide) (by decide)) (bb 146 (by decide) (by decide) (by decide) (by decide) (by decide) (by decide) (by decide)) (bb 147 (by decide) (by decide) (by decide) (by decide) (by decide) (by decide) (by decide))⟩,
            hT.c (a4 2 (by omega)) (a4 3 (by omega)) (bb 125 (by decide) (by decide) (by decide) (by decide) (by decide) (by decide) (by decide)) (bb 126 (by decide) (by decide) (by decide) (by decide) (by decide) (by decide) (by decide)) (bb 127 (by decide) (by decide) (by decide) (by decide) (by decide) (by decide) (by decide)), ?_⟩
          rw [a4 2 (by omega)]
          refine ⟨m' - min k' m', (q1.tail (min k' m')).eq (fun i hi => ⟨(a2 i hi).1.symm, (a2 i hi).2.symm⟩) |> fun w => ?_, a1, b1, ?_, fun i hi => ?_⟩
          · rw [a3 3 (by decide)]; exact w
          · rw [b3 10 (by decide) (by decide), a3 3 (by decide)]; exact q4
          · rw [(a2 i hi).1, (a2 i hi).2, (b2 i hi).1, (b2 i hi).2]; exact q5 _ (by omega)
/-! ===== rescan ===== -/
theorem Rd.cl {I I' : DI} {J J' : DJ} {j : Nat} (hj : j < 16) (h : Rd I J j I' J') : Rd (u2 I 27 j 0) J j I' J' := by
  obtain ⟨m, m1, m2, X, ⟨t1, t2, t3, t4⟩, rfl⟩ := h
  refine ⟨m, by rw [u2_o (by decide)]; exact m1, m2, u2 X 27 j 0, ?_, ?_⟩
  · rw [u2_o (f := I) (by omega)]
    refine ⟨by rw [u2_o (by omega), u2_o (by omega)]; exact t1, fun i s e hi => ?_, fun b b1 b2 => ?_, t4⟩
    · rw [u2_o (by omega)] at hi
      rw [u2_o (by omega), u2_o (by omega)]; exact t2 i s e hi
    · funext i
      by_cases hb : b = 27 ∧ i = j
      · rw [hb.1, hb.2, u2_s, u2_s]
      · have : b ≠ 27 ∨ i ≠ j := by omega
        rw [u2_n this, u2_n this, t3 b b1 b2]
  · rw [u2_u2, u2_o (by decide)]
theorem rc_ch {A B : DI} {K M : DJ} (h : REL A K B M) : ∀ t c I J c' I' J', t ≤ 15 → RcC A K t c I J → RcMC B M (t + 1) c' I' J' → c = c' ∧ XR I J I' J'
  | 0, c, I, J, c', I', J', _, ⟨e1, e2, e3⟩, ⟨c0, I1, J1, ⟨f1, f2, f3⟩, f4⟩ => by
    subst e1; subst e2; subst e3; subst f1; subst f2; subst f3
    have hX := h.1.2.1
    rcases f4 with ⟨w, _⟩ | ⟨_, rfl, rfl, rfl⟩
    · rw [← h.2.1.2.1 0 (by omega), h.2.1.1.1] at w; exact absurd w (by decide)
    · refine ⟨rfl, ?_⟩
      rw [u2_self (by rw [← (hX.2.2.1 0 (by omega)).1]; exact hX.2.1)]; exact hX
  | t + 1, c, I, J, c', I', J', ht, ⟨c0, I1, J1, e1, e2⟩, ⟨c0', I1', J1', f1, f2⟩ => by
    obtain ⟨r1, hX⟩ := rc_ch h t c0 I1 J1 c0' I1' J1' (by omega) e1 f1
    obtain ⟨_, a2, a3⟩ := RcC.inv t c0 I1 J1 (by omega) e1
    obtain ⟨_, b2, b3, b4⟩ := RcMC.inv (t + 1) c0' I1' J1' f1
    have hs := h.2.1.2.1 (t + 1) (by omega)
    rcases e2 with ⟨g1, g2, rfl⟩ | ⟨g1, rfl, rfl, rfl⟩
    · rcases f2 with ⟨_, k2, rfl⟩ | ⟨k1, _⟩
      · refine ⟨by rw [r1], ?_⟩
        have hC : CoR (u2 I1 27 (t + 1) 0) (u2 I1' 133 (t + 1) 0) := h.1.1.c (fun b _ _ => by rw [u2_o (by omega)]; exact a2 b (by omega)) (by rw [u2_o (by decide)]; exact b2 128 (by decide) (by decide) (by decide) (by decide) (by decide)) (by rw [u2_o (by decide)]; exact b2 129 (by decide) (by decide) (by decide) (by decide) (by decide))
        exact rd_ag (by omega) (by omega) hC (fg_ag hX) (g2.cl (by omega)) k2
      · exact absurd (hs ▸ g1) k1
    · rcases f2 with ⟨k1, _⟩ | ⟨_, rfl, rfl, rfl⟩
      · exact absurd (hs.trans k1) g1
      · exact ⟨r1, fg_ag hX⟩
theorem rc_ag {A B A1 B1 : DI} {K K1 M M1 : DJ} {x y : Int32} (h : REL A K B M) (ha : RcQ A K x A1 K1) (hb : RcM B M y B1 M1) : x = y ∧ REL A1 K1 B1 M1 := by
  obtain ⟨c, I1, c1, c2, rfl, rfl⟩ := ha
  obtain ⟨c', I1', d1, d2, rfl, rfl⟩ := hb
  obtain ⟨r1, hX⟩ := rc_ch h 15 c I1 K1 c' I1' M1 (by omega) c2 d2
  obtain ⟨_, a2, a3⟩ := RcC.inv 15 c I1 K1 (by omega) c2
  obtain ⟨_, b2, b3, b4⟩ := RcMC.inv 16 c' I1' M1 d2
  have eA : ∀ b, b ≠ 22 → u2 (u2 I1 22 2 0) 22 3 0 b = I1 b := fun b hb => by rw [u2_o hb, u2_o hb]
  have eB : ∀ b, b ≠ 124 → u2 (u2 I1' 124 10 0) 124 9 0 b = I1' b := fun b hb => by rw [u2_o hb, u2_o hb]
  have eB4 : ∀ i, i ≠ 9 → i ≠ 10 → u2 (u2 I1' 124 10 0) 124 9 0 124 i = I1' 124 i := fun i h1 h2 => by rw [u2_n (Or.inr h1), u2_n (Or.inr h2)]
  have gA : ∀ b, b < 22 ∨ 76 ≤ b → u2 (u2 I1 22 2 0) 22 3 0 b = A b := fun b hb => by rw [eA b (by omega)]; exact a2 b (by omega)
  have gB : ∀ b, b ≠ 124 → b ≠ 133 → b ≠ 134 → b ≠ 136 → b ≠ 137 → u2 (u2 I1' 124 10 0) 124 9 0 b = B b := fun b h1 h2 h3 h4 h5 => by rw [eB b h1]; exact b2 b h1 h2 h3 h4 h5
  obtain ⟨⟨h1, _, h3, h4, h5⟩, hT, _⟩ := h
  refine ⟨by rw [r1], ⟨h1.c (fun b _ _ => gA b (by omega)) (gB 128 (by decide) (by decide) (by decide) (by decide) (by decide)) (gB 129 (by decide) (by decide) (by decide) (by decide) (by decide)), hX.c (fun b _ _ => eA b (by omega)) (fun _ _ _ => rfl) (fun b hb => eB b (by omega)) (eB4 11 (by decide) (by decide)) rfl,
    h3.c (by rw [gA 76 (by omega)]) (gA 77 (by omega)) (by rw [eB4 18 (by decide) (by decide), b3 18 (by decide)]) (gB 138 (by decide) (by decide) (by decide) (by decide) (by decide)), by rw [gA 0 (by omega), eB4 30 (by decide) (by decide), b3 30 (by decide)]; exact h4, h5.c (by rw [gA 121 (by omega)]) (gA 122 (by omega)) (gA 123 (by omega)) (by rw [eB4 33 (by decide) (by decide), b3 33 (by decide)]) (gB 146 (by decide) (by decide) (by decide) (by decide) (by decide)) (gB 147 (by decide) (by decide) (by decide) (by decide) (by decide))⟩,
    hT.c (gA 2 (by omega)) (gA 3 (by omega)) (gB 125 (by decide) (by decide) (by decide) (by decide) (by decide)) (gB 126 (by decide) (by decide) (by decide) (by decide) (by decide)) (gB 127 (by decide) (by decide) (by decide) (by decide) (by decide)), 0, ?_, ?_, ?_, ?_, fun i hi => by omega⟩
  · rw [u2_s]; exact ⟨by omega, Or.inl rfl, fun q => absurd rfl q, fun i hi => by omega, fun i k hi => by omega⟩
  · rw [u2_n (Or.inr (by decide)), u2_s]; exact nI_0.symm
  · rw [u2_s]; exact nI_0.symm
  · rw [u2_s, u2_n (Or.inr (by decide)), u2_s]
