/-! ===== search ===== -/
theorem ins_c {f f' : Nat → Int32} {p n : Nat} {x : Int32} (h : ∀ i, i < n → f i = f' i) (hp : p ≤ n) : ∀ i, i < n + 1 → ins f p n x i = ins f' p n x i := fun i hi => by
  unfold ins
  by_cases h1 : i = p
  · rw [if_pos h1, if_pos h1]
  · rw [if_neg h1, if_neg h1]
    unfold shr
    by_cases h2 : p < i ∧ i ≤ n
    · rw [if_pos h2, if_pos h2, h _ (by omega)]
    · rw [if_neg h2, if_neg h2, h _ (by omega)]
theorem tm_ag {c d : Nat → Int32} {n w : Nat} {ts : List TT} {A B : DI} {K M : DJ} (hw60 : w ≤ 60) (ec : ∀ i, i < n → c i = d i) (ho : ∀ t ∈ ts, TOk c n t) (hA : TsH c ts A K) (hB : TsM d ts w B M) {i : Nat} (hi : i < ts.length) :
    TmE K B M i (fzM B i) (szT ts i) ∧ 1 ≤ szT ts i ∧ A (79 + 2 * i) 2 = B 139 i ∧ decide (A (79 + 2 * i) 3 = 1) = !decide (B 140 i = 0) := by
  have hg : ts[i]? = some ts[i] := List.getElem?_eq_getElem hi
  obtain ⟨t, ht⟩ : ∃ t, ts[i]? = some t := ⟨_, hg⟩
  obtain ⟨o1, o2, o3⟩ := ho t (List.mem_of_getElem? ht)
  have hz : szT ts i = t.2.2.2.length := by unfold szT; rw [List.getD_eq_getElem?_getD, ht]; rfl
  obtain ⟨a1, a2, a3, a4, a5⟩ := hA i t ht
  obtain ⟨f, b1, b2, b3, b4, b5, b6, b7⟩ := hB i t ht
  have hw : f < 2 ^ 31 := by omega
  have hf : fzM B i = f := by unfold fzM; rw [b1, nI_clamp hw]
  rw [hz, hf]
  have hWD : ∀ k, k < t.2.2.2.length → WD (K (80 + 2 * i) k) (M 144 (f + k)) (B 145 (f + k)) := fun k hk => by
    obtain ⟨s, l, hk'⟩ : ∃ s l, t.2.2.2[k]? = some (s, l) := ⟨_, _, List.getElem?_eq_getElem hk⟩
    obtain ⟨w1, w2, w3, w4⟩ := o2 (s, l) (List.mem_of_getElem? hk')
    simp only at w1 w2 w3 w4
    rw [a4 k s l hk', (b7 k s l hk').1, (b7 k s l hk').2, ← wM_c (c := c) l (fun q hq => ec _ (by omega))]
    exact WD_w w1 w2 w4
  refine ⟨⟨hWD, ?_⟩, o1.1, by rw [a2, b3], ?_⟩
  · cases hp : t.2.2.1 with
    | false =>
      refine Or.inr ⟨fun q => ?_, by rw [a5, hp]; rfl⟩
      have := b5.mp q
      rw [hp] at this; cases this
    | true =>
      have hl := o3 hp
      obtain ⟨s, l, hk'⟩ : ∃ s l, t.2.2.2[0]? = some (s, l) := ⟨_, _, List.getElem?_eq_getElem (by omega)⟩
      obtain ⟨w1, w2, w3, w4⟩ := o2 (s, l) (List.mem_of_getElem? hk')
      refine Or.inl ⟨hl, b5.mpr hp, l, w2, by have := (b7 0 s l hk').2; rw [Nat.add_zero] at this; exact this, ?_⟩
      rw [a5, hp, if_pos rfl, List.getD_eq_getElem?_getD, hk']; rfl
  · rw [a3, b4]; cases t.2.1 <;> decide
theorem sc_same {A B : DI} {K M : DJ} {e m k g : Nat} {fz sz : Nat → Nat} (hk : k ≤ 40) (hg : g ≤ 100) (he : EnR A K B M e) (hm : m ≤ 30) (hAm : A (28 + 3 * e) 2 = nI m) (hT : ∀ i, i < k → TmE K B M i (fz i) (sz i) ∧ 1 ≤ sz i ∧ A (79 + 2 * i) 2 = B 139 i ∧ decide (A (79 + 2 * i) 3 = 1) = !decide (B 140 i = 0)) :
    sco A K e m k g sz = ssM B M e m k g fz sz ∧ (sco A K e m k g sz = -1 ∨ ∃ y, y ≤ 1000000 ∧ sco A K e m k g sz = nI y) := by
  obtain ⟨m', m1, m2, m3, m4⟩ := he
  have em : m' = m := (nI_eq (by omega) (by omega)).mp (m2.symm.trans hAm)
  subst em
  unfold sco ssM
  refine sc_ag (T := 90 * k) (by omega) (fun j => ?_) g 0 (-1) (Or.inl rfl) (by have := Nat.mul_le_mul (Nat.mul_le_mul (Nat.le_refl 90) hk) hg; omega)
  unfold prt sreM
  have := pa_ag (of := tO A (nI j)) (un := tU A) (of' := ofM B (nI j)) (wo := woM B) (w := tW A K e m' sz) (h := hzM B M e m' fz sz) (K := k) (fun i hi => by unfold tO ofM; rw [(hT i hi).2.2.1]) (fun i hi => (hT i hi).2.2.2) (fun i hi => wg_ag hm (hT i hi).2.1 m4 (hT i hi).1) k 0 0 (by omega)
  rw [nI_0, Nat.zero_add] at this
  exact this
theorem se_ch {A B : DI} {K M : DJ} {a : Int32} {k g : Nat} {fz sz : Nat → Nat} (hk : k ≤ 40) (hg : g ≤ 100) (hX : XR A K B M) (hTr : TrR A B) (ha : mdS B a = 1) (hT : ∀ i, i < k → TmE K B M i (fz i) (sz i) ∧ 1 ≤ sz i ∧ A (79 + 2 * i) 2 = B 139 i ∧ decide (A (79 + 2 * i) 3 = 1) = !decide (B 140 i = 0)) :
    ∀ t q I q' I', t ≤ 15 → SeC A K a k g sz t q I → SeMC B M a k g fz sz (t + 1) q' I' → q = q' ∧ ∀ i, i < q → I 122 i = I' 146 i ∧ I 123 i = I' 147 i
  | 0, q, I, q', I', _, ⟨e1, e2⟩, ⟨q0, I1, ⟨f1, f2⟩, f3⟩ => by
    subst e1; subst f1
    rcases f3 with ⟨⟨w, _⟩, _⟩ | ⟨_, _, rfl⟩
    · rw [← (hX.2.2.1 0 (by omega)).1] at w; exact absurd hX.2.1 w
    · exact ⟨rfl, fun i hi => by omega⟩
  | t + 1, q, I, q', I', ht, ⟨q0, I1, e1, e2⟩, ⟨q0', I1', f1, f2⟩ => by
    obtain ⟨r1, r2⟩ := se_ch hk hg hX hTr ha hT t q0 I1 q0' I1' (by omega) e1 f1
    subst r1
    obtain ⟨x1, x2⟩ := hX.2.2.1 (t + 1) (by omega)
    have c1 : A 27 (t + 1) = 1 ↔ ¬ B 133 (t + 1) = 0 := by rw [← x1]; rcases x2 with w | w <;> rw [w] <;> decide
    have c2 : isSr A (nI (t + 1)) a = srM B (t + 1) a := by
      obtain ⟨ja, j1, rfl, _⟩ := mdS_ex ha (by decide)
      unfold isSr srM
      rw [ndS_j (by omega), nI_clamp (by omega), hTr.wup (by omega), hTr.2.1 (t + 1) (by omega), decide_eq_decide.mpr mst_0]
      congr 1
      rw [decide_eq_decide, ← nI_0, nI_eq (by omega) (by omega), nI_leI (by omega) (by omega)]
      omega
    rw [c1, c2] at e2
    rcases e2 with ⟨e2, m, m1, m2, m3, m4⟩ | ⟨e2, rfl, rfl⟩
    · rcases f2 with ⟨_, n, n1, n2, n3⟩ | ⟨f2, _⟩
      · obtain ⟨p, p1, p2, p3, _⟩ := hX.2.2.2 (t + 1) (by omega)
        have en : n = m := by
          have w1 : p = m := (nI_eq (by omega) (by omega)).mp (p2.symm.trans m2)
          have w2 : p = n := (nI_eq (by omega) (by omega)).mp (p3.symm.trans n2)
          omega
        subst en
        obtain ⟨s1, s2⟩ := sc_same (fz := fz) hk hg (hX.2.2.2 (t + 1) (by omega)) m1 m2 hT
        rw [← s1] at n3
        rcases s2 with s2 | ⟨y, y1, s2⟩
        · rw [s2] at m3 m4 n3
          rw [if_pos rfl] at m4
          rcases m3 with ⟨_, rfl⟩ | ⟨w, _⟩
          · rcases n3 with ⟨_, rfl, rfl⟩ | ⟨w, _⟩
            · subst m4; exact ⟨rfl, r2⟩
            · exact absurd (show (-1 : Int32) < 0 by decide) w
          · exact absurd rfl w
        · rw [s2] at m3 m4 n3
          have hy : ¬ nI y = -1 := nI_m1' (by omega)
          have hy0 : ¬ nI y < 0 := nI_pos (by omega)
          rw [if_neg hy] at m4
          rcases m3 with ⟨w, _⟩ | ⟨_, g1, g2, g3, g4⟩
          · exact absurd w hy
          · rcases n3 with ⟨w, _⟩ | ⟨_, ⟨k1, k2, k3, k4⟩, rfl⟩
            · exact absurd w hy0
            · subst m4
              refine ⟨rfl, fun i hi => ?_⟩
              have hp : pos (I1 123) (nI y) q0 = pos (I1' 147) (nI y) q0 := pos_eq _ _ (fun j hj => (r2 j hj).2)
              rw [g1, g2, k1, k2, hp]
              exact ⟨ins_c (fun j hj => (r2 j hj).1) (pos_le _ _ _) i hi, ins_c (fun j hj => (r2 j hj).2) (pos_le _ _ _) i hi⟩
      · rcases f2 with w | w
        · exact absurd w e2.1
        · rw [e2.2] at w; cases w
    · rcases f2 with ⟨f2, _⟩ | ⟨_, rfl, rfl⟩
      · rcases e2 with w | w
        · exact absurd f2.1 w
        · rw [f2.2] at w; cases w
      · exact ⟨rfl, r2⟩

theorem se_base {A B I1 I1' : DI} {K K1 M M1 : DJ} (h : REL A K B M) (hA : FrP (u2 A 121 2 0) K I1 K1) (hB : FrK B M 0 0 I1' M1) {x : Int32} (hx : x = I1' 124 29) : REL (u2 (u2 I1 0 5 x) 76 1 0) K1 (se4 I1') M1 ∧ se4 I1' 124 0 = B 124 0 ∧ (u2 (u2 I1 0 5 x) 76 1 0) 121 2 = nI 0 ∧ se4 I1' 124 33 = nI 0 := by
  obtain ⟨⟨h1, h2, h3, h4, h5⟩, hT, hQ⟩ := h
  obtain ⟨p1, p2, p3⟩ := hA
  obtain ⟨k1, k2, k3, k4, k5, k6⟩ := hB
  have eA : ∀ b, b ≠ 0 → b ≠ 76 → b ≠ 121 → (b < 79 ∨ 120 < b) → u2 (u2 I1 0 5 x) 76 1 0 b = A b := fun b b1 b2 b3 b4 => by rw [u2_o b2, u2_o b1, p1 b b2 b4, u2_o b3]
  have eB : ∀ b, b ≠ 124 → (b < 139 ∨ 143 < b) → b ≠ 145 → se4 I1' b = B b := fun b b1 b2 b3 => by unfold se4; rw [u2_o b1, u2_o b1, u2_o b1]; exact k1 b b1 b2 b3
  have eB4 : ∀ i, i ≠ 18 → i ≠ 24 → i ≠ 27 → i ≠ 28 → i ≠ 29 → i ≠ 30 → i ≠ 33 → se4 I1' 124 i = B 124 i := fun i i1 i2 i3 i4 i5 i6 i7 => by unfold se4; rw [u2_n (Or.inr i6), u2_n (Or.inr i7), u2_n (Or.inr i1)]; exact k2 i i2 i3 i4 i5
  have eK : ∀ b, b < 79 ∨ 120 < b → K1 b = K b := p3
  have eM : ∀ b, b ≠ 144 → M1 b = M b := k5
  have a121 : (u2 (u2 I1 0 5 x) 76 1 0) 121 2 = nI 0 := by rw [u2_o (by decide), u2_o (by decide), p1 121 (by decide) (by decide), u2_s]; exact nI_0.symm
  have b33 : se4 I1' 124 33 = nI 0 := by unfold se4; rw [u2_n (Or.inr (by decide)), u2_s]; exact nI_0.symm
  refine ⟨⟨⟨h1.c (fun b _ _ => eA b (by omega) (by omega) (by omega) (by omega)) (eB 128 (by decide) (by decide) (by decide)) (eB 129 (by decide) (by decide) (by decide)),
    h2.c (fun b _ _ => eA b (by omega) (by omega) (by omega) (by omega)) (fun b _ _ => eK b (by omega)) (fun b hb => eB b (by omega) (by omega) (by omega)) (eB4 11 (by decide) (by decide) (by decide) (by decide) (by decide) (by decide) (by decide)) (eM 135 (by decide)),
    ⟨0, by omega, by rw [u2_s]; exact nI_0.symm, by unfold se4; rw [u2_n (Or.inr (by decide)), u2_n (Or.inr (by decide)), u2_s]; exact nI_0.symm, fun i hi => by omega⟩, ?_, ⟨0, by omega, a121, b33, fun i hi => by omega⟩⟩,
    hT.c (eA 2 (by decide) (by decide) (by decide) (by decide)) (eA 3 (by decide) (by decide) (by decide) (by decide)) (eB 125 (by decide) (by decide) (by decide)) (eB 126 (by decide) (by decide) (by decide)) (eB 127 (by decide) (by decide) (by decide)), ?_⟩, eB4 0 (by decide) (by decide) (by decide) (by decide) (by decide) (by decide) (by decide), a121, b33⟩
  · rw [u2_o (by decide), u2_s, hx]; unfold se4; rw [u2_s]
  · rw [eA 2 (by decide) (by decide) (by decide) (by decide)]
    exact hQ.c (by rw [eA 22 (by decide) (by decide) (by decide) (by decide)]) (by rw [eA 22 (by decide) (by decide) (by decide) (by decide)]) (eA 23 (by decide) (by decide) (by decide) (by decide)) (eA 24 (by decide) (by decide) (by decide) (by decide)) (eB4 9 (by decide) (by decide) (by decide) (by decide) (by decide) (by decide) (by decide)) (eB4 10 (by decide) (by decide) (by decide) (by decide) (by decide) (by decide) (by decide)) (eB 131 (by decide) (by decide) (by decide)) (eB 132 (by decide) (by decide) (by decide))
theorem se_ag {A B A1 B1 : DI} {K K1 M M1 : DJ} {n n' : Nat} {a x : Int32} {r : Int32 ⊕ Nat} (h : REL A K B M) (h0 : B 124 0 = 0) (hn : A 76 1 = nI n) (hn' : B 124 18 = nI n') (n40 : n ≤ 40) (n40' : n' ≤ 40) (ha : SeQ A K n a r A1 K1) (hb : SeM B M n' a x B1 M1) : AG (cdT 2 0 1) r x B1 ∧ REL A1 K1 B1 M1 := by
  obtain ⟨q, q1, q2, q3, q4⟩ := h.1.2.2.1
  have e1 : n = q := (nI_eq (by omega) (by omega)).mp (hn.symm.trans q2)
  have e2 : n' = q := (nI_eq (by omega) (by omega)).mp (hn'.symm.trans q3)
  subst e1; subst e2
  have hT := h.2.1
  have ec : ∀ i, i < n' → A 77 i = B 138 i := fun i hi => (q4 i hi).1
  rcases ha with ⟨a1, rfl, rfl, rfl⟩ | ⟨a1, x0, I1, ⟨p1, p2⟩, a3⟩
  · rcases hb with ⟨_, _, rfl, rfl⟩ | ⟨b1, _⟩
    · exact ⟨u2_s, h.th _⟩
    · rw [hT.nd] at a1; exact absurd b1 a1
  · rcases hb with ⟨b1, _⟩ | ⟨b1, x1, I1', ⟨k1, k2⟩, b3⟩
    · rw [hT.nd] at a1; exact absurd a1 b1
    · rw [u2_o (by decide)] at p2
      rw [← prsF_c ec] at k2
      cases hE : prsF (A 77) n' 41 0 [] 0 with
      | inl f =>
        rw [hE] at p2 k2
        obtain ⟨p2, p3⟩ := p2
        obtain ⟨k2, k3⟩ := k2
        obtain ⟨_, rfl, rfl⟩ := a3.resolve_right (fun w => nI_m1' (k := f) (by omega) (p2.symm.trans w.1))
        obtain ⟨_, rfl, rfl⟩ := b3.resolve_right (fun w => nI_pos (n := f) (by omega) (by rw [← k2]; exact w.1))
        obtain ⟨y1, y2, _, _⟩ := se_base h p1 k1 (p2.trans k2.symm)
        exact ⟨u2_s, y1.th _⟩
      | inr E =>
        obtain ⟨ts, g⟩ := E
        rw [hE] at p2 k2
        obtain ⟨p2, p3, p4, p5, p6⟩ := p2
        obtain ⟨k2, k3, k4, w, k5, k6⟩ := k2
        obtain ⟨_, ts', g', Q, z1, z2, rfl⟩ := a3.resolve_left (fun w => w.1 p2)
        rw [hE] at z1
        cases z1
        obtain ⟨_, ts', g', Q', z3, z4, z5, rfl⟩ := b3.resolve_left (fun w => w.1 (by rw [k2]; decide))
        rw [← prsF_c ec, hE] at z3
        cases z3
        obtain ⟨y1, y2, y3, y4⟩ := se_base h p1 k1 (p2.trans k2.symm)
        rw [p2] at y1 y3
        obtain ⟨o1, o2⟩ := prsF_ok 41 0 [] 0 (by omega) (fun t ht => by cases ht) _ hE
        have hlen := prsF_len n40 hE
        simp only at p5 k6 o1 o2
        have hA0 : TsH (A 77) ts (u2 (u2 I1 0 5 (-1)) 76 1 0) K1 := fun j t hj => by
          obtain ⟨t1, t2, t3, t4, t5⟩ := p5 j t hj
          refine ⟨?_, ?_, ?_, t4, t5⟩ <;> rw [u2_o (by omega), u2_o (by omega)] <;> assumption
        have hB0 : TsM (B 138) ts w (se4 I1') M1 := ((k6.q 18 0).q 33 0).q 30 _
        have hfz : fzM I1' = fzM (se4 I1') := by
          funext i; unfold fzM se4; rw [u2_o (by decide), u2_o (by decide), u2_o (by decide)]
        rw [hfz] at z4
        have hTm := fun i hi => tm_ag (i := i) k5 ec o1 hA0 hB0 hi
        have hmd : mdS (se4 I1') a = 1 := by
          have e5 : ∀ b, b = 125 ∨ b = 126 → se4 I1' b = B b := fun b hb => by unfold se4; rw [u2_o (by omega), u2_o (by omega), u2_o (by omega)]; exact k1.1 b (by omega) (by omega) (by omega)
          unfold mdS mst at b1 ⊢
          rw [e5 125 (Or.inl rfl), e5 126 (Or.inr rfl)]; exact b1
        obtain ⟨r1, r2⟩ := se_ch hlen (by omega) y1.1.2.1 y1.2.1 hmd hTm 15 Q A1 Q' B1 (by omega) z2 z4
        obtain ⟨c1, c2, c3⟩ := SeC.inv y3 15 Q A1 z2
        obtain ⟨d1, d2, d3, d4⟩ := SeMC.inv y4 16 Q' B1 z4
        refine ⟨⟨by rw [d3 0 (by decide), y2]; exact h0, by rw [r1]⟩, ?_⟩
        obtain ⟨⟨h1, h2, h3, h4, h5⟩, hT', hQ'⟩ := y1
        refine ⟨⟨h1.c (fun b _ _ => c3 b (by omega) (by omega) (by omega)) (d4 128 (by decide) (by decide) (by decide)) (d4 129 (by decide) (by decide) (by decide)), h2.c (fun b _ _ => c3 b (by omega) (by omega) (by omega)) (fun _ _ _ => rfl) (fun b hb => d4 b (by omega) (by omega) (by omega)) (d3 11 (by decide)) rfl, h3.c (by rw [c3 76 (by decide) (by decide) (by decide)]) (c3 77 (by decide) (by decide) (by decide)) (d3 18 (by decide)) (d4 138 (by decide) (by decide) (by decide)), by rw [c3 0 (by decide) (by decide) (by decide), d3 30 (by decide)]; exact h4, ⟨Q, by omega, c2, by rw [r1]; exact d2, r2⟩⟩,
          hT'.c (c3 2 (by decide) (by decide) (by decide)) (c3 3 (by decide) (by decide) (by decide)) (d4 125 (by decide) (by decide) (by decide)) (d4 126 (by decide) (by decide) (by decide)) (d4 127 (by decide) (by decide) (by decide)), ?_⟩
        rw [c3 2 (by decide) (by decide) (by decide)]
        exact hQ'.c (by rw [c3 22 (by decide) (by decide) (by decide)]) (by rw [c3 22 (by decide) (by decide) (by decide)]) (c3 23 (by decide) (by decide) (by decide)) (c3 24 (by decide) (by decide) (by decide)) (d3 9 (by decide)) (d3 10 (by decide)) (d4 131 (by decide) (by decide) (by decide)) (d4 132 (by decide) (by decide) (by decide))
