/-! ===== write ===== -/
theorem wrF_at {I : DI} {j m : Nat} {v : Int64} {k : Nat} (hj : j < 16) : ∀ t i, wrF I j m v k t (5 + j) i = if m ≤ i ∧ i < m + t then byOf v (nI (k - 1 - (i - m))) else I (5 + j) i
  | 0, i => by rw [if_neg (by omega)]; rfl
  | t + 1, i => by
    rw [wrF_s, u2_o (by omega)]
    by_cases hi : i = m + t
    · rw [hi, u2_s, if_pos (by omega), show m + t - m = t by omega]
    · rw [u2_n (Or.inr hi), wrF_at hj t i]
      by_cases hc : m ≤ i ∧ i < m + t
      · rw [if_pos hc, if_pos (by omega)]
      · rw [if_neg hc, if_neg (by omega)]
theorem wrM_at {I : DI} {j m : Nat} {v : Int64} {k : Nat} : ∀ t i, wrM I j m v k t 128 i = if 60 * j + m ≤ i ∧ i < 60 * j + m + t then byM v (k - 1 - (i - (60 * j + m))) else I 128 i
  | 0, i => by rw [if_neg (by omega)]; rfl
  | t + 1, i => by
    rw [wrM_s, u2_o (by decide)]
    by_cases hi : i = 60 * j + (m + t)
    · rw [hi, u2_s, if_pos (by omega), show 60 * j + (m + t) - (60 * j + m) = t by omega]
    · rw [u2_n (Or.inr hi), wrM_at t i]
      by_cases hc : 60 * j + m ≤ i ∧ i < 60 * j + m + t
      · rw [if_pos hc, if_pos (by omega)]
      · rw [if_neg hc, if_neg (by omega)]
theorem wrM_n {I : DI} {j m : Nat} {v : Int64} {k : Nat} {i : Nat} (h : i ≠ j) : ∀ t, wrM I j m v k t 129 i = I 129 i
  | 0 => rfl
  | t + 1 => by rw [wrM_s, u2_n (Or.inr h), u2_o (by decide), wrM_n h t]
theorem ar_eq (v : Int64) {k : Nat} (hk : k ≤ 8) : alF (arC v) 0 k = alF (arM v) 0 k := by
  rw [Bool.eq_iff_iff, alF_iff, alF_iff]
  constructor
  · intro h j h1 h2; have := h j h1 h2; unfold arM; rw [byM_of v j (by omega)]; exact this
  · intro h j h1 h2; have := h j h1 h2; unfold arM at this; rw [byM_of v j (by omega)] at this; exact this
theorem wr_ag {A B A1 B1 : DI} {K K1 M : DJ} {a n x : Int32} {v : Int64} {r : Int32 ⊕ Nat} (h : REL A K B M) (h0 : B 124 0 = 0) (ha : WrQ A K a v n r A1 K1) (hb : WrM B a v n x B1) : AG (cdT 2 3 1) r x B1 ∧ REL A1 K1 B1 M := by
  obtain ⟨rfl, ha⟩ := ha
  have hT := h.2.1
  rcases ha with ⟨a1, rfl, rfl⟩ | ⟨j, m, rfl, a2, a3, a4, a5, a6⟩
  · rcases hb with ⟨_, _, rfl⟩ | ⟨j, m, rfl, b2, b3, _⟩
    · exact ⟨u2_s, h.th _⟩
    · rw [hT.nd, mdS_j b2] at a1; exact absurd b3 a1
  · rcases hb with ⟨b1, _⟩ | ⟨j', m', b1, b2, b3, b4, b5, b6⟩
    · rw [← hT.nd, ndS_j a2] at b1; exact absurd a3 b1
    · have ej : j' = j := (nI_eq (by omega) (by omega)).mp b1.symm
      subst ej
      obtain ⟨q, q1, q2, q3, q4⟩ := h.1.1 j' b2
      have e1 : m = q := (nI_eq (by omega) (by omega)).mp (a4.symm.trans q2)
      have e2 : m' = q := (nI_eq (by omega) (by omega)).mp (b4.symm.trans q3)
      subst e1; subst e2
      rcases a6 with ⟨c1, rfl, rfl⟩ | ⟨k, c1, c2, c3, c4, c5⟩
      · rcases b6 with ⟨_, _, rfl⟩ | ⟨k, d1, d2, d3, d4, _⟩
        · exact ⟨u2_s, h.th _⟩
        · have := c1 k d2 d3 d1
          rw [ar_eq v d3, d4] at this; cases this
      · rcases b6 with ⟨d1, _⟩ | ⟨k', d1, d2, d3, d4, d5⟩
        · have := d1 k c2 c3 c1
          rw [← ar_eq v c3, c4] at this; cases this
        · have ek : k' = k := (nI_eq (by omega) (by omega)).mp (d1.symm.trans c1)
          subst ek
          rcases c5 with ⟨c5, rfl, rfl⟩ | ⟨c5, rfl, c6⟩
          · rcases d5 with ⟨_, _, rfl⟩ | ⟨d5, _⟩
            · exact ⟨u2_s, h.th _⟩
            · omega
          · rcases d5 with ⟨d5, _⟩ | ⟨_, rfl, d6⟩
            · omega
            · obtain ⟨y1, y2⟩ := co_tell b2 h a3 (fun b hb => wrF_o A m' v k' k' (by omega) (by omega)) (fun b hb hb' => wrM_o B m' v k' k' hb hb') (fun i hi => by
                obtain ⟨q, y1, y2, y3, y4⟩ := h.1.1 i hi
                by_cases hij : i = j'
                · subst hij
                  refine ⟨m' + k', by omega, wrF_l a4 v k' k', wrM_l b4 v k' k', fun t ht => ?_⟩
                  rw [wrF_at b2, wrM_at]
                  by_cases htm : m' ≤ t
                  · rw [if_pos (by omega), if_pos (by omega), byM_of v _ (by omega), show 60 * i + t - (60 * i + m') = t - m' by omega]
                  · rw [if_neg (by omega), if_neg (by omega)]; exact q4 t (by omega)
                · refine ⟨q, y1, by rw [wrF_n A m' v k' k' b2 hij]; exact y2, by rw [wrM_n hij]; exact y3, fun t ht => ?_⟩
                  rw [wrF_o A m' v k' k' (by omega) (by omega), wrM_at, if_neg (by omega)]; exact y4 t ht) c6 d6
              exact ⟨⟨by rw [y2]; exact h0, rfl⟩, y1⟩
/-! ===== remove ===== -/
def rvM (A : DI) (j i : Nat) : Prop := i = j ∨ (¬ A 2 i = 0 ∧ wup (A 3) (nI j) 16 i = true)
theorem rv_ch {A B B' : DI} {j : Nat} (hj : j < 16) (hj1 : 1 ≤ j) (hs : ¬ A 2 j = 0) (hT : TrR A B) (hQ : QuS (A 2) A B) (hB' : ∀ b, b ≠ 130 → B' b = B b) : ∀ t c I c' I', t ≤ 15 → RvC A j t c I → RvMC B' (mkd B j) (t + 1) c' I' →
    c = c' ∧ (∀ b, b ≠ 2 → b ≠ 22 → b ≠ 23 → b ≠ 24 → I b = A b) ∧ (∀ b, b ≠ 124 → b ≠ 125 → b ≠ 130 → b ≠ 131 → b ≠ 132 → I' b = B b) ∧ (∀ i, i ≠ 9 → i ≠ 10 → I' 124 i = B 124 i) ∧ (∀ i, i < 16 → I 2 i = mst I' i) ∧ (∀ i, i < 16 → (i ≤ t → rvM A j i → I 2 i = 0) ∧ (¬ (i ≤ t ∧ rvM A j i) → I 2 i = A 2 i)) ∧ QuS (I 2) I I'
  | 0, c, I, c', I', _, ⟨e1, e2⟩, ⟨c0, I1, ⟨e3, e4⟩, e5⟩ => by
    subst e1; subst e2; subst e3; subst e4
    have h0 : mkd B j 0 = false := by unfold mkd; rw [wup_0, Bool.and_false, Bool.or_false]; exact decide_eq_false (by omega)
    rcases e5 with ⟨w, _⟩ | ⟨_, rfl, rfl⟩
    · rw [h0] at w; cases w
    · have hn0 : ¬ rvM I j 0 := fun q => q.elim (fun q => by omega) (fun q => by rw [wup_0] at q; cases q.2)
      refine ⟨rfl, fun _ _ _ _ _ => rfl, fun b _ _ hb _ _ => hB' b hb, fun i _ _ => by rw [hB' 124 (by decide)], fun i hi => ?_, fun i hi => ⟨fun hi0 hr => ?_, fun _ => rfl⟩, hQ.c rfl rfl rfl rfl (by rw [hB' 124 (by decide)]) (by rw [hB' 124 (by decide)]) (hB' 131 (by decide)) (hB' 132 (by decide))⟩
      · unfold mst; rw [hB' 125 (by decide), hB' 126 (by decide)]; exact hT.2.1 i hi
      · rw [show i = 0 by omega] at hr; exact absurd hr hn0
  | t + 1, c, I, c', I', ht, ⟨c0, I1, e1, e2⟩, ⟨c0', I1', e3, e4⟩ => by
    obtain ⟨r1, r2, r3, r4, r5, r6, r7⟩ := rv_ch hj hj1 hs hT hQ hB' t c0 I1 c0' I1' (by omega) e1 e3
    have h2 : I1 2 (t + 1) = A 2 (t + 1) := (r6 (t + 1) (by omega)).2 (fun q => by omega)
    have hw : wth I1 (t + 1) j ↔ rvM A j (t + 1) := by
      unfold wth rvM
      rw [h2, r2 3 (by decide) (by decide) (by decide) (by decide)]
      simp only [Bool.and_eq_true, Bool.not_eq_true', decide_eq_false_iff_not]
    have hm : mkd B j (t + 1) = true ↔ rvM A j (t + 1) := by
      unfold mkd rvM
      rw [← hT.wup (by omega)]
      simp only [Bool.or_eq_true, decide_eq_true_eq, Bool.and_eq_true, Bool.not_eq_true', decide_eq_false_iff_not]
      rw [hT.2.1 (t + 1) (by omega), mst_0]
    by_cases hr : rvM A j (t + 1)
    · obtain ⟨_, e5, rfl⟩ := e2.resolve_right (fun q => q.1 (hw.mpr hr))
      obtain ⟨_, e6, rfl⟩ := e4.resolve_right (fun q => by rw [hm.mpr hr] at q; cases q.1)
      have hthere : ¬ A 2 (t + 1) = 0 := hr.elim (fun q => by rw [q]; exact hs) (fun q => q.1)
      have h5 := r5 (t + 1) (by omega)
      have h25 : ¬ I1' 125 (t + 1) = 0 := fun q => hthere (by rw [← h2, h5]; exact mst_0.mpr q)
      have hfil : I1 2 (t + 1) = 2 ↔ I1' 126 (t + 1) = 0 := by
        rw [h5]; unfold mst; rw [if_neg h25]
        by_cases q : I1' 126 (t + 1) = 0
        · rw [if_pos q]; exact ⟨fun _ => q, fun _ => rfl⟩
        · rw [if_neg q]; exact ⟨fun w => absurd w (by decide), fun w => absurd w q⟩
      have s2 : ∀ i, u2 I1 2 (t + 1) 0 2 i = if i = t + 1 then 0 else I1 2 i := fun i => by
        by_cases hi : i = t + 1
        · rw [if_pos hi, hi, u2_s]
        · rw [if_neg hi, u2_n (Or.inr hi)]
      have sM : ∀ i, mst (u2 I1' 125 (t + 1) 0) i = if i = t + 1 then 0 else mst I1' i := fun i => by
        unfold mst
        rw [u2_o (b := 126) (by decide)]
        by_cases hi : i = t + 1
        · rw [if_pos hi, hi, u2_s, if_pos rfl]
        · rw [if_neg hi, u2_n (Or.inr hi)]
      have f5 : ∀ i, i < 16 → u2 I1 2 (t + 1) 0 2 i = mst (u2 I1' 125 (t + 1) 0) i := fun i hi => by rw [s2, sM, r5 i hi]
      have f6 : ∀ i, i < 16 → (i ≤ t + 1 → rvM A j i → u2 I1 2 (t + 1) 0 2 i = 0) ∧ (¬ (i ≤ t + 1 ∧ rvM A j i) → u2 I1 2 (t + 1) 0 2 i = A 2 i) := fun i hi => by
        rw [s2]
        by_cases hit : i = t + 1
        · rw [if_pos hit]
          exact ⟨fun _ _ => rfl, fun q => absurd ⟨by omega, hit ▸ hr⟩ q⟩
        · rw [if_neg hit]
          exact ⟨fun a b => (r6 i hi).1 (by omega) b, fun q => (r6 i hi).2 (fun w => q ⟨by omega, w.2⟩)⟩
      have f7 : QuS (I1 2) (u2 I1 2 (t + 1) 0) (u2 I1' 125 (t + 1) 0) := r7.c (by rw [u2_o (by decide)]) (by rw [u2_o (by decide)]) (u2_o (by decide)) (u2_o (by decide)) (by rw [u2_o (by decide)]) (by rw [u2_o (by decide)]) (u2_o (by decide)) (u2_o (by decide))
      unfold Rm at e5
      unfold RmM at e6
      by_cases hf : I1 2 (t + 1) = 2
      · rw [if_pos hf] at e5
        rw [if_pos (hfil.mp hf)] at e6
        obtain ⟨y1, y2, y3, y4⟩ := tell_rel (by omega) f7 ⟨fun i _ hit => by rw [s2, if_neg hit], Or.inr (Or.inr ⟨rfl, hf, by rw [s2, if_pos rfl]; decide⟩)⟩ e5 e6
        have yy := y2 2 (by decide) (by decide) (by decide)
        refine ⟨by rw [r1], fun b b1 b2 b3 b4 => by rw [y2 b b2 b3 b4, u2_o b1]; exact r2 b b1 b2 b3 b4, fun b b1 b2 b3 b4 b5 => by rw [y4 b b1 b4 b5, u2_o b2]; exact r3 b b1 b2 b3 b4 b5, fun i i1 i2 => by rw [y3 i i1 i2, u2_o (by decide)]; exact r4 i i1 i2, fun i hi => ?_, fun i hi => by rw [yy]; exact f6 i hi, y1⟩
        rw [yy, f5 i hi]; unfold mst; rw [y4 125 (by decide) (by decide) (by decide), y4 126 (by decide) (by decide) (by decide)]
      · rw [if_neg hf] at e5
        rw [if_neg (fun q => hf (hfil.mpr q))] at e6
        subst e5; subst e6
        refine ⟨by rw [r1], fun b b1 b2 b3 b4 => by rw [u2_o b1]; exact r2 b b1 b2 b3 b4, fun b b1 b2 b3 b4 b5 => by rw [u2_o b2]; exact r3 b b1 b2 b3 b4 b5, fun i i1 i2 => by rw [u2_o (by decide)]; exact r4 i i1 i2, f5, f6, ?_⟩
        obtain ⟨m, z1, z2⟩ := f7
        refine ⟨m, z1.sEq (fun i hi => ?_), z2⟩
        rw [s2]
        by_cases hi : i = t + 1
        · rw [if_pos hi, hi]; exact ⟨fun q => absurd q (by decide), fun q => absurd q hf⟩
        · rw [if_neg hi]
    · obtain ⟨_, rfl, rfl⟩ := e2.resolve_left (fun q => hr (hw.mp q.1))
      obtain ⟨_, rfl, rfl⟩ := e4.resolve_left (fun q => hr (hm.mp q.1))
      refine ⟨r1, r2, r3, r4, r5, fun i hi => ⟨fun a b => (r6 i hi).1 ?_ b, fun q => (r6 i hi).2 (fun w => q ⟨by omega, w.2⟩)⟩, r7⟩
      by_cases hit : i = t + 1
      · exact absurd (hit ▸ b) hr
      · omega
theorem rv_ag {A B A1 B1 : DI} {K K1 M : DJ} {a x : Int32} {r : Int32 ⊕ Nat} (h : REL A K B M) (h0 : B 124 0 = 0) (ha : RvQ A K a r A1 K1) (hb : RvM B a x B1) : AG (cdT 1 0 2) r x B1 ∧ REL A1 K1 B1 M := by
  obtain ⟨rfl, ha⟩ := ha
  obtain ⟨hR, hT, hQ⟩ := h
  rcases ha with ⟨a1, rfl, rfl⟩ | ⟨a1, a2, rfl, rfl⟩ | ⟨j, c, rfl, a2, a3, a4, a5, rfl⟩
  · rcases hb with ⟨_, _, rfl⟩ | ⟨b1, _⟩ | ⟨j, c, I1, rfl, b2, b3, _⟩
    · exact ⟨u2_s, REL.th ⟨hR, hT, hQ⟩ _⟩
    · rw [a1] at b1; cases b1
    · rw [isNb_nI b2 b3] at a1; cases a1
  · rcases hb with ⟨b1, _⟩ | ⟨_, _, _, rfl⟩ | ⟨j, c, I1, rfl, b2, b3, b4, _⟩
    · rw [a1] at b1; cases b1
    · exact ⟨u2_s, REL.th ⟨hR, hT, hQ⟩ _⟩
    · rw [hT.nd, mdS_j b3] at a2; exact absurd a2 b4
  · rcases hb with ⟨b1, _⟩ | ⟨_, b2, _⟩ | ⟨j', c', I1, b1, b2, b3, b4, b5, b6, b7, rfl⟩
    · rw [isNb_nI a2 a3] at b1; cases b1
    · rw [← hT.nd, ndS_j a3] at b2; exact absurd b2 a4
    · have ej : j' = j := (nI_eq (by omega) (by omega)).mp b1.symm
      subst ej
      obtain ⟨r1, r2, r3, r4, r5, r6, r7⟩ := rv_ch a3 a2 a4 hT hQ b5 15 c A1 c' B1 (by omega) a5 b6
      refine ⟨⟨by rw [r4 0 (by decide) (by decide)]; exact h0, by rw [r1]⟩, hR.c (fun b _ b1 _ b3 b4 b5 => r2 b b1 b3 b4 b5) (fun _ _ _ => rfl) (fun b _ _ b1 b2 b3 => r3 b (by omega) (by omega) b1 b2 b3) (fun i _ i1 i2 => r4 i i1 i2) rfl, ⟨?_, r5, ?_, fun i hi1 hi => ?_⟩, r7⟩
      · rw [r2 3 (by decide) (by decide) (by decide) (by decide)]
        refine hT.1.rem (j := j') a2 a3 (fun i hi => ?_)
        by_cases hr : rvM A j' i
        · exact Or.inr ⟨(r6 i hi).1 (by omega) hr, hr.imp id (fun q => q.2)⟩
        · refine Or.inl ⟨(r6 i hi).2 (fun q => hr q.2), fun q => hr (Or.inl q), ?_⟩
          by_cases h2 : A 2 i = 0
          · exact Or.inl h2
          · refine Or.inr ?_
            cases hw : wup (A 3) (nI j') 16 i with
            | false => rfl
            | true => exact absurd (Or.inr ⟨h2, hw⟩) hr
      · rw [r3 127 (by decide) (by decide) (by decide) (by decide) (by decide)]; exact hT.2.2.1
      · rw [r2 3 (by decide) (by decide) (by decide) (by decide), r3 127 (by decide) (by decide) (by decide) (by decide) (by decide)]; exact hT.2.2.2 i hi1 hi
