/-! ===== the query: the same text, the same terms ===== -/
section
variable {c d : Nat → Int32} {n : Nat}
theorem nx_c (h : ∀ i, i < n → c i = d i) : nx c n = nx d n := by
  funext a
  unfold nx
  by_cases ha : a < n
  · rw [if_pos ha, if_pos ha, h a ha]
  · rw [if_neg ha, if_neg ha]
theorem skF_c (h : ∀ i, i < n → c i = d i) : ∀ k a, a + k ≤ n → skF c a k = skF d a k
  | 0, _, _ => rfl
  | k + 1, a, ha => by rw [skF_s, skF_s, h a (by omega), skF_c h k (a + 1) (by omega)]
theorem skb_c (h : ∀ i, i < n → c i = d i) : skb c n = skb d n := by
  funext a
  unfold skb
  by_cases ha : a ≤ n
  · exact skF_c h _ _ (by omega)
  · rw [show n - a = 0 by omega]; rfl
theorem lcn_c (h : ∀ i, i < n → c i = d i) : lcn c n = lcn d n := by
  funext a k
  induction k generalizing a with
  | zero => rfl
  | succ k ih => rw [lcn_s, lcn_s, nx_c h, ih]
theorem badW_c (h : ∀ i, i < n → c i = d i) : badW c n = badW d n := by
  funext a
  unfold badW
  rw [nx_c h, lcn_c h]
theorem okE_c (h : ∀ i, i < n → c i = d i) : okE c n = okE d n := by
  funext a
  unfold okE
  rw [nx_c h]
theorem altE_c (h : ∀ i, i < n → c i = d i) : altE c n = altE d n := by
  funext a
  unfold altE
  rw [nx_c h]
theorem phF_c (h : ∀ i, i < n → c i = d i) : phF c n = phF d n := by
  funext k a ws
  induction k generalizing a ws with
  | zero => rfl
  | succ k ih => rw [phF_s, phF_s, nx_c h, badW_c h, lcn_c h, skb_c h, ih]
theorem phr_c (h : ∀ i, i < n → c i = d i) : phr c n = phr d n := by
  funext a
  unfold phr
  rw [phF_c h, skb_c h, nx_c h]
theorem trE_c (h : ∀ i, i < n → c i = d i) : trE c n = trE d n := by
  funext b neg pre ws
  unfold trE
  rw [okE_c h, skb_c h]
theorem trB_c (h : ∀ i, i < n → c i = d i) : trB c n = trB d n := by
  funext b neg
  unfold trB
  rw [nx_c h, phr_c h, trE_c h, badW_c h, lcn_c h]
theorem trm_c (h : ∀ i, i < n → c i = d i) : trm c n = trm d n := by
  funext a
  unfold trm
  rw [nx_c h, trB_c h]
theorem altF_c (h : ∀ i, i < n → c i = d i) : altF c n = altF d n := by
  funext g k a ts
  induction k generalizing a ts with
  | zero => rfl
  | succ k ih =>
    rw [altF_s, altF_s, trm_c h]
    cases trm d n a with
    | inl f => rfl
    | inr p => simp only [altE_c h, ih]
theorem prsF_c (h : ∀ i, i < n → c i = d i) : prsF c n = prsF d n := by
  funext k a ts g
  induction k generalizing a ts g with
  | zero => rfl
  | succ k ih =>
    rw [prsF_s, prsF_s, altF_c h, skb_c h]
    cases altF d n g 41 (skb d n a) ts with
    | inl f => rfl
    | inr p => simp only [nx_c h, ih]
end
/-! ===== the scores ===== -/
theorem sm_v {f : Nat → Int32} : ∀ k, k ≤ 30 → (∀ j, j < k → f j = 0 ∨ f j = 1 ∨ f j = 3) → ∃ z : Nat, z ≤ 3 * k ∧ sm f k = nI z ∧ (z = 0 ↔ ∀ j, j < k → f j = 0)
  | 0, _, _ => ⟨0, by omega, nI_0.symm, ⟨fun _ j hj => by omega, fun _ => rfl⟩⟩
  | k + 1, hk, h => by
    obtain ⟨z, z1, z2, z3⟩ := sm_v k (by omega) (fun j hj => h j (by omega))
    have e1 : (1 : Int32) = nI 1 := by decide
    have e3 : (3 : Int32) = nI 3 := by decide
    rw [sm_s, z2]
    rcases h k (by omega) with hk0 | hk0 | hk0
    · refine ⟨z, by omega, by rw [hk0, ← nI_0, nI_add, Nat.add_zero], ?_⟩
      rw [z3]
      constructor
      · intro q j hj
        by_cases hjk : j = k
        · rw [hjk]; exact hk0
        · exact q j (by omega)
      · intro q j hj; exact q j (by omega)
    · refine ⟨z + 1, by omega, by rw [hk0, e1, nI_add], ⟨fun q => by omega, fun q => ?_⟩⟩
      have := q k (by omega)
      rw [hk0] at this; exact absurd this (by decide)
    · refine ⟨z + 3, by omega, by rw [hk0, e3, nI_add], ⟨fun q => by omega, fun q => ?_⟩⟩
      have := q k (by omega)
      rw [hk0] at this; exact absurd this (by decide)
theorem anF_iff {G : Nat → Bool} : ∀ k, anF G k = true ↔ ∃ j, j < k ∧ G j = true
  | 0 => ⟨fun h => (by cases h), fun ⟨j, h, _⟩ => (by omega)⟩
  | k + 1 => by
    rw [anF_s, Bool.or_eq_true, anF_iff k]
    constructor
    · rintro (⟨j, h1, h2⟩ | h)
      · exact ⟨j, by omega, h2⟩
      · exact ⟨k, by omega, h⟩
    · rintro ⟨j, h1, h2⟩
      by_cases hj : j = k
      · exact Or.inr (hj ▸ h2)
      · exact Or.inl ⟨j, by omega, h2⟩
/-- the same term -/
def TmE (K : DJ) (B : DI) (M : DJ) (i f s : Nat) : Prop := (∀ t, t < s → WD (K (80 + 2 * i) t) (M 144 (f + t)) (B 145 (f + t))) ∧
  ((s = 1 ∧ B 141 i = 1 ∧ ∃ q, q ≤ 8 ∧ B 145 f = nI q ∧ K (79 + 2 * i) 4 = msk q) ∨ (¬ B 141 i = 1 ∧ K (79 + 2 * i) 4 = -1))
theorem hit_ag {A B : DI} {K M : DJ} {e m i f s p : Nat} (hs1 : 1 ≤ s) (he : ∀ i, i < m → WD (K (29 + 3 * e) i) (M 135 (30 * e + i)) (B 136 (30 * e + i)) ∧ A (30 + 3 * e) i = B 137 (30 * e + i) ∧ (A (30 + 3 * e) i = 1 ∨ A (30 + 3 * e) i = 3)) (ht : TmE K B M i f s) (hp : p + s ≤ m) : alF (hitB K i e p) 0 s = gdM B M i f s e p := by
  obtain ⟨t1, t2⟩ := ht
  unfold gdM
  rw [show s = (s - 1) + 1 by omega, alF_s, Nat.add_sub_cancel]
  rcases t2 with ⟨a1, a2, q, q1, q2, q3⟩ | ⟨a1, a2⟩
  · rw [show s - 1 = 0 by omega]
    show (hitB K i e p 0 && true) = (hitM B M i f (30 * e + p) && true)
    rw [Bool.and_true, Bool.and_true]
    have w1 := (he p (by omega)).1
    have w2 := t1 0 (by omega)
    rw [Nat.add_zero] at w2
    unfold hitB hitM
    rw [if_pos a2, q3, Nat.add_zero, Bool.eq_iff_iff, decide_eq_true_eq, w1.pre w2 q2 q1]
    simp only [Bool.and_eq_true, Bool.not_eq_true', decide_eq_false_iff_not, decide_eq_true_eq]
  · have hh : ∀ t, t < s → hitB K i e p t = decide (M 135 (30 * e + p + t) = M 144 (f + t)) := fun t hts => by
      unfold hitB
      rw [a2, and_m1, decide_eq_decide, (he (p + t) (by omega)).1.eq (t1 t hts), Nat.add_assoc]
    have h0 : hitB K i e p 0 = hitM B M i f (30 * e + p) := by
      rw [hh 0 (by omega)]; unfold hitM; rw [if_neg a1]; rfl
    rw [h0]
    congr 1
    rw [Bool.eq_iff_iff, alF_iff, alF_iff]
    constructor
    · intro hq j h1 h2
      have := hq j h1 h2
      rw [hh j (by omega)] at this
      exact this
    · intro hq j h1 h2
      rw [hh j (by omega)]
      exact hq j h1 h2
theorem wg_ag {A B : DI} {K M : DJ} {e m i f s : Nat} (hm : m ≤ 30) (hs1 : 1 ≤ s) (he : ∀ i, i < m → WD (K (29 + 3 * e) i) (M 135 (30 * e + i)) (B 136 (30 * e + i)) ∧ A (30 + 3 * e) i = B 137 (30 * e + i) ∧ (A (30 + 3 * e) i = 1 ∨ A (30 + 3 * e) i = 3)) (ht : TmE K B M i f s) :
    ∃ z : Nat, z ≤ 90 ∧ sm (wgt A K i e s) (m + 1 - s) = nI z ∧ hsM B M i f s e m = if z = 0 then -1 else nI z := by
  have hw : ∀ p, p < m + 1 - s → wgt A K i e s p = wgM B M i f s e p := fun p hp => by
    unfold wgt wgM
    rw [hit_ag hs1 he ht (by omega), (he p (by omega)).2.1]
  have h3 : ∀ p, p < m + 1 - s → (wgM B M i f s e p = 0 ∨ wgM B M i f s e p = 1 ∨ wgM B M i f s e p = 3) ∧ (gdM B M i f s e p = true ↔ ¬ wgM B M i f s e p = 0) := fun p hp => by
    have := (he p (by omega)).2.2
    rw [(he p (by omega)).2.1] at this
    unfold wgM
    cases gdM B M i f s e p with
    | false => exact ⟨Or.inl rfl, ⟨fun q => (by cases q), fun q => absurd rfl q⟩⟩
    | true =>
      rw [if_pos rfl]
      refine ⟨Or.inr this, ⟨fun _ q => ?_, fun _ => rfl⟩⟩
      rcases this with r | r <;> (rw [r] at q; exact absurd q (by decide))
  obtain ⟨z, z1, z2, z3⟩ := sm_v (f := wgM B M i f s e) (m + 1 - s) (by omega) (fun j hj => (h3 j hj).1)
  refine ⟨z, by omega, by rw [sm_eq _ hw]; exact z2, ?_⟩
  unfold hsM
  by_cases h0 : z = 0
  · rw [if_pos h0, if_neg]
    intro q
    obtain ⟨j, j1, j2⟩ := (anF_iff _).mp q
    exact ((h3 j j1).2.mp j2) (z3.mp h0 j j1)
  · rw [if_neg h0, if_pos, z2]
    refine (anF_iff _).mpr (Classical.byContradiction fun q => h0 (z3.mpr fun j hj => ?_))
    refine Classical.byContradiction fun r => q ⟨j, hj, (h3 j hj).2.mpr r⟩
theorem nI_m1' {k : Nat} (h : k < 2 ^ 31) : ¬ nI k = -1 := by
  intro h9
  have := congrArg Int32.toInt h9
  rw [nI_toInt h, show (-1 : Int32).toInt = -1 by decide] at this
  omega
theorem pa_ag {of un of' wo : Nat → Bool} {w h : Nat → Int32} {K : Nat} (e1 : ∀ i, i < K → of i = of' i) (e2 : ∀ i, i < K → un i = wo i) (e3 : ∀ i, i < K → ∃ z : Nat, z ≤ 90 ∧ w i = nI z ∧ h i = if z = 0 then -1 else nI z) :
    ∀ k i y, i + k ≤ K → paF of w un k i (nI y) = scM of' wo h k i (nI y) ∧ (paF of w un k i (nI y) = -1 ∨ ∃ x, x ≤ y + 90 * k ∧ paF of w un k i (nI y) = nI x)
  | 0, i, y, _ => ⟨rfl, Or.inr ⟨y, by omega, rfl⟩⟩
  | k + 1, i, y, hi => by
    obtain ⟨z, z1, z2, z3⟩ := e3 i (by omega)
    obtain ⟨a1, a2⟩ := pa_ag e1 e2 e3 k (i + 1) y (by omega)
    obtain ⟨b1, b2⟩ := pa_ag e1 e2 e3 k (i + 1) (y + z) (by omega)
    have e0 : nI y + 0 = nI y := by rw [← nI_0, nI_add]; rfl
    rw [scM_s, show paF of w un (k + 1) i (nI y) = if of i then (if decide (0 < w i) = un i then -1 else paF of w un k (i + 1) (nI y + w i)) else paF of w un k (i + 1) (nI y) from rfl, e1 i (by omega), e2 i (by omega)]
    cases of' i with
    | false => exact ⟨a1, a2.imp id (fun ⟨x, x1, x2⟩ => ⟨x, by omega, x2⟩)⟩
    | true =>
      simp only [if_true]
      rw [z2, z3]
      by_cases hz : z = 0
      · rw [if_pos hz, hz, nI_0, e0, show decide ((0 : Int32) < 0) = false by decide]
        cases wo i with
        | false => simp only [if_true, Bool.false_eq_true, if_false, show (-1 : Int32) < 0 by decide]; exact ⟨trivial, Or.inl trivial⟩
        | true => simp only [Bool.false_eq_true, if_false, if_true, show (-1 : Int32) < 0 by decide]; exact ⟨a1, a2.imp id (fun ⟨x, x1, x2⟩ => ⟨x, by omega, x2⟩)⟩
      · rw [if_neg hz, show decide ((0 : Int32) < nI z) = true by rw [decide_eq_true_eq, ← nI_0]; exact nI_lt (by omega) (by omega), if_neg (nI_pos (by omega)), if_neg (nI_pos (by omega)), nI_add]
        cases wo i with
        | false => simp only [Bool.true_eq_false, Bool.false_eq_true, if_false]; exact ⟨b1, b2.imp id (fun ⟨x, x1, x2⟩ => ⟨x, by omega, x2⟩)⟩
        | true => simp only [if_true]; exact ⟨trivial, Or.inl trivial⟩
theorem sc_ag {p p' : Nat → Int32} {T : Nat} (hT : T ≤ 3600) (e : ∀ i, p i = p' i ∧ (p i = -1 ∨ ∃ x, x ≤ T ∧ p i = nI x)) :
    ∀ k i z, (z = -1 ∨ ∃ y, y + T * k ≤ 1000000 ∧ z = nI y) → T * k ≤ 1000000 → scF p k i z = smF p' k i z ∧ (scF p k i z = -1 ∨ ∃ y, y ≤ 1000000 ∧ scF p k i z = nI y)
  | 0, i, z, hz, _ => ⟨rfl, hz.imp id (fun ⟨y, y1, y2⟩ => ⟨y, by omega, y2⟩)⟩
  | k + 1, i, z, hz, hk => by
    rw [show scF p (k + 1) i z = scF p k (i + 1) (if p i = -1 then z else (if z < 0 then 0 else z) + p i) from rfl, show smF p' (k + 1) i z = smF p' k (i + 1) (if p' i < 0 then z else if z < 0 then p' i else z + p' i) from rfl, ← (e i).1]
    rw [Nat.mul_succ] at hk
    have hz' : (z = -1 ∨ ∃ y, y + T * k + T ≤ 1000000 ∧ z = nI y) := by simpa only [Nat.mul_succ, ← Nat.add_assoc] using hz
    rcases (e i).2 with h1 | ⟨x, x1, x2⟩
    · rw [h1, if_pos rfl, if_pos (by decide)]
      exact sc_ag hT e k (i + 1) z (hz'.imp id (fun ⟨y, y1, y2⟩ => ⟨y, by omega, y2⟩)) (by omega)
    · rw [x2, if_neg (nI_m1' (by omega)), if_neg (nI_pos (by omega))]
      rcases hz' with h1 | ⟨y, y1, y2⟩
      · rw [h1, if_pos (by decide), if_pos (by decide), show (0 : Int32) + nI x = nI x by rw [← nI_0, nI_add, Nat.zero_add]]
        exact sc_ag hT e k (i + 1) (nI x) (Or.inr ⟨x, by omega, rfl⟩) (by omega)
      · rw [y2, if_neg (nI_pos (by omega)), if_neg (nI_pos (by omega)), nI_add]
        exact sc_ag hT e k (i + 1) (nI (y + x)) (Or.inr ⟨y + x, by omega, rfl⟩) (by omega)
