/-! ===== words: the class's (left) and the model's (right) ===== -/
theorem ltr_v {x : Int32} (h : isLt x = true) : ∃ e : Nat, 97 ≤ e ∧ e ≤ 122 ∧ ltr x = nI e ∧ x ||| 32 = nI e := by
  have hx : (65 ≤ x.toInt ∧ x.toInt ≤ 90) ∨ (97 ≤ x.toInt ∧ x.toInt ≤ 122) := by
    simp only [isLt, Bool.or_eq_true, Bool.and_eq_true, Bool.not_eq_true', decide_eq_false_iff_not, Int32.lt_iff_toInt_lt] at h
    have e1 : (97 : Int32).toInt = 97 := by decide
    have e2 : (122 : Int32).toInt = 122 := by decide
    have e3 : (65 : Int32).toInt = 65 := by decide
    have e4 : (90 : Int32).toInt = 90 := by decide
    rw [e1, e2, e3, e4] at h
    omega
  have hj : ∃ n : Nat, x = nI n ∧ (n : Int) = x.toInt := ⟨x.toInt.toNat, Int32.toInt_inj.mp (by rw [nI_toInt (by omega)]; omega), by omega⟩
  have hA : ∀ j : Nat, j < 26 → ltr (nI (65 + j)) = nI (97 + j) ∧ nI (65 + j) ||| 32 = nI (97 + j) := by decide +kernel
  have hB : ∀ j : Nat, j < 26 → ltr (nI (97 + j)) = nI (97 + j) ∧ nI (97 + j) ||| 32 = nI (97 + j) := by decide +kernel
  obtain ⟨n, hn, hi⟩ := hj
  rcases hx with hx | hx
  · obtain ⟨j, rfl⟩ : ∃ j, n = 65 + j := ⟨n - 65, by omega⟩
    rw [hn]
    exact ⟨97 + j, by omega, by omega, hA j (by omega)⟩
  · obtain ⟨j, rfl⟩ : ∃ j, n = 97 + j := ⟨n - 97, by omega⟩
    rw [hn]
    exact ⟨97 + j, by omega, by omega, hB j (by omega)⟩
theorem smod64 : ∀ n : Nat, n < 64 → (BitVec.ofNat 64 n).smod 64 = BitVec.ofNat 64 n := by decide +kernel
theorem shl_n {w b : Int64} {n : Nat} (hn : n < 64) (hb : b.toBitVec = BitVec.ofNat 64 n) : (w <<< b).toBitVec.toNat = w.toBitVec.toNat * 2 ^ n % 2 ^ 64 := by
  rw [Int64.toBitVec_shiftLeft, hb, smod64 n hn, BitVec.shiftLeft_eq', BitVec.toNat_shiftLeft, BitVec.toNat_ofNat, Nat.mod_eq_of_lt (by omega : n < 2 ^ 64), Nat.shiftLeft_eq]
theorem shr_n {w b : Int64} {n : Nat} (hn : n < 64) (hb : b.toBitVec = BitVec.ofNat 64 n) (hw : w.toBitVec.toNat < 2 ^ 63) : (w >>> b).toBitVec.toNat = w.toBitVec.toNat / 2 ^ n := by
  have hm : w.toBitVec.msb = false := by rw [BitVec.msb_eq_decide]; simp only [decide_eq_false_iff_not]; omega
  rw [Int64.toBitVec_shiftRight, hb, smod64 n hn, BitVec.sshiftRight', BitVec.sshiftRight_eq_of_msb_false hm, BitVec.toNat_ushiftRight, BitVec.toNat_ofNat, Nat.mod_eq_of_lt (by omega : n < 2 ^ 64), Nat.shiftRight_eq_div_pow]
theorem nI_bv {e : Nat} (h : e < 2 ^ 31) : (nI e).toInt64.toBitVec.toNat = e := by
  have h1 : (nI e).toInt64.toInt = e := by rw [Int32.toInt_toInt64, nI_toInt h]
  have h2 : (nI e).toInt64.toBitVec.toInt = e := h1
  rw [BitVec.toInt_eq_toNat_cond] at h2
  split at h2 <;> omega
def lv (x : Int32) : Nat := (ltr x).toNatClampNeg
theorem lv_v {x : Int32} (h : isLt x = true) : 97 ≤ lv x ∧ lv x ≤ 122 ∧ ltr x = nI (lv x) ∧ x ||| 32 = nI (lv x) := by
  obtain ⟨e, h1, h2, h3, h4⟩ := ltr_v h
  have : lv x = e := by unfold lv; rw [h3, nI_clamp (by omega)]
  rw [this]; exact ⟨h1, h2, h3, h4⟩
def NW (c : Nat → Int32) (s : Nat) : Nat → Nat
  | 0 => 0
  | l + 1 => NW c s l * 256 + lv (c (s + l))
theorem NW_lt {c : Nat → Int32} {s : Nat} : ∀ l, (∀ i, i < l → isLt (c (s + i)) = true) → NW c s l < 2 ^ (8 * l)
  | 0, _ => by show 0 < 2 ^ (8 * 0); decide
  | l + 1, h => by
    have h1 := NW_lt l (fun i hi => h i (by omega))
    have h2 := lv_v (h l (by omega))
    rw [NW, show 8 * (l + 1) = 8 * l + 8 by omega, Nat.pow_add]
    omega
theorem wM_n {c : Nat → Int32} {s : Nat} : ∀ l, l ≤ 8 → (∀ i, i < l → isLt (c (s + i)) = true) → (wM c s l).toBitVec.toNat = NW c s l
  | 0, _, _ => by show (0 : Int64).toBitVec.toNat = 0; decide
  | l + 1, hl, h => by
    have h1 := wM_n l (by omega) (fun i hi => h i (by omega))
    have h2 := lv_v (h l (by omega))
    have h3 := NW_lt l (fun i hi => h i (by omega))
    have h4 : 2 ^ (8 * l) ≤ 2 ^ 56 := Nat.pow_le_pow_right (by decide) (by omega)
    rw [wM, if_pos (by omega), NW, Int64.toBitVec_or, BitVec.toNat_or, shl_n (n := 8) (by decide) (by decide), h1, h2.2.2.1, nI_bv (by omega), Nat.mod_eq_of_lt (by omega), Nat.mul_comm (NW c s l) (2 ^ 8), ← Nat.two_pow_add_eq_or_of_lt (by omega)]
theorem sh7 : ∀ l : Nat, l < 8 → ((8 * (7 - nI l)).toInt64 &&& 63).toBitVec = BitVec.ofNat 64 (8 * (7 - l)) := by decide +kernel
theorem wC_n {c : Nat → Int32} {s : Nat} : ∀ l, l ≤ 8 → (∀ i, i < l → isLt (c (s + i)) = true) → (wC c s l).toBitVec.toNat = NW c s l * 2 ^ (8 * (8 - l))
  | 0, _, _ => by show (0 : Int64).toBitVec.toNat = 0 * 2 ^ (8 * (8 - 0)); decide
  | l + 1, hl, h => by
    have h1 := wC_n l (by omega) (fun i hi => h i (by omega))
    have h2 := lv_v (h l (by omega))
    have h3 := NW_lt l (fun i hi => h i (by omega))
    have hp : (2 : Nat) ^ (8 * (8 - l)) = 2 ^ (8 * (7 - l)) * 256 := by rw [show 8 * (8 - l) = 8 * (7 - l) + 8 by omega, Nat.pow_add]
    have hle : (2 : Nat) ^ (8 * (7 - l)) ≤ 2 ^ 56 := Nat.pow_le_pow_right (by decide) (by omega)
    have hq : lv (c (s + l)) * 2 ^ (8 * (7 - l)) ≤ 122 * 2 ^ 56 := Nat.mul_le_mul h2.2.1 hle
    have hm : lv (c (s + l)) * 2 ^ (8 * (7 - l)) < 2 ^ (8 * (7 - l) + 8) := by
      rw [Nat.pow_add, Nat.mul_comm]; exact Nat.mul_lt_mul_of_pos_left (by omega) (Nat.pow_pos (by decide))
    rw [wC, if_pos (by omega), NW, wiLe, Int64.toBitVec_or, BitVec.toNat_or, shl_n (n := 8 * (7 - l)) (by omega) (sh7 l (by omega)), h1, h2.2.2.2, nI_bv (by omega), Nat.mod_eq_of_lt (by omega), hp, show 8 * (8 - (l + 1)) = 8 * (7 - l) by omega]
    rw [show NW c s l * (2 ^ (8 * (7 - l)) * 256) = 2 ^ (8 * (7 - l) + 8) * NW c s l by rw [Nat.pow_add, Nat.mul_comm], ← Nat.two_pow_add_eq_or_of_lt hm, Nat.pow_add]
    generalize 2 ^ (8 * (7 - l)) = P
    generalize NW c s l = N
    generalize lv (c (s + l)) = e
    have q : P * 2 ^ 8 * N = N * 256 * P := by rw [Nat.mul_comm (P * 2 ^ 8) N, Nat.mul_comm P (2 ^ 8), Nat.mul_assoc]
    rw [Nat.add_mul, q]
/-- a word of the class, a word of the model and its number of letters: the same word -/
def WD (cw mw : Int64) (L : Int32) : Prop := ∃ l N : Nat, 1 ≤ l ∧ l ≤ 8 ∧ L = nI l ∧ cw.toBitVec.toNat = N * 2 ^ (8 * (8 - l)) ∧ mw.toBitVec.toNat = N ∧ N < 2 ^ (8 * l - 1) ∧ 2 ^ (8 * (l - 1)) ≤ N ∧ ¬ N % 256 = 0
theorem NW_r {c : Nat → Int32} {s : Nat} : ∀ l, 1 ≤ l → (∀ i, i < l → isLt (c (s + i)) = true) → NW c s l < 2 ^ (8 * l - 1) ∧ 2 ^ (8 * (l - 1)) ≤ NW c s l ∧ ¬ NW c s l % 256 = 0
  | 0, h, _ => by omega
  | 1, _, h => by
    have h2 := lv_v (h 0 (by omega))
    simp only [NW]
    omega
  | l + 2, _, h => by
    obtain ⟨h1, h3, _⟩ := NW_r (l + 1) (by omega) (fun i hi => h i (by omega))
    have h2 := lv_v (h (l + 1) (by omega))
    rw [NW, show 8 * (l + 2) - 1 = (8 * (l + 1) - 1) + 8 by omega, show 8 * (l + 2 - 1) = 8 * (l + 1 - 1) + 8 by omega, Nat.pow_add, Nat.pow_add]
    omega
theorem WD_w {c : Nat → Int32} {s l : Nat} (h1 : 1 ≤ l) (h8 : l ≤ 8) (h : ∀ i, i < l → isLt (c (s + i)) = true) : WD (wC c s l) (wM c s l) (nI l) := ⟨l, NW c s l, h1, h8, rfl, wC_n l h8 h, wM_n l h8 h, NW_r l h1 h⟩
theorem bv_i {x y : Int64} : x = y ↔ x.toBitVec.toNat = y.toBitVec.toNat := by rw [← Int64.toBitVec_inj, BitVec.toNat_inj]
theorem WD.eq {cw mw cq mq : Int64} {L Lq : Int32} (h : WD cw mw L) (g : WD cq mq Lq) : cw = cq ↔ mw = mq := by
  obtain ⟨l, N, a1, a2, _, a4, a5, a6, a7, a8⟩ := h
  obtain ⟨k, M, b1, b2, _, b4, b5, b6, b7, b8⟩ := g
  rw [bv_i, bv_i, a4, a5, b4, b5]
  obtain rfl | rfl | rfl | rfl | rfl | rfl | rfl | rfl : l = 1 ∨ l = 2 ∨ l = 3 ∨ l = 4 ∨ l = 5 ∨ l = 6 ∨ l = 7 ∨ l = 8 := by omega
  all_goals
    obtain rfl | rfl | rfl | rfl | rfl | rfl | rfl | rfl : k = 1 ∨ k = 2 ∨ k = 3 ∨ k = 4 ∨ k = 5 ∨ k = 6 ∨ k = 7 ∨ k = 8 := by omega
    all_goals
      simp only [Nat.reduceSub, Nat.reduceMul, Nat.reducePow] at *
      omega

theorem msk_b : ∀ l : Nat, l < 9 → 1 ≤ l → (msk l).toBitVec = BitVec.allOnes 64 <<< (8 * (8 - l)) := by decide +kernel
theorem and_hi {x : BitVec 64} {k : Nat} (hk : k < 64) : (x &&& (BitVec.allOnes 64 <<< k)).toNat = x.toNat / 2 ^ k * 2 ^ k := by
  have h : x &&& (BitVec.allOnes 64 <<< k) = (x >>> k) <<< k := by
    apply BitVec.eq_of_getLsbD_eq
    intro i hi
    simp only [BitVec.getLsbD_and, BitVec.getLsbD_shiftLeft, BitVec.getLsbD_allOnes, BitVec.getLsbD_ushiftRight]
    by_cases hik : i < k
    · simp [hik]
    · simp [hik, hi, show i - k < 64 by omega, show k + (i - k) = i by omega]
  rw [h, BitVec.toNat_shiftLeft, BitVec.toNat_ushiftRight, Nat.shiftLeft_eq, Nat.shiftRight_eq_div_pow]
  refine Nat.mod_eq_of_lt (Nat.lt_of_le_of_lt (Nat.div_mul_le_self _ _) x.isLt)
theorem shd : ∀ l : Nat, l < 9 → ∀ k : Nat, k < 9 → 1 ≤ k → k ≤ l → ((8 * (nI l - nI k)).toInt64 &&& 63).toBitVec = BitVec.ofNat 64 (8 * (l - k)) := by decide +kernel
theorem WD.pre {cw mw cq mq : Int64} {L Lq : Int32} {q : Nat} (h : WD cw mw L) (g : WD cq mq Lq) (hq : Lq = nI q) (hq8 : q ≤ 8) : (cw &&& msk q) = cq ↔ (¬ L < Lq ∧ mw >>> ((8 * (L - Lq)).toInt64 &&& 63) = mq) := by
  obtain ⟨l, N, a1, a2, a3, a4, a5, a6, a7, a8⟩ := h
  obtain ⟨k, M, b1, b2, b3, b4, b5, b6, b7, b8⟩ := g
  have hqk : q = k := (nI_eq (by omega) (by omega)).mp (hq.symm.trans b3)
  subst hqk
  have h63 : mw.toBitVec.toNat < 2 ^ 63 := by
    have : (2 : Nat) ^ (8 * l - 1) ≤ 2 ^ 63 := Nat.pow_le_pow_right (by decide) (by omega)
    omega
  have hL : (L < Lq) ↔ l < q := by rw [a3, b3]; exact nI_ltI (by omega) (by omega)
  rw [hL, bv_i, Int64.toBitVec_and, msk_b q (by omega) b1, and_hi (by omega), a4, b4]
  by_cases hlk : l < q
  · constructor
    · intro he
      exfalso
      obtain rfl | rfl | rfl | rfl | rfl | rfl | rfl | rfl : l = 1 ∨ l = 2 ∨ l = 3 ∨ l = 4 ∨ l = 5 ∨ l = 6 ∨ l = 7 ∨ l = 8 := by omega
      all_goals
        obtain rfl | rfl | rfl | rfl | rfl | rfl | rfl | rfl : q = 1 ∨ q = 2 ∨ q = 3 ∨ q = 4 ∨ q = 5 ∨ q = 6 ∨ q = 7 ∨ q = 8 := by omega
        all_goals
          simp only [Nat.reduceSub, Nat.reduceMul, Nat.reducePow, Nat.mul_one, Nat.div_one] at he a6 a7 b6 b7
          omega
    · intro he; exact absurd hlk he.1
  · rw [bv_i, a3, b3, shr_n (n := 8 * (l - q)) (by omega) (shd l (by omega) q (by omega) b1 (by omega)) h63, a5, b5]
    obtain rfl | rfl | rfl | rfl | rfl | rfl | rfl | rfl : l = 1 ∨ l = 2 ∨ l = 3 ∨ l = 4 ∨ l = 5 ∨ l = 6 ∨ l = 7 ∨ l = 8 := by omega
    all_goals
      obtain rfl | rfl | rfl | rfl | rfl | rfl | rfl | rfl : q = 1 ∨ q = 2 ∨ q = 3 ∨ q = 4 ∨ q = 5 ∨ q = 6 ∨ q = 7 ∨ q = 8 := by omega
      all_goals
        simp only [Nat.reduceSub, Nat.reduceMul, Nat.reducePow, Nat.mul_one, Nat.div_one] at hlk ⊢
        omega
theorem and_m1 (x : Int64) : x &&& (-1) = x := by
  apply Int64.toBitVec_inj.mp
  rw [Int64.toBitVec_and, show (-1 : Int64).toBitVec = BitVec.allOnes 64 by decide, BitVec.and_allOnes]
theorem byM_of (v : Int64) : ∀ i : Nat, i < 8 → byM v i = byOf v (nI i) := by
  intro i hi
  have e1 : ∀ i : Nat, i < 8 → ((nI (8 * i)).toInt64 &&& 63).toBitVec.smod 64 = BitVec.ofNat 64 (8 * i) := by decide +kernel
  have e2 : ∀ i : Nat, i < 8 → ((8 * nI i).toInt64.toUInt64 &&& Int64.toUInt64 63).toBitVec % 64 = BitVec.ofNat 64 (8 * i) := by decide +kernel
  unfold byM byOf
  apply Int32.toBitVec_inj.mp
  rw [Int32.toBitVec_and, Int32.toBitVec_and, Int64.toBitVec_toInt32, Int64.toBitVec_toInt32, Int64.toBitVec_shiftRight, e1 i hi, UInt64.toBitVec_toInt64, UInt64.toBitVec_shiftRight, e2 i hi]
  have e3 : (BitVec.ofNat 64 (8 * i)).toNat = 8 * i := by rw [BitVec.toNat_ofNat]; omega
  apply BitVec.eq_of_getLsbD_eq
  intro t ht
  have e4 : ∀ t : Nat, t < 32 → ((255 : Int32).toBitVec).getLsbD t = decide (t < 8) := by decide +kernel
  simp only [BitVec.getLsbD_and, e4 t ht]
  by_cases h8 : t < 8
  · simp only [h8, decide_true, Bool.and_true]
    rw [BitVec.getLsbD_signExtend, BitVec.getLsbD_signExtend]
    simp only [show t < 64 by omega, if_true, ht, decide_true, Bool.true_and]
    rw [BitVec.sshiftRight', BitVec.getLsbD_sshiftRight, BitVec.ushiftRight_eq', BitVec.getLsbD_ushiftRight, e3]
    simp only [show 8 * i + t < 64 by omega, if_true]
    simp only [show ¬ 64 ≤ t by omega, decide_false, Bool.not_false, Bool.true_and]
    rfl
  · simp only [h8, decide_false, Bool.and_false]
