/-! ===== THE MODEL, 5: read ===== -/
theorem ltr_pos (x : Int32) : 0 < ltr x ↔ isLt x = true := by
  have h0 : (0 : Int32).toInt = 0 := rfl
  have h1 : (97 : Int32).toInt = 97 := rfl
  have h2 : (122 : Int32).toInt = 122 := rfl
  have h3 : (65 : Int32).toInt = 65 := rfl
  have h4 : (90 : Int32).toInt = 90 := rfl
  unfold ltr isLt
  by_cases ha : (!decide (x < 97) && !decide (122 < x)) = true
  · rw [if_pos ha, ha, Bool.true_or]
    simp only [Bool.and_eq_true, Bool.not_eq_true', decide_eq_false_iff_not, Int32.lt_iff_toInt_lt, h1, h2] at ha
    simp only [Int32.lt_iff_toInt_lt, h0, iff_true]
    omega
  · rw [if_neg ha]
    rw [Bool.not_eq_true] at ha
    rw [ha, Bool.false_or]
    by_cases hb : (!decide (x < 65) && !decide (90 < x)) = true
    · rw [if_pos hb, hb]
      simp only [Bool.and_eq_true, Bool.not_eq_true', decide_eq_false_iff_not, Int32.lt_iff_toInt_lt, h3, h4] at hb
      have hx : x = nI x.toInt.toNat := by
        apply Int32.toInt_inj.mp
        rw [nI_toInt (by omega)]
        omega
      simp only [iff_true]
      rw [hx, show (32 : Int32) = nI 32 from rfl, nI_add]
      exact nI_lt (a := 0) (by omega) (by omega)
    · rw [if_neg hb]
      rw [Bool.not_eq_true] at hb
      rw [hb]
      simp
def wM (c : Nat → Int32) (s : Nat) : Nat → Int64
  | 0 => 0
  | l + 1 => if l < 8 then (wM c s l <<< 8) ||| (ltr (c (s + l))).toInt64 else wM c s l
theorem wM_s (c : Nat → Int32) (s l : Nat) : wM c s (l + 1) = if l < 8 then (wM c s l <<< 8) ||| (ltr (c (s + l))).toInt64 else wM c s l := rfl
def coM (I : DI) (j : Nat) : Nat → Int32 := fun i => I 128 (60 * j + i)
theorem scn_skip {c : Nat → Int32} {m k : Nat} {ws : List (Nat × Nat)} (h : scn c m k = (ws, 0)) (hk : isLt (c k) = false) : scn c m (k + 1) = (ws, 0) := by
  rw [scn_s, h, hk]
  rfl
theorem scn_in {c : Nat → Int32} {m s : Nat} {ws : List (Nat × Nat)} (h : scn c m s = (ws, 0)) : ∀ d, s + d < m → (∀ i, i ≤ d → isLt (c (s + i)) = true) → scn c m (s + d) = (ws, d) := by
  intro d
  induction d with
  | zero => intro _ _; exact h
  | succ d ih =>
    intro hm hl
    have h1 := ih (by omega) (fun i hi => hl i (by omega))
    rw [show s + (d + 1) = (s + d) + 1 by omega, scn_s, h1]
    simp only [hl d (by omega), if_true]
    rw [if_neg]
    rintro ⟨_, h2 | h2⟩
    · omega
    · rw [show s + d + 1 = s + (d + 1) by omega, hl (d + 1) (Nat.le_refl _)] at h2; cases h2
theorem scn_run {c : Nat → Int32} {m s k : Nat} {ws : List (Nat × Nat)} (h : scn c m s = (ws, 0)) (hsk : s < k) (hkm : k ≤ m) (hl : ∀ i, s ≤ i → i < k → isLt (c i) = true) (he : k = m ∨ isLt (c k) = false) : scn c m k = (ws ++ [(s, k)], 0) := by
  obtain ⟨d, rfl⟩ : ∃ d, k = (s + d) + 1 := ⟨k - s - 1, by omega⟩
  have h1 := scn_in h d (by omega) (fun i hi => hl _ (by omega) (by omega))
  rw [scn_s, h1]
  simp only [hl (s + d) (by omega) (by omega), if_true]
  rw [if_pos ⟨by omega, he⟩, show s + d + 1 - (d + 1) = s by omega]
def RdS (I0 : DI) (J0 : DJ) (j T : Nat) (ws : List (Nat × Nat)) (I : DI) (J : DJ) : Prop :=
  (∀ i s e, ws[i]? = some (s, e) → J 135 (30 * j + i) = wM (coM I0 j) s (e - s) ∧ I 136 (30 * j + i) = nI (min (e - s) 8) ∧ I 137 (30 * j + i) = if s < T then 3 else 1) ∧
  (∀ b, b ≠ 136 → b ≠ 137 → I b = I0 b) ∧ (∀ i, (i < 30 * j ∨ 30 * j + 30 ≤ i) → I 136 i = I0 136 i ∧ I 137 i = I0 137 i) ∧ (∀ b, b ≠ 135 → J b = J0 b) ∧ (∀ i, (i < 30 * j ∨ 30 * j + 30 ≤ i) → J 135 i = J0 135 i)
theorem RdS.add {I0 : DI} {J0 : DJ} {j T : Nat} {ws : List (Nat × Nat)} {I : DI} {J : DJ} (h : RdS I0 J0 j T ws I J) (hl : ws.length < 30) (s e : Nat) : RdS I0 J0 j T (ws ++ [(s, e)]) (u2 (u2 I 136 (30 * j + ws.length) (nI (min (e - s) 8))) 137 (30 * j + ws.length) (if s < T then 3 else 1)) (u2 J 135 (30 * j + ws.length) (wM (coM I0 j) s (e - s))) := by
  obtain ⟨h1, h2, h3, h4, h5⟩ := h
  refine ⟨fun i s' e' hi => ?_, fun b b1 b2 => by rw [u2_o b2, u2_o b1, h2 b b1 b2], fun i hi => ?_, fun b b1 => by rw [u2_o b1, h4 b b1], fun i hi => by rw [u2_n (Or.inr (by omega)), h5 i hi]⟩
  · by_cases hi2 : i < ws.length
    · rw [List.getElem?_append_left hi2] at hi
      rw [u2_n (Or.inr (by omega)), u2_o (by decide), u2_n (Or.inr (by omega)), u2_n (Or.inr (by omega)), u2_o (by decide)]
      exact h1 i s' e' hi
    · rw [List.getElem?_append_right (by omega)] at hi
      have hz : i - ws.length < 1 := (List.getElem?_eq_some_iff.mp hi).1
      rw [show i - ws.length = 0 by omega] at hi
      cases hi
      rw [show i = ws.length by omega, u2_s, u2_s, u2_o (by decide), u2_s]
      exact ⟨rfl, rfl, rfl⟩
  · rw [u2_o (by decide), u2_n (Or.inr (by omega)), u2_n (Or.inr (by omega)), u2_o (by decide)]
    exact h3 i hi
/-- the file j, of m characters, is read -/
def RdM (I : DI) (J : DJ) (j : Nat) (I' : DI) (J' : DJ) : Prop := ∃ m I1, I 129 j = nI m ∧ m ≤ 60 ∧ RdS I J j (tiE (coM I j) m) (scn (coM I j) m m).1 I1 J' ∧ I' = u2 (u2 (u2 I1 134 j (nI (scn (coM I j) m m).1.length)) 133 j 1) 124 11 (I 124 11 + 1)
set_option maxHeartbeats 4000000 in
set_option maxRecDepth 100000 in
theorem lpE_Md_read {C : CT} {l : Launch} {S : ShT} {d : Nat} (hC : OKC C l) (hS : SHP S) (hd : 1 ≤ d) {I0 : DI} {J0 : DJ} {j m : Nat} {p2 p3 f : Int32} (hj : j < 16) (hm6 : m ≤ 60) (hlm : I0 129 j = nI m) (ef : f = nI j) (e2 : p2 = nI (60 * j)) (e3 : p3 = nI (60 * j + m)) {p4 : Int32} (e4 : p4 = nI (60 * j + tiE (coM I0 j) m)) {s k : Nat} {ws : List (Nat × Nat)} {I : DI} {J : DJ} {p5 p6 p7 p10 : Int32} {v : Int64} (e5 : p5 = nI ws.length) (e6 : p6 = nI (60 * j + k)) (e7 : p7 = nI (60 * j + s)) (e10 : p10 = nI (min (k - s) 8)) (ev : v = wM (coM I0 j) s (k - s)) (hs : scn (coM I0 j) m s = (ws, 0)) (hRS : RdS I0 J0 j (tiE (coM I0 j) m) ws I J) (hsm : s < m) (hsk : s ≤ k) (hkm : k ≤ m) (hlt : ∀ i, s ≤ i → i < k → isLt (coM I0 j i) = true) (hend : k = m ∨ isLt (coM I0 j k) = false) (ih : ∀ (k' : Nat) (ws' : List (Nat × Nat)) (I' : DI) (J' : DJ) (y5 y6 : Int32), s < k' → k' ≤ m → y5 = nI ws'.length → y6 = nI (60 * j + k') → scn (coM I0 j) m k' = (ws', 0) → RdS I0 J0 j (tiE (coM I0 j) m) ws' I' J' → V C l k_Md_read (d, 0, 0) (PW S (RdM I0 J0 j)) 67 [(6, .int y6), (5, .int y5), (4, .int p4), (3, .int p3), (2, .int p2), (0, .ref 124), (1, .int f)] [] S I' J' (0, 0)) : V C l k_Md_read (d, 0, 0) (PW S (RdM I0 J0 j)) 137 [(10, .int p10), (8, .long v), (7, .int p7), (6, .int p6), (5, .int p5), (4, .int p4), (3, .int p3), (2, .int p2), (0, .ref 124), (1, .int f)] [] S I J (0, 0) := by
  refine v_iload 0 d_Md_read_137 rfl rfl ?_
  refine v_if_ne (tgt := 148) d_Md_read_139 (by decide) rfl (fun c1 => ?_) (fun c1 => ?_)
  · have hks : s < k := by rcases Nat.lt_or_ge s k with h9 | h9; exact h9; exact absurd (by rw [e10, show k - s = 0 by omega]; rfl) c1
    have hsc := scn_run hs hks hkm hlt hend
    have hw3 : ws.length < 30 := by have h9 := (scn_inv (coM I0 j) m k hkm).1; rw [hsc] at h9; simp at h9; omega
    refine v_aload_n 8 d_Md_read_148 rfl rfl rfl ?_
    refine v_getr (r := 135) d_Md_read_149 fl_Md_41 (hS.o (by decide) rfl) rfl (hS.r (by decide) rfl) rfl ?_
    refine v_bipush (v := 30) d_Md_read_152 (by decide) rfl ?_
    refine v_iload_n 9 d_Md_read_154 rfl rfl rfl ?_
    refine v_imul d_Md_read_155 rfl ?_
    refine v_nmi (fun z2 ez2 => ?_)
    have nz2 : z2 = nI (30 * j) := by rw [ez2, show 30 = nI 30 from rfl, show f = nI j from ef]; exact pk_mul _ _
    refine v_iload 4 d_Md_read_156 rfl rfl ?_
    refine v_iadd d_Md_read_158 rfl ?_
    refine v_nmi (fun z3 ez3 => ?_)
    have nz3 : z3 = nI ((30 * j) + ws.length) := by rw [ez3, show z2 = nI (30 * j) from nz2, show p5 = nI ws.length from e5]; exact nI_add _ _
    refine v_lload 1 d_Md_read_159 rfl rfl ?_
    refine v_last (j := ((30 * j) + ws.length)) d_Md_read_161 (hS.a (t := 34) (n := 480) (by decide) rfl) nz3 (by omega) (by decide) rfl ?_
    generalize hJ4 : u2 J 135 ((30 * j) + ws.length) v = J4
    refine v_aload_n 8 d_Md_read_162 rfl rfl rfl ?_
    refine v_getr (r := 136) d_Md_read_163 fl_Md_45 (hS.o (by decide) rfl) rfl (hS.r (by decide) rfl) rfl ?_
    refine v_bipush (v := 30) d_Md_read_166 (by decide) rfl ?_
    refine v_iload_n 9 d_Md_read_168 rfl rfl rfl ?_
    refine v_imul d_Md_read_169 rfl ?_
    refine v_nmi (fun z5 ez5 => ?_)
    have nz5 : z5 = nI (30 * j) := by rw [ez5, show 30 = nI 30 from rfl, show f = nI j from ef]; exact pk_mul _ _
    refine v_iload 4 d_Md_read_170 rfl rfl ?_
    refine v_iadd d_Md_read_172 rfl ?_
    refine v_nmi (fun z6 ez6 => ?_)
    have nz6 : z6 = nI ((30 * j) + ws.length) := by rw [ez6, show z5 = nI (30 * j) from nz5, show p5 = nI ws.length from e5]; exact nI_add _ _
    refine v_iload 0 d_Md_read_173 rfl rfl ?_
    refine v_iast (j := ((30 * j) + ws.length)) d_Md_read_175 (hS.a (t := 32) (n := 480) (by decide) rfl) nz6 (by omega) (by decide) rfl ?_
    generalize hI7 : u2 I 136 ((30 * j) + ws.length) p10 = I7
    refine v_aload_n 8 d_Md_read_176 rfl rfl rfl ?_
    refine v_getr (r := 137) d_Md_read_177 fl_Md_48 (hS.o (by decide) rfl) rfl (hS.r (by decide) rfl) rfl ?_
    refine v_bipush (v := 30) d_Md_read_180 (by decide) rfl ?_
    refine v_iload_n 9 d_Md_read_182 rfl rfl rfl ?_
    refine v_imul d_Md_read_183 rfl ?_
    refine v_nmi (fun z8 ez8 => ?_)
    have nz8 : z8 = nI (30 * j) := by rw [ez8, show 30 = nI 30 from rfl, show f = nI j from ef]; exact pk_mul _ _
    refine v_iload 4 d_Md_read_184 rfl rfl ?_
    refine v_iadd d_Md_read_186 rfl ?_
    refine v_nmi (fun z9 ez9 => ?_)
    have nz9 : z9 = nI ((30 * j) + ws.length) := by rw [ez9, show z8 = nI (30 * j) from nz8, show p5 = nI ws.length from e5]; exact nI_add _ _
    refine v_iload 2 d_Md_read_187 rfl rfl ?_
    refine v_iload 5 d_Md_read_189 rfl rfl ?_
    refine v_icmp_ge (tgt := 198) d_Md_read_191 (by decide) rfl (fun c10 => ?_) (fun c10 => ?_)
    · refine v_iconst (v := 1) d_Md_read_198 (by decide) rfl ?_
      refine v_iast (j := ((30 * j) + ws.length)) d_Md_read_199 (hS.a (t := 32) (n := 480) (by decide) rfl) nz9 (by omega) (by decide) rfl ?_
      generalize hI11 : u2 I7 137 ((30 * j) + ws.length) 1 = I11
      obtain ⟨x12, ex12⟩ : ∃ y : Int32, y = p5 + 1 := ⟨_, rfl⟩
      have nx12 : x12 = nI (ws.length + 1) := by rw [ex12, show p5 = nI ws.length from e5]; exact nI_1 _
      refine v_iinc (n := 4) (v := x12) (L' := [(5, .int x12), (10, .int p10), (8, .long v), (7, .int p7), (6, .int p6), (4, .int p4), (3, .int p3), (2, .int p2), (0, .ref 124), (1, .int f)]) d_Md_read_200 rfl (by rw [ex12]; rfl) (by decide) rfl rfl ?_
      refine v_goto (tgt := 67) d_Md_read_203 (by decide) ?_
      refine v_sub (L' := [(6, .int p6), (5, .int x12), (4, .int p4), (3, .int p3), (2, .int p2), (0, .ref 124), (1, .int f)]) [4, 0, 5, 6, 7, 8, 9] rfl ?_
      have hst := hRS.add hw3 s k
      rw [if_neg (by intro h9; exact absurd c10 (by rw [e4, e7]; exact nI_ge (by omega) (by have := tiE_le (coM I0 j) m; omega)))] at hst
      have hs2 : I11 = _ := hI11.symm
      rw [← ev, ← e10, hJ4, hI7, hI11] at hst
      exact ih k (ws ++ [(s, k)]) _ _ _ _ hks hkm (by rw [nx12]; simp) e6 hsc hst
    · refine v_iconst (v := 3) d_Md_read_194 (by decide) rfl ?_
      refine v_goto (tgt := 199) d_Md_read_195 (by decide) ?_
      refine v_iast (j := ((30 * j) + ws.length)) d_Md_read_199 (hS.a (t := 32) (n := 480) (by decide) rfl) nz9 (by omega) (by decide) rfl ?_
      generalize hI13 : u2 I7 137 ((30 * j) + ws.length) 3 = I13
      obtain ⟨x14, ex14⟩ : ∃ y : Int32, y = p5 + 1 := ⟨_, rfl⟩
      have nx14 : x14 = nI (ws.length + 1) := by rw [ex14, show p5 = nI ws.length from e5]; exact nI_1 _
      refine v_iinc (n := 4) (v := x14) (L' := [(5, .int x14), (10, .int p10), (8, .long v), (7, .int p7), (6, .int p6), (4, .int p4), (3, .int p3), (2, .int p2), (0, .ref 124), (1, .int f)]) d_Md_read_200 rfl (by rw [ex14]; rfl) (by decide) rfl rfl ?_
      refine v_goto (tgt := 67) d_Md_read_203 (by decide) ?_
      refine v_sub (L' := [(6, .int p6), (5, .int x14), (4, .int p4), (3, .int p3), (2, .int p2), (0, .ref 124), (1, .int f)]) [4, 0, 5, 6, 7, 8, 9] rfl ?_
      have hst := hRS.add hw3 s k
      rw [if_pos (by rcases Nat.lt_or_ge s (tiE (coM I0 j) m) with h9 | h9; exact h9; exact absurd (by rw [e4, e7]; exact nI_le (by omega) (by omega)) c10)] at hst
      have hs2 : I13 = _ := hI13.symm
      rw [← ev, ← e10, hJ4, hI7, hI13] at hst
      exact ih k (ws ++ [(s, k)]) _ _ _ _ hks hkm (by rw [nx14]; simp) e6 hsc hst
  · have hks : k = s := by have h9 := c1; rw [e10] at h9; have h8 := (nI_eq (b := 0) (by omega) (by decide)).mp h9; omega
    obtain ⟨x15, ex15⟩ : ∃ y : Int32, y = p6 + 1 := ⟨_, rfl⟩
    have nx15 : x15 = nI ((60 * j + k) + 1) := by rw [ex15, show p6 = nI (60 * j + k) from e6]; exact nI_1 _
    refine v_iinc (n := 3) (v := x15) (L' := [(6, .int x15), (10, .int p10), (8, .long v), (7, .int p7), (5, .int p5), (4, .int p4), (3, .int p3), (2, .int p2), (0, .ref 124), (1, .int f)]) d_Md_read_142 rfl (by rw [ex15]; rfl) (by decide) rfl rfl ?_
    refine v_goto (tgt := 67) d_Md_read_145 (by decide) ?_
    refine v_sub (L' := [(6, .int x15), (5, .int p5), (4, .int p4), (3, .int p3), (2, .int p2), (0, .ref 124), (1, .int f)]) [0, 4, 5, 6, 7, 8, 9] rfl ?_
    refine ih (k + 1) ws I J _ _ (by omega) (by omega) e5 nx15 (scn_skip (by rw [hks]; exact hs) ?_) hRS
    rcases hend with h9 | h9; omega; exact h9
set_option maxHeartbeats 4000000 in
set_option maxRecDepth 100000 in
theorem lpI_Md_read {C : CT} {l : Launch} {S : ShT} {d : Nat} (hC : OKC C l) (hS : SHP S) (hd : 1 ≤ d) {I0 : DI} {J0 : DJ} {j m : Nat} {p2 p3 f : Int32} (hj : j < 16) (hm6 : m ≤ 60) (hlm : I0 129 j = nI m) (ef : f = nI j) (e2 : p2 = nI (60 * j)) (e3 : p3 = nI (60 * j + m)) {p4 : Int32} (e4 : p4 = nI (60 * j + tiE (coM I0 j) m)) {s : Nat} {ws : List (Nat × Nat)} {I : DI} {J : DJ} {p5 p7 : Int32} (e5 : p5 = nI ws.length) (e7 : p7 = nI (60 * j + s)) (hs : scn (coM I0 j) m s = (ws, 0)) (hRS : RdS I0 J0 j (tiE (coM I0 j) m) ws I J) (hsm : s < m) (ih : ∀ (k' : Nat) (ws' : List (Nat × Nat)) (I' : DI) (J' : DJ) (y5 y6 : Int32), s < k' → k' ≤ m → y5 = nI ws'.length → y6 = nI (60 * j + k') → scn (coM I0 j) m k' = (ws', 0) → RdS I0 J0 j (tiE (coM I0 j) m) ws' I' J' → V C l k_Md_read (d, 0, 0) (PW S (RdM I0 J0 j)) 67 [(6, .int y6), (5, .int y5), (4, .int p4), (3, .int p3), (2, .int p2), (0, .ref 124), (1, .int f)] [] S I' J' (0, 0)) : ∀ (n0 k : Nat) (p6 p10 : Int32) (v : Int64), p6 = nI (60 * j + k) → p10 = nI (min (k - s) 8) → v = wM (coM I0 j) s (k - s) → s ≤ k → k ≤ m → (∀ i, s ≤ i → i < k → isLt (coM I0 j i) = true) → m < k + n0 → V C l k_Md_read (d, 0, 0) (PW S (RdM I0 J0 j)) 83 [(10, .int p10), (8, .long v), (7, .int p7), (6, .int p6), (5, .int p5), (4, .int p4), (3, .int p3), (2, .int p2), (0, .ref 124), (1, .int f)] [] S I J (0, 0) := by
  intro n0
  induction n0 with
  | zero =>
    intro k p6 p10 v e6 e10 ev hsk hkm hlt hf
    omega
  | succ n0 ihk =>
    intro k p6 p10 v e6 e10 ev hsk hkm hlt hf
    refine v_iload 3 d_Md_read_83 rfl rfl ?_
    refine v_iload_n 6 d_Md_read_85 rfl rfl rfl ?_
    refine v_icmp_ge (tgt := 137) d_Md_read_86 (by decide) rfl (fun c1 => ?_) (fun c1 => ?_)
    · exact lpE_Md_read hC hS hd hj hm6 hlm ef e2 e3 e4 e5 e6 e7 e10 ev hs hRS hsm hsk hkm hlt (Or.inl (by rcases Nat.lt_or_ge k m with h9 | h9; exact absurd c1 (by rw [e6, e3]; exact nI_ge (by omega) (by omega)); omega)) ih
    · have hkm2 : k < m := by rcases Nat.lt_or_ge k m with h9 | h9; exact h9; exact absurd (by rw [e6, e3]; exact nI_le (by omega) (by omega)) c1
      have hc : I 128 (60 * j + k) = coM I0 j k := by rw [hRS.2.1 128 (by decide) (by decide)]; rfl
      refine v_aload_n 8 d_Md_read_89 rfl rfl rfl ?_
      refine v_getr (r := 128) d_Md_read_90 fl_Md_20 (hS.o (by decide) rfl) rfl (hS.r (by decide) rfl) rfl ?_
      refine v_iload 3 d_Md_read_93 rfl rfl ?_
      refine v_iald (j := (60 * j + k)) d_Md_read_95 (hS.a (t := 32) (n := 960) (by decide) rfl) e6 (by omega) (by decide) rfl ?_
      refine v_cSp (as := [.int (I 128 (60 * j + k))]) d_Md_read_96 cs_Md_129 (c_Md_letter hC (d := d - 1) (I 128 (60 * j + k)) (by omega)) rfl rfl (by decide) (by omega) rfl ?_
      refine v_if_le (tgt := 137) d_Md_read_99 (by decide) rfl (fun c2 => ?_) (fun c2 => ?_)
      · exact lpE_Md_read hC hS hd hj hm6 hlm ef e2 e3 e4 e5 e6 e7 e10 ev hs hRS hsm hsk hkm hlt (Or.inr (by have h9 := c2; rw [hc] at h9; cases h8 : isLt (coM I0 j k) with | false => rfl | true => exact absurd (ltr_pos _ |>.mpr h8) (Int32.not_lt.mpr h9))) ih
      · have hL : isLt (coM I0 j k) = true := by rw [← ltr_pos, ← hc]; exact Int32.not_le.mp c2
        have hlt2 : ∀ i, s ≤ i → i < k + 1 → isLt (coM I0 j i) = true := fun i h1 h2 => by rcases Nat.lt_or_ge i k with h9 | h9; exact hlt i h1 h9; rw [show i = k by omega]; exact hL
        refine v_iload 0 d_Md_read_102 rfl rfl ?_
        refine v_bipush (v := 8) d_Md_read_104 (by decide) rfl ?_
        refine v_icmp_ge (tgt := 131) d_Md_read_106 (by decide) rfl (fun c3 => ?_) (fun c3 => ?_)
        · have hl8 : ¬ k - s < 8 := fun h9 => absurd c3 (by rw [e10, Nat.min_eq_left (by omega)]; exact nI_ge (b := 8) h9 (by decide))
          obtain ⟨x4, ex4⟩ : ∃ y : Int32, y = p6 + 1 := ⟨_, rfl⟩
          have nx4 : x4 = nI ((60 * j + k) + 1) := by rw [ex4, show p6 = nI (60 * j + k) from e6]; exact nI_1 _
          refine v_iinc (n := 3) (v := x4) (L' := [(6, .int x4), (10, .int p10), (8, .long v), (7, .int p7), (5, .int p5), (4, .int p4), (3, .int p3), (2, .int p2), (0, .ref 124), (1, .int f)]) d_Md_read_131 rfl (by rw [ex4]; rfl) (by decide) rfl rfl ?_
          refine v_goto (tgt := 83) d_Md_read_134 (by decide) ?_
          refine v_sub (L' := [(10, .int p10), (8, .long v), (7, .int p7), (6, .int x4), (5, .int p5), (4, .int p4), (3, .int p3), (2, .int p2), (0, .ref 124), (1, .int f)]) [1, 2, 3, 0, 4, 5, 6, 7, 8, 9] rfl ?_
          exact ihk (k + 1) _ _ _ nx4 (by rw [e10]; congr 1; omega) (by rw [show k + 1 - s = (k - s) + 1 by omega, wM_s, if_neg hl8]; exact ev) (by omega) (by omega) hlt2 (by omega)
        · have hl8 : k - s < 8 := by rcases Nat.lt_or_ge (k - s) 8 with h9 | h9; exact h9; exact absurd (by rw [e10, Nat.min_eq_right h9]; decide) c3
          refine v_lload 1 d_Md_read_109 rfl rfl ?_
          refine v_bipush (v := 8) d_Md_read_111 (by decide) rfl ?_
          refine v_lshl d_Md_read_113 rfl rfl ?_
          refine v_nml (fun z5 ez5 => ?_)
          refine v_aload_n 8 d_Md_read_114 rfl rfl rfl ?_
          refine v_getr (r := 128) d_Md_read_115 fl_Md_20 (hS.o (by decide) rfl) rfl (hS.r (by decide) rfl) rfl ?_
          refine v_iload 3 d_Md_read_118 rfl rfl ?_
          refine v_iald (j := (60 * j + k)) d_Md_read_120 (hS.a (t := 32) (n := 960) (by decide) rfl) e6 (by omega) (by decide) rfl ?_
          refine v_cSp (as := [.int (I 128 (60 * j + k))]) d_Md_read_121 cs_Md_129 (c_Md_letter hC (d := d - 1) (I 128 (60 * j + k)) (by omega)) rfl rfl (by simp [Value.category]) (by omega) rfl ?_
          refine v_i2l d_Md_read_124 rfl rfl ?_
          refine v_nml (fun z6 ez6 => ?_)
          refine v_lor d_Md_read_125 rfl ?_
          refine v_nml (fun z7 ez7 => ?_)
          refine v_lstore (L' := [(8, .long z7), (10, .int p10), (7, .int p7), (6, .int p6), (5, .int p5), (4, .int p4), (3, .int p3), (2, .int p2), (0, .ref 124), (1, .int f)]) d_Md_read_126 (by decide) rfl rfl ?_
          obtain ⟨x8, ex8⟩ : ∃ y : Int32, y = p10 + 1 := ⟨_, rfl⟩
          have nx8 : x8 = nI ((min (k - s) 8) + 1) := by rw [ex8, show p10 = nI (min (k - s) 8) from e10]; exact nI_1 _
          refine v_iinc (n := 1) (v := x8) (L' := [(10, .int x8), (8, .long z7), (7, .int p7), (6, .int p6), (5, .int p5), (4, .int p4), (3, .int p3), (2, .int p2), (0, .ref 124), (1, .int f)]) d_Md_read_128 rfl (by rw [ex8]; rfl) (by decide) rfl rfl ?_
          obtain ⟨x9, ex9⟩ : ∃ y : Int32, y = p6 + 1 := ⟨_, rfl⟩
          have nx9 : x9 = nI ((60 * j + k) + 1) := by rw [ex9, show p6 = nI (60 * j + k) from e6]; exact nI_1 _
          refine v_iinc (n := 3) (v := x9) (L' := [(6, .int x9), (10, .int x8), (8, .long z7), (7, .int p7), (5, .int p5), (4, .int p4), (3, .int p3), (2, .int p2), (0, .ref 124), (1, .int f)]) d_Md_read_131 rfl (by rw [ex9]; rfl) (by decide) rfl rfl ?_
          refine v_goto (tgt := 83) d_Md_read_134 (by decide) ?_
          refine v_sub (L' := [(10, .int x8), (8, .long z7), (7, .int p7), (6, .int x9), (5, .int p5), (4, .int p4), (3, .int p3), (2, .int p2), (0, .ref 124), (1, .int f)]) [1, 2, 3, 0, 4, 5, 6, 7, 8, 9] rfl ?_
          exact ihk (k + 1) _ _ _ nx9 (by rw [nx8]; congr 1; omega) (by rw [show k + 1 - s = (k - s) + 1 by omega, wM_s, if_pos hl8, show s + (k - s) = k by omega, ← ev, ← hc]; subst_vars; rfl) (by omega) (by omega) hlt2 (by omega)
set_option maxHeartbeats 4000000 in
set_option maxRecDepth 100000 in
theorem lp_Md_read {C : CT} {l : Launch} {S : ShT} {d : Nat} (hC : OKC C l) (hS : SHP S) (hd : 1 ≤ d) {I0 : DI} {J0 : DJ} {j m : Nat} {p2 p3 f : Int32} (hj : j < 16) (hm6 : m ≤ 60) (hlm : I0 129 j = nI m) (ef : f = nI j) (e2 : p2 = nI (60 * j)) (e3 : p3 = nI (60 * j + m)) {p4 : Int32} (e4 : p4 = nI (60 * j + tiE (coM I0 j) m)) : ∀ (n0 k : Nat) (ws : List (Nat × Nat)) (I : DI) (J : DJ) (p5 p6 : Int32), k ≤ m → p5 = nI ws.length → p6 = nI (60 * j + k) → scn (coM I0 j) m k = (ws, 0) → RdS I0 J0 j (tiE (coM I0 j) m) ws I J → m < k + n0 → V C l k_Md_read (d, 0, 0) (PW S (RdM I0 J0 j)) 67 [(6, .int p6), (5, .int p5), (4, .int p4), (3, .int p3), (2, .int p2), (0, .ref 124), (1, .int f)] [] S I J (0, 0) := by
  intro n0
  induction n0 with
  | zero =>
    intro k ws I J p5 p6 hkm e5 e6 hs hRS hf
    omega
  | succ n0 ih =>
    intro k ws I J p5 p6 hkm e5 e6 hs hRS hf
    refine v_iload 0 d_Md_read_67 rfl rfl ?_
    refine v_iload_n 3 d_Md_read_69 rfl rfl rfl ?_
    refine v_icmp_ge (tgt := 206) d_Md_read_70 (by decide) rfl (fun c1 => ?_) (fun c1 => ?_)
    · have hkm2 : k = m := by rcases Nat.lt_or_ge k m with h9 | h9; exact absurd c1 (by rw [e6, e3]; exact nI_ge (by omega) (by omega)); omega
      subst hkm2
      refine v_aload_n 5 d_Md_read_206 rfl rfl rfl ?_
      refine v_getr (r := 134) d_Md_read_207 fl_Md_38 (hS.o (by decide) rfl) rfl (hS.r (by decide) rfl) rfl ?_
      refine v_iload_n 6 d_Md_read_210 rfl rfl rfl ?_
      refine v_iload 1 d_Md_read_211 rfl rfl ?_
      refine v_iast (j := j) d_Md_read_213 (hS.a (t := 32) (n := 16) (by decide) rfl) ef (by omega) (by decide) rfl ?_
      generalize hI2 : u2 I 134 j p5 = I2
      refine v_aload_n 5 d_Md_read_214 rfl rfl rfl ?_
      refine v_getr (r := 133) d_Md_read_215 fl_Md_35 (hS.o (by decide) rfl) rfl (hS.r (by decide) rfl) rfl ?_
      refine v_iload_n 6 d_Md_read_218 rfl rfl rfl ?_
      refine v_iconst (v := 1) d_Md_read_219 (by decide) rfl ?_
      refine v_zast (j := j) d_Md_read_220 (hS.a (t := 33) (n := 16) (by decide) rfl) ef (by omega) (by decide) (Or.inr rfl) rfl ?_
      generalize hI3 : u2 I2 133 j 1 = I3
      refine v_aload_n 5 d_Md_read_221 rfl rfl rfl ?_
      refine v_dup d_Md_read_222 rfl rfl ?_
      refine v_geti d_Md_read_223 fl_Md_132 (hS.o (by decide) rfl) rfl rfl ?_
      refine v_iconst (v := 1) d_Md_read_226 (by decide) rfl ?_
      refine v_iadd d_Md_read_227 rfl ?_
      refine v_nmi (fun z4 ez4 => ?_)
      refine v_puti d_Md_read_228 fl_Md_132 (hS.o (by decide) rfl) rfl rfl rfl ?_
      generalize hI5 : u2 I3 124 11 z4 = I5
      refine v_vret d_Md_read_231 rfl ?_
      refine ⟨rfl, rfl, k, I, hlm, hm6, by rw [hs]; exact hRS, ?_⟩
      rw [hs]
      have f124 : I3 124 11 = I0 124 11 := by rw [← hI3, u2_o (by decide), ← hI2, u2_o (by decide), hRS.2.1 124 (by decide) (by decide)]
      rw [← hI5, ez4, f124, ← hI3, ← hI2, e5]
    · have hkm2 : k < m := by rcases Nat.lt_or_ge k m with h9 | h9; exact h9; exact absurd (by rw [e6, e3]; exact nI_le (by omega) (by omega)) c1
      refine v_iload 0 d_Md_read_73 rfl rfl ?_
      refine v_istore (L' := [(7, .int p6), (6, .int p6), (5, .int p5), (4, .int p4), (3, .int p3), (2, .int p2), (0, .ref 124), (1, .int f)]) d_Md_read_75 (by decide) rfl rfl ?_
      refine v_lconst (v := 0) d_Md_read_77 rfl rfl ?_
      refine v_lstore (L' := [(8, .long 0), (7, .int p6), (6, .int p6), (5, .int p5), (4, .int p4), (3, .int p3), (2, .int p2), (0, .ref 124), (1, .int f)]) d_Md_read_78 (by decide) rfl rfl ?_
      refine v_iconst (v := 0) d_Md_read_80 (by decide) rfl ?_
      refine v_istore (L' := [(10, .int 0), (8, .long 0), (7, .int p6), (6, .int p6), (5, .int p5), (4, .int p4), (3, .int p3), (2, .int p2), (0, .ref 124), (1, .int f)]) d_Md_read_81 (by decide) rfl rfl ?_
      exact lpI_Md_read hC hS hd hj hm6 hlm ef e2 e3 e4 e5 e6 hs hRS hkm2 (fun k' ws' I' J' y5 y6 q1 q2 q3 q4 q5 q6 => ih k' ws' I' J' y5 y6 q2 q3 q4 q5 q6 (by omega)) (m + 1) k _ _ _ e6 (by rw [Nat.sub_self]; rfl) (by rw [Nat.sub_self]; rfl) (Nat.le_refl _) hkm (fun i h1 h2 => by omega) (by omega)
set_option maxHeartbeats 4000000 in
set_option maxRecDepth 100000 in
theorem lp61_Md_read {C : CT} {l : Launch} {S : ShT} {d : Nat} (hC : OKC C l) (hS : SHP S) (hd : 1 ≤ d) {I0 : DI} {J0 : DJ} {j m : Nat} {p2 p3 f : Int32} (hj : j < 16) (hm6 : m ≤ 60) (hlm : I0 129 j = nI m) (ef : f = nI j) (e2 : p2 = nI (60 * j)) (e3 : p3 = nI (60 * j + m)) {p4 : Int32} (e4 : p4 = nI (60 * j + tiE (coM I0 j) m)) : V C l k_Md_read (d, 0, 0) (PW S (RdM I0 J0 j)) 61 [(4, .int p4), (3, .int p3), (2, .int p2), (0, .ref 124), (1, .int f)] [] S I0 J0 (0, 0) := by
  refine v_iconst (v := 0) d_Md_read_61 (by decide) rfl ?_
  refine v_istore (L' := [(5, .int 0), (4, .int p4), (3, .int p3), (2, .int p2), (0, .ref 124), (1, .int f)]) d_Md_read_62 (by decide) rfl rfl ?_
  refine v_iload_n 3 d_Md_read_64 rfl rfl rfl ?_
  refine v_istore (L' := [(6, .int p2), (5, .int 0), (4, .int p4), (3, .int p3), (2, .int p2), (0, .ref 124), (1, .int f)]) d_Md_read_65 (by decide) rfl rfl ?_
  exact lp_Md_read hC hS hd hj hm6 hlm ef e2 e3 e4 (m + 1) 0 [] I0 J0 _ _ (by omega) rfl e2 rfl ⟨fun i s e hi => by simp at hi, fun _ _ _ => rfl, fun _ _ => ⟨rfl, rfl⟩, fun _ _ => rfl, fun _ _ => rfl⟩ (by omega)
set_option maxHeartbeats 4000000 in
set_option maxRecDepth 100000 in
theorem lpT_Md_read {C : CT} {l : Launch} {S : ShT} {d : Nat} (hC : OKC C l) (hS : SHP S) (hd : 1 ≤ d) {I0 : DI} {J0 : DJ} {j m : Nat} {p2 p3 f : Int32} (hj : j < 16) (hm6 : m ≤ 60) (hlm : I0 129 j = nI m) (ef : f = nI j) (e2 : p2 = nI (60 * j)) (e3 : p3 = nI (60 * j + m)) (hT : tiE (coM I0 j) m = plc (coM I0 j) 59 0 m) : ∀ (n0 t : Nat) (p4 : Int32), p4 = nI (60 * j + t) → t ≤ m → plc (coM I0 j) 59 0 m = plc (coM I0 j) 59 t (m - t) → m < t + n0 → V C l k_Md_read (d, 0, 0) (PW S (RdM I0 J0 j)) 37 [(4, .int p4), (3, .int p3), (2, .int p2), (0, .ref 124), (1, .int f)] [] S I0 J0 (0, 0) := by
  intro n0
  induction n0 with
  | zero =>
    intro t p4 e4 htm hr hf
    omega
  | succ n0 ih =>
    intro t p4 e4 htm hr hf
    refine v_iload 0 d_Md_read_37 rfl rfl ?_
    refine v_iload_n 1 d_Md_read_39 rfl rfl rfl ?_
    refine v_icmp_ge (tgt := 61) d_Md_read_40 (by decide) rfl (fun c1 => ?_) (fun c1 => ?_)
    · have htm : t = m := by rcases Nat.lt_or_ge t m with h9 | h9; exact absurd c1 (by rw [e4, e3]; exact nI_ge (by omega) (by omega)); omega
      exact lp61_Md_read hC hS hd hj hm6 hlm ef e2 e3 (by rw [e4, hT, hr, htm, Nat.sub_self]; rfl)
    · have hkm2 : t < m := by rcases Nat.lt_or_ge t m with h9 | h9; exact h9; exact absurd (by rw [e4, e3]; exact nI_le (by omega) (by omega)) c1
      refine v_aload_n 3 d_Md_read_43 rfl rfl rfl ?_
      refine v_getr (r := 128) d_Md_read_44 fl_Md_20 (hS.o (by decide) rfl) rfl (hS.r (by decide) rfl) rfl ?_
      refine v_iload 0 d_Md_read_47 rfl rfl ?_
      refine v_iald (j := (60 * j + t)) d_Md_read_49 (hS.a (t := 32) (n := 960) (by decide) rfl) e4 (by omega) (by decide) rfl ?_
      refine v_bipush (v := 59) d_Md_read_50 (by decide) rfl ?_
      refine v_icmp_eq (tgt := 61) d_Md_read_52 (by decide) rfl (fun c2 => ?_) (fun c2 => ?_)
      · exact lp61_Md_read hC hS hd hj hm6 hlm ef e2 e3 (by rw [e4, hT, hr, show m - t = (m - (t + 1)) + 1 by omega, plc_s, if_pos (show coM I0 j t = 59 from c2)])
      · obtain ⟨x3, ex3⟩ : ∃ y : Int32, y = p4 + 1 := ⟨_, rfl⟩
        have nx3 : x3 = nI ((60 * j + t) + 1) := by rw [ex3, show p4 = nI (60 * j + t) from e4]; exact nI_1 _
        refine v_iinc (n := 0) (v := x3) (L' := [(4, .int x3), (3, .int p3), (2, .int p2), (0, .ref 124), (1, .int f)]) d_Md_read_55 rfl (by rw [ex3]; rfl) (by decide) rfl rfl ?_
        refine v_goto (tgt := 37) d_Md_read_58 (by decide) ?_
        exact ih (t + 1) _ nx3 (by omega) (by rw [hr, show m - t = (m - (t + 1)) + 1 by omega, plc_s, if_neg (show ¬ coM I0 j t = 59 from c2)]) (by omega)
set_option maxHeartbeats 4000000 in
set_option maxRecDepth 100000 in
theorem c_Md_read {C : CT} {l : Launch} {S : ShT} {I : DI} {J : DJ} {d : Nat} (hC : OKC C l) (hS : SHP S) {j m : Nat} {f : Int32} (hj : j < 16) (ef : f = nI j) (hlm : I 129 j = nI m) (hm6 : m ≤ 60) (hd : 1 ≤ d) : Sp C l k_Md_read y_Md_read (d, 0, 0) [.ref 124, .int f] S I J (PW S (RdM I J j)) := by
  refine Sp.of hC cd_Md_read (Nat.le_of_ble_eq_true rfl) ?_
  show V C l k_Md_read (d, 0, 0) _ 0 [(0, .ref 124), (1, .int f)] [] S I J (0, 0)
  refine v_bipush (v := 60) d_Md_read_0 (by decide) rfl ?_
  refine v_iload_n 1 d_Md_read_2 rfl rfl rfl ?_
  refine v_imul d_Md_read_3 rfl ?_
  refine v_nmi (fun z1 ez1 => ?_)
  have nz1 : z1 = nI (60 * j) := by rw [ez1, show 60 = nI 60 from rfl, show f = nI j from ef]; exact pk_mul _ _
  refine v_istore_n (L' := [(2, .int z1), (0, .ref 124), (1, .int f)]) d_Md_read_4 rfl (by decide) rfl rfl ?_
  refine v_iload_n 0 d_Md_read_5 rfl rfl rfl ?_
  refine v_aload_n 1 d_Md_read_6 rfl rfl rfl ?_
  refine v_getr (r := 129) d_Md_read_7 fl_Md_23 (hS.o (by decide) rfl) rfl (hS.r (by decide) rfl) rfl ?_
  refine v_iload_n 2 d_Md_read_10 rfl rfl rfl ?_
  refine v_iald (j := j) d_Md_read_11 (hS.a (t := 32) (n := 16) (by decide) rfl) ef (by omega) (by decide) rfl ?_
  refine v_iadd d_Md_read_12 rfl ?_
  refine v_nmi (fun z2 ez2 => ?_)
  have nz2 : z2 = nI ((60 * j) + m) := by rw [ez2, show z1 = nI (60 * j) from nz1, show I 129 j = nI m from hlm]; exact nI_add _ _
  refine v_istore_n (L' := [(3, .int z2), (2, .int z1), (0, .ref 124), (1, .int f)]) d_Md_read_13 rfl (by decide) rfl rfl ?_
  refine v_iload_n 1 d_Md_read_14 rfl rfl rfl ?_
  refine v_istore (L' := [(4, .int z1), (3, .int z2), (2, .int z1), (0, .ref 124), (1, .int f)]) d_Md_read_15 (by decide) rfl rfl ?_
  refine v_aload_n 3 d_Md_read_17 rfl rfl rfl ?_
  refine v_getr (r := 129) d_Md_read_18 fl_Md_23 (hS.o (by decide) rfl) rfl (hS.r (by decide) rfl) rfl ?_
  refine v_iload_n 4 d_Md_read_21 rfl rfl rfl ?_
  refine v_iald (j := j) d_Md_read_22 (hS.a (t := 32) (n := 16) (by decide) rfl) ef (by omega) (by decide) rfl ?_
  refine v_if_le (tgt := 61) d_Md_read_23 (by decide) rfl (fun c3 => ?_) (fun c3 => ?_)
  · have hT0 : tiE (coM I j) m = 0 := by have h9 := c3; rw [hlm] at h9; have h8 : m = 0 := (by rcases Nat.lt_or_ge 0 m with h7 | h7; exact absurd h9 (nI_ge (a := 0) h7 (by omega)); omega); unfold tiE; rw [if_pos h8]
    exact lp61_Md_read hC hS hd hj hm6 hlm ef nz1 nz2 (by rw [hT0]; exact nz1)
  · refine v_aload_n 3 d_Md_read_26 rfl rfl rfl ?_
    refine v_getr (r := 128) d_Md_read_27 fl_Md_20 (hS.o (by decide) rfl) rfl (hS.r (by decide) rfl) rfl ?_
    refine v_iload_n 2 d_Md_read_30 rfl rfl rfl ?_
    refine v_iald (j := (60 * j)) d_Md_read_31 (hS.a (t := 32) (n := 960) (by decide) rfl) nz1 (by omega) (by decide) rfl ?_
    refine v_bipush (v := 35) d_Md_read_32 (by decide) rfl ?_
    refine v_icmp_ne (tgt := 61) d_Md_read_34 (by decide) rfl (fun c4 => ?_) (fun c4 => ?_)
    · have hT0 : tiE (coM I j) m = 0 := by have h9 : ¬ coM I j 0 = 35 := c4; unfold tiE; rw [if_neg h9]; by_cases h8 : m = 0; rw [if_pos h8]; rw [if_neg h8]
      exact lp61_Md_read hC hS hd hj hm6 hlm ef nz1 nz2 (by rw [hT0]; exact nz1)
    · have hT0 : tiE (coM I j) m = plc (coM I j) 59 0 m := by have h9 : coM I j 0 = 35 := c4; have h7 := c3; rw [hlm] at h7; have h8 : ¬ m = 0 := fun h6 => h7 (by rw [h6]; decide); unfold tiE; rw [if_neg h8, if_pos h9]
      exact lpT_Md_read hC hS hd hj hm6 hlm ef nz1 nz2 hT0 (m + 1) 0 _ nz1 (by omega) rfl (by omega)
