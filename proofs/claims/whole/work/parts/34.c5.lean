set_option maxHeartbeats 4000000 in
set_option maxRecDepth 100000 in
theorem c_Qu_tell {C : CT} {l : Launch} {S : ShT} {I : DI} {J : DJ} {d : Nat} (hC : OKC C l) (hS : SHP S) {m : Nat} (hm : m ≤ 8) (h2 : I 22 2 = nI m) (x k : Int32) (hd : 2 ≤ d) : Sp C l k_Qu_tell y_Qu_tell (d, 0, 0) [.ref 22, .int x, .int k] S I J (PU S J (fun I' => ∃ m', I' 22 2 = nI m' ∧ TQ (I 22 3) m (I 23) (I 24) x k (I' 22 3) m' (I' 23) (I' 24) ∧ ∀ b, b ≠ 22 → b ≠ 23 → b ≠ 24 → I' b = I b)) := by
  refine Sp.of hC cd_Qu_tell (Nat.le_of_ble_eq_true rfl) ?_
  show V C l k_Qu_tell (d, 0, 0) _ 0 [(0, .ref 22), (1, .int x), (2, .int k)] [] S I J (0, 0)
  refine v_aload_n 0 d_Qu_tell_0 rfl rfl rfl ?_
  refine v_geti d_Qu_tell_1 fl_Qu_22 (hS.o (by decide) rfl) rfl rfl ?_
  refine v_if_eq (tgt := 8) d_Qu_tell_4 (by decide) rfl (fun c1 => ?_) (fun c1 => ?_)
  · refine v_aload_n 0 d_Qu_tell_8 rfl rfl rfl ?_
    refine v_iload_n 1 d_Qu_tell_9 rfl rfl rfl ?_
    refine v_cVp (as := [.int x]) d_Qu_tell_10 cs_Qu_26 (c_Qu_placeOf hC hS (d := d - 1) hm h2 x (by omega)) (hS.o (by decide) rfl) (by decide) rfl rfl rfl (by decide) (by omega) rfl ?_
    obtain ⟨p, hp⟩ : ∃ p, p = plc (I 24) x 0 m := ⟨_, rfl⟩
    rw [← hp]
    refine v_istore_n (L' := [(3, .int (nI p)), (0, .ref 22), (1, .int x), (2, .int k)]) d_Qu_tell_13 rfl (by decide) rfl rfl ?_
    refine v_iload_n 0 d_Qu_tell_14 rfl rfl rfl ?_
    refine v_aload_n 1 d_Qu_tell_15 rfl rfl rfl ?_
    refine v_geti d_Qu_tell_16 fl_Qu_18 (hS.o (by decide) rfl) rfl rfl ?_
    refine v_icmp_ge (tgt := 31) d_Qu_tell_19 (by decide) rfl (fun c2 => ?_) (fun c2 => ?_)
    · have hge : ¬ p < m := fun h9 => absurd c2 (by rw [h2]; exact nI_ge h9 (by omega))
      refine v_aload_n 1 d_Qu_tell_31 rfl rfl rfl ?_
      refine v_geti d_Qu_tell_32 fl_Qu_18 (hS.o (by decide) rfl) rfl rfl ?_
      refine v_bipush (v := 8) d_Qu_tell_35 (by decide) rfl ?_
      refine v_icmp_ge (tgt := 73) d_Qu_tell_37 (by decide) rfl (fun c3 => ?_) (fun c3 => ?_)
      · have hm8 : ¬ m < 8 := fun h9 => absurd c3 (by rw [h2]; exact nI_ge (b := 8) h9 (by decide))
        refine v_aload_n 1 d_Qu_tell_73 rfl rfl rfl ?_
        refine v_iconst (v := 0) d_Qu_tell_74 (by decide) rfl ?_
        refine v_puti d_Qu_tell_75 fl_Qu_18 (hS.o (by decide) rfl) rfl rfl rfl ?_
        generalize hI4 : u2 I 22 2 0 = I4
        refine v_aload_n 1 d_Qu_tell_78 rfl rfl rfl ?_
        refine v_iconst (v := 1) d_Qu_tell_79 (by decide) rfl ?_
        refine v_putz d_Qu_tell_80 fl_Qu_22 (hS.o (by decide) rfl) rfl rfl (Or.inr rfl) rfl ?_
        generalize hI5 : u2 I4 22 3 1 = I5
        refine v_vret d_Qu_tell_83 rfl ?_
        refine ⟨rfl, rfl, rfl, 0, by subst_vars; rw [u2_n (by decide), u2_s]; rfl, ⟨fun q => absurd c1 q, fun _ q => absurd (by rw [← hp] at q; exact q) hge, fun _ q => absurd (by rw [← hp] at q; exact q) hge, fun _ _ q => absurd q hm8, fun _ _ _ => ⟨by subst_vars; rw [u2_s], rfl⟩⟩, fun b b1 b2 b3 => by subst_vars; rw [u2_o b1, u2_o b1]⟩
      · have hm8 : m < 8 := by rcases Nat.lt_or_ge m 8 with h9 | h9; exact h9; exact absurd (by rw [h2]; exact nI_le (a := 8) h9 (by omega)) c3
        refine v_aload_n 1 d_Qu_tell_40 rfl rfl rfl ?_
        refine v_getr (r := 23) d_Qu_tell_41 fl_Qu_9 (hS.o (by decide) rfl) rfl (hS.r (by decide) rfl) rfl ?_
        refine v_aload_n 1 d_Qu_tell_44 rfl rfl rfl ?_
        refine v_geti d_Qu_tell_45 fl_Qu_18 (hS.o (by decide) rfl) rfl rfl ?_
        refine v_iload_n 3 d_Qu_tell_48 rfl rfl rfl ?_
        refine v_iast (j := m) d_Qu_tell_49 (hS.a (t := 32) (n := 8) (by decide) rfl) h2 (by omega) (by decide) rfl ?_
        generalize hI6 : u2 I 23 m k = I6
        have fI6 : I6 22 2 = nI m := by rw [← hI6, u2_o (by decide)]; exact h2
        refine v_aload_n 1 d_Qu_tell_50 rfl rfl rfl ?_
        refine v_getr (r := 24) d_Qu_tell_51 fl_Qu_15 (hS.o (by decide) rfl) rfl (hS.r (by decide) rfl) rfl ?_
        refine v_aload_n 1 d_Qu_tell_54 rfl rfl rfl ?_
        refine v_geti d_Qu_tell_55 fl_Qu_18 (hS.o (by decide) rfl) rfl rfl ?_
        refine v_iload_n 2 d_Qu_tell_58 rfl rfl rfl ?_
        refine v_iast (j := m) d_Qu_tell_59 (hS.a (t := 32) (n := 8) (by decide) rfl) fI6 (by omega) (by decide) rfl ?_
        generalize hI7 : u2 I6 24 m x = I7
        refine v_aload_n 1 d_Qu_tell_60 rfl rfl rfl ?_
        refine v_dup d_Qu_tell_61 rfl rfl ?_
        refine v_geti d_Qu_tell_62 fl_Qu_18 (hS.o (by decide) rfl) rfl rfl ?_
        refine v_iconst (v := 1) d_Qu_tell_65 (by decide) rfl ?_
        refine v_iadd d_Qu_tell_66 rfl ?_
        refine v_nmi (fun z8 ez8 => ?_)
        refine v_puti d_Qu_tell_67 fl_Qu_18 (hS.o (by decide) rfl) rfl rfl rfl ?_
        generalize hI9 : u2 I7 22 2 z8 = I9
        refine v_goto (tgt := 83) d_Qu_tell_70 (by decide) ?_
        refine v_vret d_Qu_tell_83 rfl ?_
        refine ⟨rfl, rfl, rfl, m + 1, by subst_vars; rw [u2_s, u2_o (by decide), u2_o (by decide), h2]; exact nI_1 m, ⟨fun q => absurd c1 q, fun _ q => absurd (by rw [← hp] at q; exact q) hge, fun _ q => absurd (by rw [← hp] at q; exact q) hge, fun _ _ _ => ?_, fun _ _ q => absurd hm8 q⟩, fun b b1 b2 b3 => by subst_vars; rw [u2_o b1, u2_o b3, u2_o b2]⟩
        subst_vars
        refine ⟨by rw [u2_n (by decide), u2_o (by decide), u2_o (by decide)], rfl, by rw [u2_o (by decide), u2_o (by decide), u2_s], by rw [u2_o (by decide), u2_s], fun j hj => ⟨by rw [u2_o (by decide), u2_o (by decide), u2_n (Or.inr (by omega))], by rw [u2_o (by decide), u2_n (Or.inr (by omega)), u2_o (by decide)]⟩⟩
    · have hlt : p < m := by rcases Nat.lt_or_ge p m with h9 | h9; exact h9; exact absurd (by rw [h2]; exact nI_le h9 (by have := (plc_le (I 24) x m 0).2; omega)) c2
      refine v_aload_n 1 d_Qu_tell_22 rfl rfl rfl ?_
      refine v_iload_n 0 d_Qu_tell_23 rfl rfl rfl ?_
      refine v_iload_n 3 d_Qu_tell_24 rfl rfl rfl ?_
      refine v_cVu (as := [.int (nI p), .int k]) d_Qu_tell_25 cs_Qu_30 (c_Qu_putTogether hC hS (d := d - 1) (p := p) (m := m - 1) (by omega) (by omega) (by rw [h2, show m - 1 + 1 = m by omega]) k (by omega)) (hS.o (by decide) rfl) (by decide) rfl rfl rfl (by decide) (by omega) rfl (fun I10 hq => ?_)
      refine v_goto (tgt := 83) d_Qu_tell_28 (by decide) ?_
      refine v_vret d_Qu_tell_83 rfl ?_
      refine ⟨rfl, rfl, rfl, ?_⟩
      rcases hq with ⟨q1, q2, q3, q4, q5, q6, q7⟩ | ⟨q1, rfl⟩
      · refine ⟨m - 1, q3, ⟨fun q => absurd c1 q, fun _ _ _ => ⟨q4 3 (by decide), rfl, fun j hj => ?_⟩, fun _ _ q => absurd ⟨by rw [← hp]; exact q1, q2⟩ q, fun _ q => absurd (by rw [← hp]; exact hlt) q, fun _ q => absurd (by rw [← hp]; exact hlt) q⟩, q7⟩
        rw [← hp, q5, q6]; exact ⟨rfl, rfl⟩
      · refine ⟨m, by rw [u2_o (by decide)]; exact h2, ⟨fun q => absurd c1 q, fun _ _ q => absurd ⟨by have := q.1; rw [← hp] at this; exact this, q.2⟩ q1, fun _ _ _ => ⟨by rw [u2_o (by decide)], rfl, fun j hj => ⟨by rw [u2_o (by decide)], ?_⟩⟩, fun _ q => absurd (by rw [← hp]; exact hlt) q, fun _ q => absurd (by rw [← hp]; exact hlt) q⟩, fun b b1 b2 b3 => u2_o b2⟩
        rw [u2_row, ← hp]; show (if j = p then tgt (I 23 p) k else I 23 j) = _; by_cases hj2 : j = p
        · rw [if_pos hj2, if_pos hj2, hj2]
        · rw [if_neg hj2, if_neg hj2]
  · refine v_vret d_Qu_tell_7 rfl ?_
    exact ⟨rfl, rfl, rfl, m, h2, ⟨fun _ => ⟨rfl, rfl, fun _ _ => ⟨rfl, rfl⟩⟩, fun q => absurd q c1, fun q => absurd q c1, fun q => absurd q c1, fun q => absurd q c1⟩, fun _ _ _ _ => rfl⟩
/-- how many of the first k places hold what p asks -/
def cnt (p : Nat → Bool) : Nat → Nat
  | 0 => 0
  | k + 1 => cnt p k + if p k then 1 else 0
theorem cnt_le (p : Nat → Bool) : ∀ k, cnt p k ≤ k
  | 0 => Nat.le_refl _
  | k + 1 => by
    have h := cnt_le p k
    unfold cnt
    by_cases hp : p k = true
    · rw [if_pos hp]; omega
    · rw [if_neg hp]; omega
theorem cnt_eq {p q : Nat → Bool} : ∀ k, (∀ j, j < k → p j = q j) → cnt p k = cnt q k
  | 0, _ => rfl
  | k + 1, h => by
    unfold cnt
    rw [cnt_eq k (fun j hj => h j (by omega)), h k (by omega)]
set_option maxHeartbeats 4000000 in
set_option maxRecDepth 100000 in
theorem lp_Tr_nodesThere {C : CT} {l : Launch} {S : ShT} {d : Nat} (hC : OKC C l) (hS : SHP S) (hd : 2 ≤ d) {I : DI} {J : DJ}  : ∀ (n : Nat) (i : Nat) (x z : Int32) (a : Nat), x = nI i → z = nI a → i ≤ 16 → 16 < i + n → a = cnt (fun j => !decide (I 2 j = 0)) i → V C l k_Tr_nodesThere (d, 0, 0) (PP (.int (nI (cnt (fun j => !decide (I 2 j = 0)) 16))) S I J) 4 [(2, .int x), (1, .int z), (0, .ref 1)] [] S I J (0, 0) := by
  intro n
  induction n with
  | zero =>
    intro i x z a ex ez hi hf ea
    omega
  | succ n ih =>
    intro i x z a ex ez hi hf ea
    refine v_iload_n 0 d_Tr_nodesThere_4 rfl rfl rfl ?_
    refine v_bipush (v := 16) d_Tr_nodesThere_5 (by decide) rfl ?_
    refine v_icmp_ge (tgt := 32) d_Tr_nodesThere_7 (by decide) rfl (fun c1 => ?_) (fun c1 => ?_)
    · refine v_iload_n 1 d_Tr_nodesThere_32 rfl rfl rfl ?_
      refine v_iret d_Tr_nodesThere_33 rfl ?_
      have hi16 : i = 16 := by rcases Nat.lt_or_ge i 16 with h9 | h9; exact absurd c1 (by rw [ex]; exact nI_ge (b := 16) h9 (by decide)); omega
      subst hi16
      exact ⟨by rw [ez, ea], rfl, rfl, rfl⟩
    · have hlt : i < 16 := by rcases Nat.lt_or_ge i 16 with h9 | h9; exact h9; exact absurd (by rw [ex]; exact nI_le (a := 16) h9 (by omega)) c1
      refine v_iload_n 1 d_Tr_nodesThere_10 rfl rfl rfl ?_
      refine v_aload_n 2 d_Tr_nodesThere_11 rfl rfl rfl ?_
      refine v_iload_n 0 d_Tr_nodesThere_12 rfl rfl rfl ?_
      refine v_cVp (as := [.int x]) d_Tr_nodesThere_13 cs_Tr_30 (by have h9 := c_Tr_isThere (C := C) (l := l) (S := S) (I := I) (J := J) hC hS (d := d - 1) (nI i) (by omega); rw [ndS_j hlt, ← ex] at h9; exact h9) (hS.o (by decide) rfl) (by decide) rfl rfl rfl (by simp [Value.category]) (by omega) rfl ?_
      refine v_if_eq (tgt := 23) d_Tr_nodesThere_16 (by decide) rfl (fun c2 => ?_) (fun c2 => ?_)
      · refine v_iconst (v := 0) d_Tr_nodesThere_23 (by decide) rfl ?_
        refine v_iadd d_Tr_nodesThere_24 rfl ?_
        refine v_nmi (fun z3 ez3 => ?_)
        have nz3 : z3 = nI (a + 0) := by rw [ez3, show z = nI a from ez, show 0 = nI 0 from rfl]; exact nI_add _ _
        refine v_istore_n (L' := [(1, .int z3), (2, .int x), (0, .ref 1)]) d_Tr_nodesThere_25 rfl (by decide) rfl rfl ?_
        obtain ⟨x4, ex4⟩ : ∃ y : Int32, y = x + 1 := ⟨_, rfl⟩
        have nx4 : x4 = nI (i + 1) := by rw [ex4, ex]; exact nI_1 _
        refine v_iinc (n := 1) (v := x4) (L' := [(2, .int x4), (1, .int z3), (0, .ref 1)]) d_Tr_nodesThere_26 rfl (by rw [ex4]; rfl) (by decide) rfl rfl ?_
        refine v_goto (tgt := 4) d_Tr_nodesThere_29 (by decide) ?_
        exact ih _ _ _ _ nx4 nz3 (by omega) (by omega) (by unfold cnt; rw [ea]; first | (simp_all [bI]; done) | (rcases hb i hlt with h9 | h9 <;> simp_all))
      · refine v_iconst (v := 1) d_Tr_nodesThere_19 (by decide) rfl ?_
        refine v_goto (tgt := 24) d_Tr_nodesThere_20 (by decide) ?_
        refine v_iadd d_Tr_nodesThere_24 rfl ?_
        refine v_nmi (fun z5 ez5 => ?_)
        have nz5 : z5 = nI (a + 1) := by rw [ez5, show z = nI a from ez, show 1 = nI 1 from rfl]; exact nI_add _ _
        refine v_istore_n (L' := [(1, .int z5), (2, .int x), (0, .ref 1)]) d_Tr_nodesThere_25 rfl (by decide) rfl rfl ?_
        obtain ⟨x6, ex6⟩ : ∃ y : Int32, y = x + 1 := ⟨_, rfl⟩
        have nx6 : x6 = nI (i + 1) := by rw [ex6, ex]; exact nI_1 _
        refine v_iinc (n := 1) (v := x6) (L' := [(2, .int x6), (1, .int z5), (0, .ref 1)]) d_Tr_nodesThere_26 rfl (by rw [ex6]; rfl) (by decide) rfl rfl ?_
        refine v_goto (tgt := 4) d_Tr_nodesThere_29 (by decide) ?_
        exact ih _ _ _ _ nx6 nz5 (by omega) (by omega) (by unfold cnt; rw [ea]; first | (simp_all [bI]; done) | (rcases hb i hlt with h9 | h9 <;> simp_all))
set_option maxHeartbeats 4000000 in
set_option maxRecDepth 100000 in
theorem c_Tr_nodesThere {C : CT} {l : Launch} {S : ShT} {I : DI} {J : DJ} {d : Nat} (hC : OKC C l) (hS : SHP S) (hd : 2 ≤ d) : Sp C l k_Tr_nodesThere y_Tr_nodesThere (d, 0, 0) [.ref 1] S I J (PP (.int (nI (cnt (fun j => !decide (I 2 j = 0)) 16))) S I J) := by
  refine Sp.of hC cd_Tr_nodesThere (Nat.le_of_ble_eq_true rfl) ?_
  show V C l k_Tr_nodesThere (d, 0, 0) _ 0 [(0, .ref 1)] [] S I J (0, 0)
  refine v_iconst (v := 0) d_Tr_nodesThere_0 (by decide) rfl ?_
  refine v_istore_n (L' := [(1, .int 0), (0, .ref 1)]) d_Tr_nodesThere_1 rfl (by decide) rfl rfl ?_
  refine v_iconst (v := 0) d_Tr_nodesThere_2 (by decide) rfl ?_
  refine v_istore_n (L' := [(2, .int 0), (1, .int 0), (0, .ref 1)]) d_Tr_nodesThere_3 rfl (by decide) rfl rfl ?_
  exact lp_Tr_nodesThere hC hS hd  17 0 0 0 0 rfl rfl (by omega) (by omega) rfl
set_option maxHeartbeats 4000000 in
set_option maxRecDepth 100000 in
theorem lp_Tr_filesThere {C : CT} {l : Launch} {S : ShT} {d : Nat} (hC : OKC C l) (hS : SHP S) (hd : 2 ≤ d) {I : DI} {J : DJ}  : ∀ (n : Nat) (i : Nat) (x z : Int32) (a : Nat), x = nI i → z = nI a → i ≤ 16 → 16 < i + n → a = cnt (fun j => decide (I 2 j = 2)) i → V C l k_Tr_filesThere (d, 0, 0) (PP (.int (nI (cnt (fun j => decide (I 2 j = 2)) 16))) S I J) 4 [(2, .int x), (1, .int z), (0, .ref 1)] [] S I J (0, 0) := by
  intro n
  induction n with
  | zero =>
    intro i x z a ex ez hi hf ea
    omega
  | succ n ih =>
    intro i x z a ex ez hi hf ea
    refine v_iload_n 0 d_Tr_filesThere_4 rfl rfl rfl ?_
    refine v_bipush (v := 16) d_Tr_filesThere_5 (by decide) rfl ?_
    refine v_icmp_ge (tgt := 32) d_Tr_filesThere_7 (by decide) rfl (fun c1 => ?_) (fun c1 => ?_)
    · refine v_iload_n 1 d_Tr_filesThere_32 rfl rfl rfl ?_
      refine v_iret d_Tr_filesThere_33 rfl ?_
      have hi16 : i = 16 := by rcases Nat.lt_or_ge i 16 with h9 | h9; exact absurd c1 (by rw [ex]; exact nI_ge (b := 16) h9 (by decide)); omega
      subst hi16
      exact ⟨by rw [ez, ea], rfl, rfl, rfl⟩
    · have hlt : i < 16 := by rcases Nat.lt_or_ge i 16 with h9 | h9; exact h9; exact absurd (by rw [ex]; exact nI_le (a := 16) h9 (by omega)) c1
      refine v_iload_n 1 d_Tr_filesThere_10 rfl rfl rfl ?_
      refine v_aload_n 2 d_Tr_filesThere_11 rfl rfl rfl ?_
      refine v_iload_n 0 d_Tr_filesThere_12 rfl rfl rfl ?_
      refine v_cVp (as := [.int x]) d_Tr_filesThere_13 cs_Tr_33 (by have h9 := c_Tr_isFile (C := C) (l := l) (S := S) (I := I) (J := J) hC hS (d := d - 1) (nI i) (by omega); rw [ndS_j hlt, ← ex] at h9; exact h9) (hS.o (by decide) rfl) (by decide) rfl rfl rfl (by simp [Value.category]) (by omega) rfl ?_
      refine v_if_eq (tgt := 23) d_Tr_filesThere_16 (by decide) rfl (fun c2 => ?_) (fun c2 => ?_)
      · refine v_iconst (v := 0) d_Tr_filesThere_23 (by decide) rfl ?_
        refine v_iadd d_Tr_filesThere_24 rfl ?_
        refine v_nmi (fun z3 ez3 => ?_)
        have nz3 : z3 = nI (a + 0) := by rw [ez3, show z = nI a from ez, show 0 = nI 0 from rfl]; exact nI_add _ _
        refine v_istore_n (L' := [(1, .int z3), (2, .int x), (0, .ref 1)]) d_Tr_filesThere_25 rfl (by decide) rfl rfl ?_
        obtain ⟨x4, ex4⟩ : ∃ y : Int32, y = x + 1 := ⟨_, rfl⟩
        have nx4 : x4 = nI (i + 1) := by rw [ex4, ex]; exact nI_1 _
        refine v_iinc (n := 1) (v := x4) (L' := [(2, .int x4), (1, .int z3), (0, .ref 1)]) d_Tr_filesThere_26 rfl (by rw [ex4]; rfl) (by decide) rfl rfl ?_
        refine v_goto (tgt := 4) d_Tr_filesThere_29 (by decide) ?_
        exact ih _ _ _ _ nx4 nz3 (by omega) (by omega) (by unfold cnt; rw [ea]; first | (simp_all [bI]; done) | (rcases hb i hlt with h9 | h9 <;> simp_all))
      · refine v_iconst (v := 1) d_Tr_filesThere_19 (by decide) rfl ?_
        refine v_goto (tgt := 24) d_Tr_filesThere_20 (by decide) ?_
        refine v_iadd d_Tr_filesThere_24 rfl ?_
        refine v_nmi (fun z5 ez5 => ?_)
        have nz5 : z5 = nI (a + 1) := by rw [ez5, show z = nI a from ez, show 1 = nI 1 from rfl]; exact nI_add _ _
        refine v_istore_n (L' := [(1, .int z5), (2, .int x), (0, .ref 1)]) d_Tr_filesThere_25 rfl (by decide) rfl rfl ?_
        obtain ⟨x6, ex6⟩ : ∃ y : Int32, y = x + 1 := ⟨_, rfl⟩
        have nx6 : x6 = nI (i + 1) := by rw [ex6, ex]; exact nI_1 _
        refine v_iinc (n := 1) (v := x6) (L' := [(2, .int x6), (1, .int z5), (0, .ref 1)]) d_Tr_filesThere_26 rfl (by rw [ex6]; rfl) (by decide) rfl rfl ?_
        refine v_goto (tgt := 4) d_Tr_filesThere_29 (by decide) ?_
        exact ih _ _ _ _ nx6 nz5 (by omega) (by omega) (by unfold cnt; rw [ea]; first | (simp_all [bI]; done) | (rcases hb i hlt with h9 | h9 <;> simp_all))
set_option maxHeartbeats 4000000 in
set_option maxRecDepth 100000 in
theorem c_Tr_filesThere {C : CT} {l : Launch} {S : ShT} {I : DI} {J : DJ} {d : Nat} (hC : OKC C l) (hS : SHP S) (hd : 2 ≤ d) : Sp C l k_Tr_filesThere y_Tr_filesThere (d, 0, 0) [.ref 1] S I J (PP (.int (nI (cnt (fun j => decide (I 2 j = 2)) 16))) S I J) := by
  refine Sp.of hC cd_Tr_filesThere (Nat.le_of_ble_eq_true rfl) ?_
  show V C l k_Tr_filesThere (d, 0, 0) _ 0 [(0, .ref 1)] [] S I J (0, 0)
  refine v_iconst (v := 0) d_Tr_filesThere_0 (by decide) rfl ?_
  refine v_istore_n (L' := [(1, .int 0), (0, .ref 1)]) d_Tr_filesThere_1 rfl (by decide) rfl rfl ?_
  refine v_iconst (v := 0) d_Tr_filesThere_2 (by decide) rfl ?_
  refine v_istore_n (L' := [(2, .int 0), (1, .int 0), (0, .ref 1)]) d_Tr_filesThere_3 rfl (by decide) rfl rfl ?_
  exact lp_Tr_filesThere hC hS hd  17 0 0 0 0 rfl rfl (by omega) (by omega) rfl
set_option maxHeartbeats 4000000 in
set_option maxRecDepth 100000 in
theorem lp_Ix_size {C : CT} {l : Launch} {S : ShT} {d : Nat} (hC : OKC C l) (hS : SHP S) (hd : 0 ≤ d) {I : DI} {J : DJ} (hb : ∀ i, i < 16 → I 27 i = 0 ∨ I 27 i = 1)  : ∀ (n : Nat) (i : Nat) (x z : Int32) (a : Nat), x = nI i → z = nI a → i ≤ 16 → 16 < i + n → a = cnt (fun j => decide (I 27 j = 1)) i → V C l k_Ix_size (d, 0, 0) (PP (.int (nI (cnt (fun j => decide (I 27 j = 1)) 16))) S I J) 4 [(2, .int x), (1, .int z), (0, .ref 25)] [] S I J (0, 0) := by
  intro n
  induction n with
  | zero =>
    intro i x z a ex ez hi hf ea
    omega
  | succ n ih =>
    intro i x z a ex ez hi hf ea
    refine v_iload_n 0 d_Ix_size_4 rfl rfl rfl ?_
    refine v_bipush (v := 16) d_Ix_size_5 (by decide) rfl ?_
    refine v_icmp_ge (tgt := 33) d_Ix_size_7 (by decide) rfl (fun c1 => ?_) (fun c1 => ?_)
    · refine v_iload_n 1 d_Ix_size_33 rfl rfl rfl ?_
      refine v_iret d_Ix_size_34 rfl ?_
      have hi16 : i = 16 := by rcases Nat.lt_or_ge i 16 with h9 | h9; exact absurd c1 (by rw [ex]; exact nI_ge (b := 16) h9 (by decide)); omega
      subst hi16
      exact ⟨by rw [ez, ea], rfl, rfl, rfl⟩
    · have hlt : i < 16 := by rcases Nat.lt_or_ge i 16 with h9 | h9; exact h9; exact absurd (by rw [ex]; exact nI_le (a := 16) h9 (by omega)) c1
      refine v_iload_n 1 d_Ix_size_10 rfl rfl rfl ?_
      refine v_aload_n 2 d_Ix_size_11 rfl rfl rfl ?_
      refine v_getr (r := 27) d_Ix_size_12 fl_Ix_17 (hS.o (by decide) rfl) rfl (hS.r (by decide) rfl) rfl ?_
      refine v_iload_n 0 d_Ix_size_15 rfl rfl rfl ?_
      refine v_zald (j := i) d_Ix_size_16 (hS.a (t := 33) (n := 16) (by decide) rfl) ex (by omega) (by decide) rfl ?_
      refine v_if_eq (tgt := 24) d_Ix_size_17 (by decide) rfl (fun c2 => ?_) (fun c2 => ?_)
      · refine v_iconst (v := 0) d_Ix_size_24 (by decide) rfl ?_
        refine v_iadd d_Ix_size_25 rfl ?_
        refine v_nmi (fun z3 ez3 => ?_)
        have nz3 : z3 = nI (a + 0) := by rw [ez3, show z = nI a from ez, show 0 = nI 0 from rfl]; exact nI_add _ _
        refine v_istore_n (L' := [(1, .int z3), (2, .int x), (0, .ref 25)]) d_Ix_size_26 rfl (by decide) rfl rfl ?_
        obtain ⟨x4, ex4⟩ : ∃ y : Int32, y = x + 1 := ⟨_, rfl⟩
        have nx4 : x4 = nI (i + 1) := by rw [ex4, ex]; exact nI_1 _
        refine v_iinc (n := 1) (v := x4) (L' := [(2, .int x4), (1, .int z3), (0, .ref 25)]) d_Ix_size_27 rfl (by rw [ex4]; rfl) (by decide) rfl rfl ?_
        refine v_goto (tgt := 4) d_Ix_size_30 (by decide) ?_
        exact ih _ _ _ _ nx4 nz3 (by omega) (by omega) (by unfold cnt; rw [ea]; first | (simp_all [bI]; done) | (rcases hb i hlt with h9 | h9 <;> simp_all))
      · refine v_iconst (v := 1) d_Ix_size_20 (by decide) rfl ?_
        refine v_goto (tgt := 25) d_Ix_size_21 (by decide) ?_
        refine v_iadd d_Ix_size_25 rfl ?_
        refine v_nmi (fun z5 ez5 => ?_)
        have nz5 : z5 = nI (a + 1) := by rw [ez5, show z = nI a from ez, show 1 = nI 1 from rfl]; exact nI_add _ _
        refine v_istore_n (L' := [(1, .int z5), (2, .int x), (0, .ref 25)]) d_Ix_size_26 rfl (by decide) rfl rfl ?_
        obtain ⟨x6, ex6⟩ : ∃ y : Int32, y = x + 1 := ⟨_, rfl⟩
        have nx6 : x6 = nI (i + 1) := by rw [ex6, ex]; exact nI_1 _
        refine v_iinc (n := 1) (v := x6) (L' := [(2, .int x6), (1, .int z5), (0, .ref 25)]) d_Ix_size_27 rfl (by rw [ex6]; rfl) (by decide) rfl rfl ?_
        refine v_goto (tgt := 4) d_Ix_size_30 (by decide) ?_
        exact ih _ _ _ _ nx6 nz5 (by omega) (by omega) (by unfold cnt; rw [ea]; first | (simp_all [bI]; done) | (rcases hb i hlt with h9 | h9 <;> simp_all))
set_option maxHeartbeats 4000000 in
set_option maxRecDepth 100000 in
theorem c_Ix_size {C : CT} {l : Launch} {S : ShT} {I : DI} {J : DJ} {d : Nat} (hC : OKC C l) (hS : SHP S) (hb : ∀ i, i < 16 → I 27 i = 0 ∨ I 27 i = 1) (hd : 0 ≤ d) : Sp C l k_Ix_size y_Ix_size (d, 0, 0) [.ref 25] S I J (PP (.int (nI (cnt (fun j => decide (I 27 j = 1)) 16))) S I J) := by
  refine Sp.of hC cd_Ix_size (Nat.le_of_ble_eq_true rfl) ?_
  show V C l k_Ix_size (d, 0, 0) _ 0 [(0, .ref 25)] [] S I J (0, 0)
  refine v_iconst (v := 0) d_Ix_size_0 (by decide) rfl ?_
  refine v_istore_n (L' := [(1, .int 0), (0, .ref 25)]) d_Ix_size_1 rfl (by decide) rfl rfl ?_
  refine v_iconst (v := 0) d_Ix_size_2 (by decide) rfl ?_
  refine v_istore_n (L' := [(2, .int 0), (1, .int 0), (0, .ref 25)]) d_Ix_size_3 rfl (by decide) rfl rfl ?_
  exact lp_Ix_size hC hS hd hb 17 0 0 0 0 rfl rfl (by omega) (by omega) rfl
