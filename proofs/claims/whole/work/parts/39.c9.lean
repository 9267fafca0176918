/-- the character at a, 0 at the end -/
def nx (c : Nat → Int32) (n a : Nat) : Int32 := if a < n then c a else 0
theorem nx_lt {c : Nat → Int32} {n a : Nat} (h : a < n) : nx c n a = c a := if_pos h
theorem nx_ge {c : Nat → Int32} {n a : Nat} (h : ¬ a < n) : nx c n a = 0 := if_neg h
theorem u2_u2 {α : Type} {f : Nat → Nat → α} {a k : Nat} {x y : α} : u2 (u2 f a k x) a k y = u2 f a k y := by
  funext b j
  unfold u2
  by_cases h : b = a ∧ j = k
  · rw [if_pos h, if_pos h]
  · rw [if_neg h, if_neg h, if_neg h]
def skF (c : Nat → Int32) : Nat → Nat → Nat
  | i, 0 => i
  | i, k + 1 => if c i = 32 then skF c (i + 1) k else i
theorem skF_s (c : Nat → Int32) (i k : Nat) : skF c i (k + 1) = if c i = 32 then skF c (i + 1) k else i := rfl
/-- behind the blanks from a on -/
def skb (c : Nat → Int32) (n a : Nat) : Nat := skF c a (n - a)
theorem skF_le (c : Nat → Int32) : ∀ k i, i ≤ skF c i k ∧ skF c i k ≤ i + k
  | 0, i => ⟨Nat.le_refl _, Nat.le_refl _⟩
  | k + 1, i => by
    rw [skF_s]
    have h := skF_le c k (i + 1)
    by_cases hx : c i = 32
    · rw [if_pos hx]; omega
    · rw [if_neg hx]; omega
theorem skb_le {c : Nat → Int32} {n a : Nat} (h : a ≤ n) : a ≤ skb c n a ∧ skb c n a ≤ n := by
  have := skF_le c (n - a) a
  unfold skb
  omega
/-- how many letters, at most k, from a on -/
def lcn (c : Nat → Int32) (n : Nat) : Nat → Nat → Nat
  | _, 0 => 0
  | a, k + 1 => if isLt (nx c n a) then lcn c n (a + 1) k + 1 else 0
theorem lcn_s (c : Nat → Int32) (n a k : Nat) : lcn c n a (k + 1) = if isLt (nx c n a) then lcn c n (a + 1) k + 1 else 0 := rfl
theorem lcn_le (c : Nat → Int32) (n : Nat) : ∀ k a, lcn c n a k ≤ k
  | 0, a => Nat.le_refl _
  | k + 1, a => by
    rw [lcn_s]
    by_cases h : isLt (nx c n a) = true
    · rw [if_pos h]; have := lcn_le c n k (a + 1); omega
    · rw [if_neg h]; omega
theorem isLt_lt {c : Nat → Int32} {n a : Nat} (h : isLt (nx c n a) = true) : a < n := by
  rcases Nat.lt_or_ge a n with h9 | h9
  · exact h9
  · rw [nx_ge (by omega)] at h
    exact absurd h (by decide)
theorem lcn_n {c : Nat → Int32} {n : Nat} : ∀ k a, a ≤ n → a + lcn c n a k ≤ n
  | 0, a, h => h
  | k + 1, a, h => by
    rw [lcn_s]
    by_cases hl : isLt (nx c n a) = true
    · rw [if_pos hl]; have := lcn_n (c := c) k (a + 1) (isLt_lt hl); omega
    · rw [if_neg hl]; omega
set_option maxHeartbeats 4000000 in
set_option maxRecDepth 100000 in
theorem c_Qy_next {C : CT} {l : Launch} {S : ShT} {I : DI} {J : DJ} {d : Nat} (hC : OKC C l) (hS : SHP S) {n a : Nat} (hn40 : n ≤ 40) (han : a ≤ n) (hn : I 76 1 = nI n) (ha : I 76 5 = nI a) (hd : 0 ≤ d) : Sp C l k_Qy_next y_Qy_next (d, 0, 0) [.ref 76] S I J (PP (.int (nx (I 77) n a)) S I J) := by
  refine Sp.of hC cd_Qy_next (Nat.le_of_ble_eq_true rfl) ?_
  show V C l k_Qy_next (d, 0, 0) _ 0 [(0, .ref 76)] [] S I J (0, 0)
  refine v_aload_n 0 d_Qy_next_0 rfl rfl rfl ?_
  refine v_geti d_Qy_next_1 fl_Qy_26 (hS.o (by decide) rfl) rfl rfl ?_
  refine v_aload_n 0 d_Qy_next_4 rfl rfl rfl ?_
  refine v_geti d_Qy_next_5 fl_Qy_22 (hS.o (by decide) rfl) rfl rfl ?_
  refine v_icmp_ge (tgt := 23) d_Qy_next_8 (by decide) rfl (fun c1 => ?_) (fun c1 => ?_)
  · have hge : ¬ a < n := fun h9 => absurd c1 (by rw [hn, ha]; exact nI_ge h9 (by omega))
    refine v_iconst (v := 0) d_Qy_next_23 (by decide) rfl ?_
    refine v_iret d_Qy_next_24 rfl ?_
    exact ⟨by first | rw [nx_lt hlt] | rw [nx_ge hge], rfl, rfl, rfl⟩
  · have hlt : a < n := by rcases Nat.lt_or_ge a n with h9 | h9; exact h9; exact absurd (by rw [hn, ha]; exact nI_le h9 (by omega)) c1
    refine v_aload_n 0 d_Qy_next_11 rfl rfl rfl ?_
    refine v_getr (r := 77) d_Qy_next_12 fl_Qy_9 (hS.o (by decide) rfl) rfl (hS.r (by decide) rfl) rfl ?_
    refine v_aload_n 0 d_Qy_next_15 rfl rfl rfl ?_
    refine v_geti d_Qy_next_16 fl_Qy_26 (hS.o (by decide) rfl) rfl rfl ?_
    refine v_iald (j := a) d_Qy_next_19 (hS.a (t := 32) (n := 40) (by decide) rfl) ha (by omega) (by decide) rfl ?_
    refine v_goto (tgt := 24) d_Qy_next_20 (by decide) ?_
    refine v_iret d_Qy_next_24 rfl ?_
    exact ⟨by first | rw [nx_lt hlt] | rw [nx_ge hge], rfl, rfl, rfl⟩
set_option maxHeartbeats 4000000 in
set_option maxRecDepth 100000 in
theorem c_Qy_atAlternativeEnd {C : CT} {l : Launch} {S : ShT} {I : DI} {J : DJ} {d : Nat} (hC : OKC C l) (hS : SHP S) {n a : Nat} (hn40 : n ≤ 40) (han : a ≤ n) (hn : I 76 1 = nI n) (ha : I 76 5 = nI a) (hd : 1 ≤ d) : Sp C l k_Qy_atAlternativeEnd y_Qy_atAlternativeEnd (d, 0, 0) [.ref 76] S I J (PP (.int (bI (decide (nx (I 77) n a = 0) || decide (nx (I 77) n a = 124)))) S I J) := by
  refine Sp.of hC cd_Qy_atAlternativeEnd (Nat.le_of_ble_eq_true rfl) ?_
  show V C l k_Qy_atAlternativeEnd (d, 0, 0) _ 0 [(0, .ref 76)] [] S I J (0, 0)
  refine v_aload_n 0 d_Qy_atAlternativeEnd_0 rfl rfl rfl ?_
  refine v_cVp (as := []) d_Qy_atAlternativeEnd_1 cs_Qy_45 (c_Qy_next hC hS (d := d - 1) (n := n) (a := a) hn40 han hn ha (by omega)) (hS.o (by decide) rfl) (by decide) rfl rfl rfl (by decide) (by omega) rfl ?_
  refine v_if_eq (tgt := 16) d_Qy_atAlternativeEnd_4 (by decide) rfl (fun c1 => ?_) (fun c1 => ?_)
  · refine v_iconst (v := 1) d_Qy_atAlternativeEnd_16 (by decide) rfl ?_
    refine v_goto (tgt := 21) d_Qy_atAlternativeEnd_17 (by decide) ?_
    refine v_zret d_Qy_atAlternativeEnd_21 rfl (Or.inr rfl) ?_
    exact ⟨by simp_all [bI], rfl, rfl, rfl⟩
  · refine v_aload_n 0 d_Qy_atAlternativeEnd_7 rfl rfl rfl ?_
    refine v_cVp (as := []) d_Qy_atAlternativeEnd_8 cs_Qy_45 (c_Qy_next hC hS (d := d - 1) (n := n) (a := a) hn40 han hn ha (by omega)) (hS.o (by decide) rfl) (by decide) rfl rfl rfl (by decide) (by omega) rfl ?_
    refine v_bipush (v := 124) d_Qy_atAlternativeEnd_11 (by decide) rfl ?_
    refine v_icmp_ne (tgt := 20) d_Qy_atAlternativeEnd_13 (by decide) rfl (fun c2 => ?_) (fun c2 => ?_)
    · refine v_iconst (v := 0) d_Qy_atAlternativeEnd_20 (by decide) rfl ?_
      refine v_zret d_Qy_atAlternativeEnd_21 rfl (Or.inl rfl) ?_
      exact ⟨by simp_all [bI], rfl, rfl, rfl⟩
    · refine v_iconst (v := 1) d_Qy_atAlternativeEnd_16 (by decide) rfl ?_
      refine v_goto (tgt := 21) d_Qy_atAlternativeEnd_17 (by decide) ?_
      refine v_zret d_Qy_atAlternativeEnd_21 rfl (Or.inr rfl) ?_
      exact ⟨by simp_all [bI], rfl, rfl, rfl⟩
set_option maxHeartbeats 4000000 in
set_option maxRecDepth 100000 in
theorem lp_Qy_skipBlanks {C : CT} {l : Launch} {S : ShT} {d : Nat} (hC : OKC C l) (hS : SHP S) {J : DJ} {n : Nat} (hn40 : n ≤ 40) : ∀ (k a : Nat) (I : DI), a ≤ n → n < a + k → I 76 1 = nI n → I 76 5 = nI a → V C l k_Qy_skipBlanks (d, 0, 0) (PU S J (fun I' => I' = u2 I 76 5 (nI (skb (I 77) n a)))) 0 [(0, .ref 76)] [] S I J (0, 0) := by
  intro k
  induction k with
  | zero =>
    intro a I h1 h2
    omega
  | succ k ih =>
    intro a I han hf hn ha
    refine v_aload_n 0 d_Qy_skipBlanks_0 rfl rfl rfl ?_
    refine v_geti d_Qy_skipBlanks_1 fl_Qy_26 (hS.o (by decide) rfl) rfl rfl ?_
    refine v_aload_n 0 d_Qy_skipBlanks_4 rfl rfl rfl ?_
    refine v_geti d_Qy_skipBlanks_5 fl_Qy_22 (hS.o (by decide) rfl) rfl rfl ?_
    refine v_icmp_ge (tgt := 38) d_Qy_skipBlanks_8 (by decide) rfl (fun c1 => ?_) (fun c1 => ?_)
    · refine v_vret d_Qy_skipBlanks_38 rfl ?_
      have e9 : skb (I 77) n a = a := by unfold skb; rw [show n - a = 0 by rcases Nat.lt_or_ge a n with h9 | h9; exact absurd c1 (by rw [hn, ha]; exact nI_ge h9 (by omega)); omega]; rfl
      exact ⟨rfl, rfl, rfl, by rw [e9]; exact u2_id ha⟩
    · have hlt : a < n := by rcases Nat.lt_or_ge a n with h9 | h9; exact h9; exact absurd (by rw [hn, ha]; exact nI_le h9 (by omega)) c1
      refine v_aload_n 0 d_Qy_skipBlanks_11 rfl rfl rfl ?_
      refine v_getr (r := 77) d_Qy_skipBlanks_12 fl_Qy_9 (hS.o (by decide) rfl) rfl (hS.r (by decide) rfl) rfl ?_
      refine v_aload_n 0 d_Qy_skipBlanks_15 rfl rfl rfl ?_
      refine v_geti d_Qy_skipBlanks_16 fl_Qy_26 (hS.o (by decide) rfl) rfl rfl ?_
      refine v_iald (j := a) d_Qy_skipBlanks_19 (hS.a (t := 32) (n := 40) (by decide) rfl) ha (by omega) (by decide) rfl ?_
      refine v_bipush (v := 32) d_Qy_skipBlanks_20 (by decide) rfl ?_
      refine v_icmp_ne (tgt := 38) d_Qy_skipBlanks_22 (by decide) rfl (fun c2 => ?_) (fun c2 => ?_)
      · refine v_vret d_Qy_skipBlanks_38 rfl ?_
        have e9 : skb (I 77) n a = a := by unfold skb; rw [show n - a = (n - (a + 1)) + 1 by omega, skF_s, if_neg c2]
        exact ⟨rfl, rfl, rfl, by rw [e9]; exact u2_id ha⟩
      · refine v_aload_n 0 d_Qy_skipBlanks_25 rfl rfl rfl ?_
        refine v_dup d_Qy_skipBlanks_26 rfl rfl ?_
        refine v_geti d_Qy_skipBlanks_27 fl_Qy_26 (hS.o (by decide) rfl) rfl rfl ?_
        refine v_iconst (v := 1) d_Qy_skipBlanks_30 (by decide) rfl ?_
        refine v_iadd d_Qy_skipBlanks_31 rfl ?_
        refine v_nmi (fun z3 ez3 => ?_)
        have nz3 : z3 = nI (a + 1) := by rw [ez3, show I 76 5 = nI a from ha, show 1 = nI 1 from rfl]; exact nI_add _ _
        refine v_puti d_Qy_skipBlanks_32 fl_Qy_26 (hS.o (by decide) rfl) rfl rfl rfl ?_
        generalize hI4 : u2 I 76 5 z3 = I4
        refine v_goto (tgt := 0) d_Qy_skipBlanks_35 (by decide) ?_
        have h9 := ih (a + 1) I4 (by omega) (by omega) (by rw [← hI4, u2_n (by decide)]; exact hn) (by rw [← hI4, u2_s]; exact nz3)
        rw [show I4 77 = I 77 by rw [← hI4, u2_o (by decide)]] at h9
        have e9 : skb (I 77) n a = skb (I 77) n (a + 1) := by unfold skb; rw [show n - a = (n - (a + 1)) + 1 by omega, skF_s, if_pos c2]
        rw [e9]
        have e8 : u2 I4 76 5 (nI (skb (I 77) n (a + 1))) = u2 I 76 5 (nI (skb (I 77) n (a + 1))) := by rw [← hI4, u2_u2]
        rw [e8] at h9
        exact h9
set_option maxHeartbeats 4000000 in
set_option maxRecDepth 100000 in
theorem c_Qy_skipBlanks {C : CT} {l : Launch} {S : ShT} {I : DI} {J : DJ} {d : Nat} (hC : OKC C l) (hS : SHP S) {n a : Nat} (hn40 : n ≤ 40) (han : a ≤ n) (hn : I 76 1 = nI n) (ha : I 76 5 = nI a) : Sp C l k_Qy_skipBlanks y_Qy_skipBlanks (d, 0, 0) [.ref 76] S I J (PU S J (fun I' => I' = u2 I 76 5 (nI (skb (I 77) n a)))) := by
  refine Sp.of hC cd_Qy_skipBlanks (Nat.le_of_ble_eq_true rfl) ?_
  exact lp_Qy_skipBlanks hC hS hn40 (n + 1) a I han (by omega) hn ha
