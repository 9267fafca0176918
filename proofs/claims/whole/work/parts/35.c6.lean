/-- up from the node a, at most k steps: does f come? -/
def wup (P : Nat → Int32) (f : Int32) : Nat → Nat → Bool
  | 0, _ => false
  | k + 1, a => if a = 0 then false else if P a = f then true else wup P f k (P a).toNatClampNeg
theorem wup_s (P : Nat → Int32) (f : Int32) (k a : Nat) : wup P f (k + 1) a = if a = 0 then false else if P a = f then true else wup P f k (P a).toNatClampNeg := rfl
set_option maxHeartbeats 4000000 in
set_option maxRecDepth 100000 in
theorem lp_Tr_isWithin {C : CT} {l : Launch} {S : ShT} {d : Nat} (hC : OKC C l) (hS : SHP S) (hd : 0 ≤ d) {I : DI} {J : DJ} {v f : Int32} {w : Bool} (hP : ∀ i, i < 16 → ∃ j, j < 16 ∧ I 3 i = nI j) : ∀ (n : Nat) (i : Nat) (x y : Int32) (a : Nat), x = nI i → y = nI a → i ≤ 16 → a < 16 → 16 < i + n → w = wup (I 3) f (16 - i) a → V C l k_Tr_isWithin (d, 0, 0) (PP (.int (bI w)) S I J) 15 [(4, .int x), (3, .int y), (0, .ref 1), (1, .int v), (2, .int f)] [] S I J (0, 0) := by
  intro n
  induction n with
  | zero =>
    intro i x y a ex ey hi ha hf hw
    omega
  | succ n ih =>
    intro i x y a ex ey hi ha hf hw
    refine v_iload 0 d_Tr_isWithin_15 rfl rfl ?_
    refine v_bipush (v := 16) d_Tr_isWithin_17 (by decide) rfl ?_
    refine v_icmp_ge (tgt := 46) d_Tr_isWithin_19 (by decide) rfl (fun c1 => ?_) (fun c1 => ?_)
    · refine v_iconst (v := 0) d_Tr_isWithin_46 (by decide) rfl ?_
      refine v_zret d_Tr_isWithin_47 rfl (Or.inl rfl) ?_
      first
        | (have hi16 : i = 16 := by rcases Nat.lt_or_ge i 16 with h9 | h9; exact absurd c1 (by rw [ex]; exact nI_ge (b := 16) h9 (by decide)); omega
           subst hi16
           exact ⟨by rw [hw]; rfl, rfl, rfl, rfl⟩)
        | (have ha0 : a = 0 := by have h9 := c2; rw [ey] at h9; exact (nI_eq (b := 0) (by omega) (by decide)).mp h9
           have hlt : i < 16 := by rcases Nat.lt_or_ge i 16 with h9 | h9; exact h9; exact absurd (by rw [ex]; exact nI_le (a := 16) h9 (by omega)) c1
           exact ⟨by rw [hw, show 16 - i = (16 - (i + 1)) + 1 by omega, wup_s, if_pos ha0]; rfl, rfl, rfl, rfl⟩)
    · refine v_iload_n 1 d_Tr_isWithin_22 rfl rfl rfl ?_
      refine v_if_eq (tgt := 46) d_Tr_isWithin_23 (by decide) rfl (fun c2 => ?_) (fun c2 => ?_)
      · refine v_iconst (v := 0) d_Tr_isWithin_46 (by decide) rfl ?_
        refine v_zret d_Tr_isWithin_47 rfl (Or.inl rfl) ?_
        first
          | (have hi16 : i = 16 := by rcases Nat.lt_or_ge i 16 with h9 | h9; exact absurd c1 (by rw [ex]; exact nI_ge (b := 16) h9 (by decide)); omega
             subst hi16
             exact ⟨by rw [hw]; rfl, rfl, rfl, rfl⟩)
          | (have ha0 : a = 0 := by have h9 := c2; rw [ey] at h9; exact (nI_eq (b := 0) (by omega) (by decide)).mp h9
             have hlt : i < 16 := by rcases Nat.lt_or_ge i 16 with h9 | h9; exact h9; exact absurd (by rw [ex]; exact nI_le (a := 16) h9 (by omega)) c1
             exact ⟨by rw [hw, show 16 - i = (16 - (i + 1)) + 1 by omega, wup_s, if_pos ha0]; rfl, rfl, rfl, rfl⟩)
      · have hlt : i < 16 := by rcases Nat.lt_or_ge i 16 with h9 | h9; exact h9; exact absurd (by rw [ex]; exact nI_le (a := 16) h9 (by omega)) c1
        have ha0 : ¬ a = 0 := fun h9 => c2 (by rw [ey, h9]; rfl)
        obtain ⟨b, hb, eb⟩ := hP a ha
        refine v_aload_n 2 d_Tr_isWithin_26 rfl rfl rfl ?_
        refine v_getr (r := 3) d_Tr_isWithin_27 fl_Tr_15 (hS.o (by decide) rfl) rfl (hS.r (by decide) rfl) rfl ?_
        refine v_iload_n 1 d_Tr_isWithin_30 rfl rfl rfl ?_
        refine v_iald (j := a) d_Tr_isWithin_31 (hS.a (t := 32) (n := 16) (by decide) rfl) ey (by omega) (by decide) rfl ?_
        refine v_istore_n (L' := [(3, .int (I 3 a)), (4, .int x), (0, .ref 1), (1, .int v), (2, .int f)]) d_Tr_isWithin_32 rfl (by decide) rfl rfl ?_
        refine v_iload_n 0 d_Tr_isWithin_33 rfl rfl rfl ?_
        refine v_iload_n 4 d_Tr_isWithin_34 rfl rfl rfl ?_
        refine v_icmp_ne (tgt := 40) d_Tr_isWithin_35 (by decide) rfl (fun c3 => ?_) (fun c3 => ?_)
        · obtain ⟨x4, ex4⟩ : ∃ y : Int32, y = x + 1 := ⟨_, rfl⟩
          have nx4 : x4 = nI (i + 1) := by rw [ex4, ex]; exact nI_1 _
          refine v_iinc (n := 1) (v := x4) (L' := [(4, .int x4), (3, .int (I 3 a)), (0, .ref 1), (1, .int v), (2, .int f)]) d_Tr_isWithin_40 rfl (by rw [ex4]; rfl) (by decide) rfl rfl ?_
          refine v_goto (tgt := 15) d_Tr_isWithin_43 (by decide) ?_
          exact ih _ _ _ b nx4 eb (by omega) hb (by omega) (by rw [hw, show 16 - i = (16 - (i + 1)) + 1 by omega, wup_s, if_neg ha0, if_neg c3, eb, nI_clamp (by omega)])
        · refine v_iconst (v := 1) d_Tr_isWithin_38 (by decide) rfl ?_
          refine v_zret d_Tr_isWithin_39 rfl (Or.inr rfl) ?_
          exact ⟨by rw [hw, show 16 - i = (16 - (i + 1)) + 1 by omega, wup_s, if_neg ha0, if_pos c3]; rfl, rfl, rfl, rfl⟩
set_option maxHeartbeats 4000000 in
set_option maxRecDepth 100000 in
theorem c_Tr_isWithin {C : CT} {l : Launch} {S : ShT} {I : DI} {J : DJ} {d : Nat} (hC : OKC C l) (hS : SHP S) (hP : ∀ i, i < 16 → ∃ j, j < 16 ∧ I 3 i = nI j) (x f : Int32) (hd : 2 ≤ d) : Sp C l k_Tr_isWithin y_Tr_isWithin (d, 0, 0) [.ref 1, .int x, .int f] S I J (PP (.int (bI (!decide (ndS I x = 0) && wup (I 3) f 16 x.toNatClampNeg))) S I J) := by
  refine Sp.of hC cd_Tr_isWithin (Nat.le_of_ble_eq_true rfl) ?_
  show V C l k_Tr_isWithin (d, 0, 0) _ 0 [(0, .ref 1), (1, .int x), (2, .int f)] [] S I J (0, 0)
  refine v_aload_n 0 d_Tr_isWithin_0 rfl rfl rfl ?_
  refine v_iload_n 1 d_Tr_isWithin_1 rfl rfl rfl ?_
  refine v_cVp (as := [.int x]) d_Tr_isWithin_2 cs_Tr_30 (c_Tr_isThere hC hS (d := d - 1) x (by omega)) (hS.o (by decide) rfl) (by decide) rfl rfl rfl (by decide) (by omega) rfl ?_
  refine v_if_ne (tgt := 10) d_Tr_isWithin_5 (by decide) rfl (fun c1 => ?_) (fun c1 => ?_)
  · have hx0 : ¬ ndS I x = 0 := by intro h9; rw [h9] at c1; exact c1 rfl
    obtain ⟨j, hj, rfl⟩ : ∃ j, j < 16 ∧ x = nI j := by rcases hb : isNd x with _ | _; exact absurd (ndS_n hb) hx0; exact isNd_j hb
    refine v_iload_n 1 d_Tr_isWithin_10 rfl rfl rfl ?_
    refine v_istore_n (L' := [(3, .int (nI j)), (0, .ref 1), (1, .int (nI j)), (2, .int f)]) d_Tr_isWithin_11 rfl (by decide) rfl rfl ?_
    refine v_iconst (v := 0) d_Tr_isWithin_12 (by decide) rfl ?_
    refine v_istore (L' := [(4, .int 0), (3, .int (nI j)), (0, .ref 1), (1, .int (nI j)), (2, .int f)]) d_Tr_isWithin_13 (by decide) rfl rfl ?_
    rw [show (!decide (ndS I (nI j) = 0)) = true by simpa using hx0, Bool.true_and, nI_clamp (by omega)]
    exact lp_Tr_isWithin hC hS (by omega) hP 17 0 _ _ j rfl rfl (by omega) hj (by omega) rfl
  · refine v_iconst (v := 0) d_Tr_isWithin_8 (by decide) rfl ?_
    refine v_zret d_Tr_isWithin_9 rfl (Or.inl rfl) ?_
    have h9 : ndS I x = 0 := by by_cases h8 : ndS I x = 0; exact h8; simp [h8, bI] at c1
    exact ⟨by rw [h9]; rfl, rfl, rfl, rfl⟩
/-- where the title ends: the first ; from k on, else n -/
def tiE (f : Nat → Int32) (n : Nat) : Nat := if n = 0 then 0 else if f 0 = 35 then plc f 59 0 n else 0
theorem tiE_le (f : Nat → Int32) (n : Nat) : tiE f n ≤ n := by
  unfold tiE
  by_cases h : n = 0
  · rw [if_pos h]; omega
  · rw [if_neg h]
    by_cases h2 : f 0 = 35
    · rw [if_pos h2]; have := (plc_le f 59 n 0).2; omega
    · rw [if_neg h2]; omega
set_option maxHeartbeats 4000000 in
set_option maxRecDepth 100000 in
theorem lp_En_titleEndOf {C : CT} {l : Launch} {S : ShT} {d : Nat} (hC : OKC C l) (hS : SHP S) (hd : 0 ≤ d) {I : DI} {J : DJ} {i m w : Nat} (hi : i < 16) (hm : m ≤ 60) : ∀ (n : Nat) (k : Nat) (x : Int32), x = nI k → k ≤ m → m < k + n → w = plc (I (5 + i)) 59 k (m - k) → V C l k_En_titleEndOf (d, 0, 0) (PP (.int (nI w)) S I J) 16 [(2, .int x), (0, .ref (5 + i)), (1, .int (nI m))] [] S I J (0, 0) := by
  intro n
  induction n with
  | zero =>
    intro k x ex hk hf hw
    omega
  | succ n ih =>
    intro k x ex hk hf hw
    refine v_iload_n 0 d_En_titleEndOf_16 rfl rfl rfl ?_
    refine v_iload_n 2 d_En_titleEndOf_17 rfl rfl rfl ?_
    refine v_icmp_ge (tgt := 37) d_En_titleEndOf_18 (by decide) rfl (fun c1 => ?_) (fun c1 => ?_)
    · refine v_iload_n 2 d_En_titleEndOf_37 rfl rfl rfl ?_
      refine v_iret d_En_titleEndOf_38 rfl ?_
      have hkm : k = m := by rcases Nat.lt_or_ge k m with h9 | h9; exact absurd c1 (by rw [ex]; exact nI_ge h9 (by omega)); omega
      exact ⟨by rw [hw, hkm, Nat.sub_self]; rfl, rfl, rfl, rfl⟩
    · have hlt : k < m := by rcases Nat.lt_or_ge k m with h9 | h9; exact h9; exact absurd (by rw [ex]; exact nI_le h9 (by omega)) c1
      refine v_aload_n 1 d_En_titleEndOf_21 rfl rfl rfl ?_
      refine v_iload_n 0 d_En_titleEndOf_22 rfl rfl rfl ?_
      refine v_iald (j := k) d_En_titleEndOf_23 (hS.co hi) ex (by omega) (by decide) rfl ?_
      refine v_bipush (v := 59) d_En_titleEndOf_24 (by decide) rfl ?_
      refine v_icmp_ne (tgt := 31) d_En_titleEndOf_26 (by decide) rfl (fun c2 => ?_) (fun c2 => ?_)
      · obtain ⟨x3, ex3⟩ : ∃ y : Int32, y = x + 1 := ⟨_, rfl⟩
        have nx3 : x3 = nI (k + 1) := by rw [ex3, ex]; exact nI_1 _
        refine v_iinc (n := 0) (v := x3) (L' := [(2, .int x3), (0, .ref (5 + i)), (1, .int (nI m))]) d_En_titleEndOf_31 rfl (by rw [ex3]; rfl) (by decide) rfl rfl ?_
        refine v_goto (tgt := 16) d_En_titleEndOf_34 (by decide) ?_
        exact ih _ _ nx3 (by omega) (by omega) (by rw [hw, show m - k = (m - (k + 1)) + 1 by omega, plc_s, if_neg c2])
      · refine v_iload_n 0 d_En_titleEndOf_29 rfl rfl rfl ?_
        refine v_iret d_En_titleEndOf_30 rfl ?_
        exact ⟨by rw [hw, show m - k = (m - (k + 1)) + 1 by omega, plc_s, if_pos c2, ex], rfl, rfl, rfl⟩
set_option maxHeartbeats 4000000 in
set_option maxRecDepth 100000 in
theorem c_En_titleEndOf {C : CT} {l : Launch} {S : ShT} {I : DI} {J : DJ} {d : Nat} (hC : OKC C l) (hS : SHP S) {i m : Nat} (hi : i < 16) (hm : m ≤ 60) (hd : 0 ≤ d) : Sp C l k_En_titleEndOf y_En_titleEndOf (d, 0, 0) [.ref (5 + i), .int (nI m)] S I J (PP (.int (nI (tiE (I (5 + i)) m))) S I J) := by
  refine Sp.of hC cd_En_titleEndOf (Nat.le_of_ble_eq_true rfl) ?_
  show V C l k_En_titleEndOf (d, 0, 0) _ 0 [(0, .ref (5 + i)), (1, .int (nI m))] [] S I J (0, 0)
  refine v_iload_n 1 d_En_titleEndOf_0 rfl rfl rfl ?_
  refine v_if_eq (tgt := 12) d_En_titleEndOf_1 (by decide) rfl (fun c1 => ?_) (fun c1 => ?_)
  · refine v_iconst (v := 0) d_En_titleEndOf_12 (by decide) rfl ?_
    refine v_iret d_En_titleEndOf_13 rfl ?_
    first | (have h9 : m = 0 := (nI_eq (b := 0) (by omega) (by decide)).mp c1; subst h9; exact ⟨rfl, rfl, rfl, rfl⟩) | (have h9 : ¬ m = 0 := fun h => c1 (by rw [h]; rfl); exact ⟨by unfold tiE; rw [if_neg h9, if_neg c2]; rfl, rfl, rfl, rfl⟩)
  · have hm0 : ¬ m = 0 := fun h => c1 (by rw [h]; rfl)
    refine v_aload_n 0 d_En_titleEndOf_4 rfl rfl rfl ?_
    refine v_iconst (v := 0) d_En_titleEndOf_5 (by decide) rfl ?_
    refine v_iald (j := 0) d_En_titleEndOf_6 (hS.co hi) rfl (by omega) (by decide) rfl ?_
    refine v_bipush (v := 35) d_En_titleEndOf_7 (by decide) rfl ?_
    refine v_icmp_eq (tgt := 14) d_En_titleEndOf_9 (by decide) rfl (fun c2 => ?_) (fun c2 => ?_)
    · refine v_iconst (v := 0) d_En_titleEndOf_14 (by decide) rfl ?_
      refine v_istore_n (L' := [(2, .int 0), (0, .ref (5 + i)), (1, .int (nI m))]) d_En_titleEndOf_15 rfl (by decide) rfl rfl ?_
      unfold tiE
      rw [if_neg hm0, if_pos c2]
      exact lp_En_titleEndOf hC hS hd hi hm (m + 1) 0 _ rfl (by omega) (by omega) rfl
    · refine v_iconst (v := 0) d_En_titleEndOf_12 (by decide) rfl ?_
      refine v_iret d_En_titleEndOf_13 rfl ?_
      first | (have h9 : m = 0 := (nI_eq (b := 0) (by omega) (by decide)).mp c1; subst h9; exact ⟨rfl, rfl, rfl, rfl⟩) | (have h9 : ¬ m = 0 := fun h => c1 (by rw [h]; rfl); exact ⟨by unfold tiE; rw [if_neg h9, if_neg c2]; rfl, rfl, rfl, rfl⟩)
