/-- the first place from i on, of k places, that holds x; the one behind them if none does -/
def plc (f : Nat → Int32) (x : Int32) : Nat → Nat → Nat
  | i, 0 => i
  | i, k + 1 => if f i = x then i else plc f x (i + 1) k
theorem plc_s (f : Nat → Int32) (x : Int32) (i k : Nat) : plc f x i (k + 1) = if f i = x then i else plc f x (i + 1) k := rfl
theorem u2_id {α : Type} {f : Nat → Nat → α} {a k : Nat} {x : α} (h : f a k = x) : f = u2 f a k x := by
  funext b j
  unfold u2
  by_cases hb : b = a ∧ j = k
  · rw [if_pos hb, hb.1, hb.2]; exact h
  · rw [if_neg hb]
theorem plc_le (f : Nat → Int32) (x : Int32) : ∀ k i, i ≤ plc f x i k ∧ plc f x i k ≤ i + k
  | 0, i => ⟨Nat.le_refl _, Nat.le_refl _⟩
  | k + 1, i => by
    unfold plc
    have h := plc_le f x k (i + 1)
    by_cases hx : f i = x
    · rw [if_pos hx]; omega
    · rw [if_neg hx]; omega
theorem plc_at (f : Nat → Int32) (x : Int32) : ∀ k i, plc f x i k < i + k → f (plc f x i k) = x
  | 0, i, h => absurd h (by unfold plc; omega)
  | k + 1, i, h => by
    unfold plc at h ⊢
    by_cases hx : f i = x
    · rw [if_pos hx] at h ⊢; exact hx
    · rw [if_neg hx] at h ⊢; exact plc_at f x k (i + 1) (by omega)
theorem plc_eq {f g : Nat → Int32} (x : Int32) : ∀ k i, (∀ j, i ≤ j → j < i + k → f j = g j) → plc f x i k = plc g x i k
  | 0, i, _ => rfl
  | k + 1, i, h => by
    unfold plc
    rw [h i (Nat.le_refl _) (by omega), plc_eq x k (i + 1) (fun j h1 h2 => h j (by omega) (by omega))]
def tgt (a k : Int32) : Int32 := if a = 2 ∧ k = 3 then 3 else if a = 3 ∧ k = 1 then 2 else a
/-- an event of the kind k is told for the file x: the queue before (lost, how many, kinds, files), behind -/
def TQ (l : Int32) (n : Nat) (f g : Nat → Int32) (x k : Int32) (l' : Int32) (n' : Nat) (f' g' : Nat → Int32) : Prop :=
  (¬ l = 0 → l' = l ∧ n' = n ∧ ∀ j, j < n → f' j = f j ∧ g' j = g j) ∧
  (l = 0 → plc g x 0 n < n → f (plc g x 0 n) = 1 ∧ k = 3 → l' = l ∧ n' = n - 1 ∧ ∀ j, j < n - 1 → f' j = shf f (plc g x 0 n) (n - 1) j ∧ g' j = shf g (plc g x 0 n) (n - 1) j) ∧
  (l = 0 → plc g x 0 n < n → ¬ (f (plc g x 0 n) = 1 ∧ k = 3) → l' = l ∧ n' = n ∧ ∀ j, j < n → g' j = g j ∧ f' j = if j = plc g x 0 n then tgt (f j) k else f j) ∧
  (l = 0 → ¬ plc g x 0 n < n → n < 8 → l' = l ∧ n' = n + 1 ∧ f' n = k ∧ g' n = x ∧ ∀ j, j < n → f' j = f j ∧ g' j = g j) ∧
  (l = 0 → ¬ plc g x 0 n < n → ¬ n < 8 → l' = 1 ∧ n' = 0)
set_option maxHeartbeats 4000000 in
set_option maxRecDepth 100000 in
theorem lp_Qu_placeOf {C : CT} {l : Launch} {S : ShT} {d : Nat} (hC : OKC C l) (hS : SHP S) (hd : 0 ≤ d) {I : DI} {J : DJ} {y : Int32} {m : Nat} (hm : m ≤ 8) (h2 : I 22 2 = nI m) : ∀ (n : Nat) (i : Nat) (x : Int32), x = nI i → i ≤ m → m < i + n → plc (I 24) y 0 m = plc (I 24) y i (m - i) → V C l k_Qu_placeOf (d, 0, 0) (PP (.int (nI (plc (I 24) y 0 m))) S I J) 2 [(2, .int x), (0, .ref 22), (1, .int y)] [] S I J (0, 0) := by
  intro n
  induction n with
  | zero =>
    intro i x ex him hf hi0
    omega
  | succ n ih =>
    intro i x ex him hf hi0
    refine v_iload_n 0 d_Qu_placeOf_2 rfl rfl rfl ?_
    refine v_aload_n 1 d_Qu_placeOf_3 rfl rfl rfl ?_
    refine v_geti d_Qu_placeOf_4 fl_Qu_18 (hS.o (by decide) rfl) rfl rfl ?_
    refine v_icmp_ge (tgt := 28) d_Qu_placeOf_7 (by decide) rfl (fun c1 => ?_) (fun c1 => ?_)
    · refine v_aload_n 1 d_Qu_placeOf_28 rfl rfl rfl ?_
      refine v_geti d_Qu_placeOf_29 fl_Qu_18 (hS.o (by decide) rfl) rfl rfl ?_
      refine v_iret d_Qu_placeOf_32 rfl ?_
      have him : i = m := by rcases Nat.lt_or_ge i m with h9 | h9; exact absurd c1 (by rw [h2, ex]; exact nI_ge h9 (by omega)); omega
      exact ⟨by rw [hi0, him, Nat.sub_self]; unfold plc; rw [h2], rfl, rfl, rfl⟩
    · have hlt : i < m := by rcases Nat.lt_or_ge i m with h9 | h9; exact h9; exact absurd (by rw [h2, ex]; exact nI_le h9 (by omega)) c1
      refine v_aload_n 1 d_Qu_placeOf_10 rfl rfl rfl ?_
      refine v_getr (r := 24) d_Qu_placeOf_11 fl_Qu_15 (hS.o (by decide) rfl) rfl (hS.r (by decide) rfl) rfl ?_
      refine v_iload_n 0 d_Qu_placeOf_14 rfl rfl rfl ?_
      refine v_iald (j := i) d_Qu_placeOf_15 (hS.a (t := 32) (n := 8) (by decide) rfl) ex (by omega) (by decide) rfl ?_
      refine v_iload_n 2 d_Qu_placeOf_16 rfl rfl rfl ?_
      refine v_icmp_ne (tgt := 22) d_Qu_placeOf_17 (by decide) rfl (fun c2 => ?_) (fun c2 => ?_)
      · obtain ⟨x3, ex3⟩ : ∃ y : Int32, y = x + 1 := ⟨_, rfl⟩
        have nx3 : x3 = nI (i + 1) := by rw [ex3, ex]; exact nI_1 _
        refine v_iinc (n := 0) (v := x3) (L' := [(2, .int x3), (0, .ref 22), (1, .int y)]) d_Qu_placeOf_22 rfl (by rw [ex3]; rfl) (by decide) rfl rfl ?_
        refine v_goto (tgt := 2) d_Qu_placeOf_25 (by decide) ?_
        exact ih _ _ nx3 (by omega) (by omega) (by rw [hi0]; rw [show m - i = (m - (i + 1)) + 1 by omega, plc_s, if_neg c2])
      · refine v_iload_n 0 d_Qu_placeOf_20 rfl rfl rfl ?_
        refine v_iret d_Qu_placeOf_21 rfl ?_
        exact ⟨by rw [hi0, ex]; cases hk : m - i with
            | zero => omega
            | succ k => unfold plc; rw [if_pos c2], rfl, rfl, rfl⟩
set_option maxHeartbeats 4000000 in
set_option maxRecDepth 100000 in
theorem c_Qu_placeOf {C : CT} {l : Launch} {S : ShT} {I : DI} {J : DJ} {d : Nat} (hC : OKC C l) (hS : SHP S) {m : Nat} (hm : m ≤ 8) (h2 : I 22 2 = nI m) (y : Int32) (hd : 0 ≤ d) : Sp C l k_Qu_placeOf y_Qu_placeOf (d, 0, 0) [.ref 22, .int y] S I J (PP (.int (nI (plc (I 24) y 0 m))) S I J) := by
  refine Sp.of hC cd_Qu_placeOf (Nat.le_of_ble_eq_true rfl) ?_
  show V C l k_Qu_placeOf (d, 0, 0) _ 0 [(0, .ref 22), (1, .int y)] [] S I J (0, 0)
  refine v_iconst (v := 0) d_Qu_placeOf_0 (by decide) rfl ?_
  refine v_istore_n (L' := [(2, .int 0), (0, .ref 22), (1, .int y)]) d_Qu_placeOf_1 rfl (by decide) rfl rfl ?_
  exact lp_Qu_placeOf hC hS hd hm h2 (m + 1) 0 0 rfl (Nat.zero_le _) (by omega) rfl
set_option maxHeartbeats 4000000 in
set_option maxRecDepth 100000 in
theorem c_Qu_putTogether {C : CT} {l : Launch} {S : ShT} {I : DI} {J : DJ} {d : Nat} (hC : OKC C l) (hS : SHP S) {p m : Nat} (hm : m < 8) (hp : p ≤ m) (h2 : I 22 2 = nI (m + 1)) (k : Int32) (hd : 1 ≤ d) : Sp C l k_Qu_putTogether y_Qu_putTogether (d, 0, 0) [.ref 22, .int (nI p), .int k] S I J (PU S J (fun I' => (I 23 p = 1 ∧ k = 3 ∧ Dq I p m I') ∨ (¬ (I 23 p = 1 ∧ k = 3) ∧ I' = u2 I 23 p (tgt (I 23 p) k)))) := by
  refine Sp.of hC cd_Qu_putTogether (Nat.le_of_ble_eq_true rfl) ?_
  show V C l k_Qu_putTogether (d, 0, 0) _ 0 [(0, .ref 22), (1, .int (nI p)), (2, .int k)] [] S I J (0, 0)
  refine v_aload_n 0 d_Qu_putTogether_0 rfl rfl rfl ?_
  refine v_getr (r := 23) d_Qu_putTogether_1 fl_Qu_9 (hS.o (by decide) rfl) rfl (hS.r (by decide) rfl) rfl ?_
  refine v_iload_n 1 d_Qu_putTogether_4 rfl rfl rfl ?_
  refine v_iald (j := p) d_Qu_putTogether_5 (hS.a (t := 32) (n := 8) (by decide) rfl) rfl (by omega) (by decide) rfl ?_
  refine v_istore_n (L' := [(3, .int (I 23 p)), (0, .ref 22), (1, .int (nI p)), (2, .int k)]) d_Qu_putTogether_6 rfl (by decide) rfl rfl ?_
  refine v_iload_n 0 d_Qu_putTogether_7 rfl rfl rfl ?_
  refine v_iconst (v := 1) d_Qu_putTogether_8 (by decide) rfl ?_
  refine v_icmp_ne (tgt := 25) d_Qu_putTogether_9 (by decide) rfl (fun c1 => ?_) (fun c1 => ?_)
  · refine v_iload_n 0 d_Qu_putTogether_25 rfl rfl rfl ?_
    refine v_iconst (v := 2) d_Qu_putTogether_26 (by decide) rfl ?_
    refine v_icmp_ne (tgt := 45) d_Qu_putTogether_27 (by decide) rfl (fun c2 => ?_) (fun c2 => ?_)
    · refine v_iload_n 0 d_Qu_putTogether_45 rfl rfl rfl ?_
      refine v_iconst (v := 3) d_Qu_putTogether_46 (by decide) rfl ?_
      refine v_icmp_ne (tgt := 62) d_Qu_putTogether_47 (by decide) rfl (fun c3 => ?_) (fun c3 => ?_)
      · refine v_vret d_Qu_putTogether_62 rfl ?_
        refine ⟨rfl, rfl, rfl, ?_⟩
        first | exact Or.inl ⟨by assumption, by assumption, by assumption⟩ | exact Or.inr ⟨by rintro ⟨q1, q2⟩; simp_all, by first | (subst_vars; simp_all [tgt]; done) | exact u2_id (by unfold tgt; simp_all)⟩
      · refine v_iload_n 3 d_Qu_putTogether_50 rfl rfl rfl ?_
        refine v_iconst (v := 1) d_Qu_putTogether_51 (by decide) rfl ?_
        refine v_icmp_ne (tgt := 62) d_Qu_putTogether_52 (by decide) rfl (fun c4 => ?_) (fun c4 => ?_)
        · refine v_vret d_Qu_putTogether_62 rfl ?_
          refine ⟨rfl, rfl, rfl, ?_⟩
          first | exact Or.inl ⟨by assumption, by assumption, by assumption⟩ | exact Or.inr ⟨by rintro ⟨q1, q2⟩; simp_all, by first | (subst_vars; simp_all [tgt]; done) | exact u2_id (by unfold tgt; simp_all)⟩
        · refine v_aload_n 1 d_Qu_putTogether_55 rfl rfl rfl ?_
          refine v_getr (r := 23) d_Qu_putTogether_56 fl_Qu_9 (hS.o (by decide) rfl) rfl (hS.r (by decide) rfl) rfl ?_
          refine v_iload_n 2 d_Qu_putTogether_59 rfl rfl rfl ?_
          refine v_iconst (v := 2) d_Qu_putTogether_60 (by decide) rfl ?_
          refine v_iast (j := p) d_Qu_putTogether_61 (hS.a (t := 32) (n := 8) (by decide) rfl) rfl (by omega) (by decide) rfl ?_
          generalize hI5 : u2 I 23 p 2 = I5
          refine v_vret d_Qu_putTogether_62 rfl ?_
          refine ⟨rfl, rfl, rfl, ?_⟩
          first | exact Or.inl ⟨by assumption, by assumption, by assumption⟩ | exact Or.inr ⟨by rintro ⟨q1, q2⟩; simp_all, by first | (subst_vars; simp_all [tgt]; done) | exact u2_id (by unfold tgt; simp_all)⟩
    · refine v_iload_n 3 d_Qu_putTogether_30 rfl rfl rfl ?_
      refine v_iconst (v := 3) d_Qu_putTogether_31 (by decide) rfl ?_
      refine v_icmp_ne (tgt := 45) d_Qu_putTogether_32 (by decide) rfl (fun c6 => ?_) (fun c6 => ?_)
      · refine v_iload_n 0 d_Qu_putTogether_45 rfl rfl rfl ?_
        refine v_iconst (v := 3) d_Qu_putTogether_46 (by decide) rfl ?_
        refine v_icmp_ne (tgt := 62) d_Qu_putTogether_47 (by decide) rfl (fun c7 => ?_) (fun c7 => ?_)
        · refine v_vret d_Qu_putTogether_62 rfl ?_
          refine ⟨rfl, rfl, rfl, ?_⟩
          first | exact Or.inl ⟨by assumption, by assumption, by assumption⟩ | exact Or.inr ⟨by rintro ⟨q1, q2⟩; simp_all, by first | (subst_vars; simp_all [tgt]; done) | exact u2_id (by unfold tgt; simp_all)⟩
        · refine v_iload_n 3 d_Qu_putTogether_50 rfl rfl rfl ?_
          refine v_iconst (v := 1) d_Qu_putTogether_51 (by decide) rfl ?_
          refine v_icmp_ne (tgt := 62) d_Qu_putTogether_52 (by decide) rfl (fun c8 => ?_) (fun c8 => ?_)
          · refine v_vret d_Qu_putTogether_62 rfl ?_
            refine ⟨rfl, rfl, rfl, ?_⟩
            first | exact Or.inl ⟨by assumption, by assumption, by assumption⟩ | exact Or.inr ⟨by rintro ⟨q1, q2⟩; simp_all, by first | (subst_vars; simp_all [tgt]; done) | exact u2_id (by unfold tgt; simp_all)⟩
          · refine v_aload_n 1 d_Qu_putTogether_55 rfl rfl rfl ?_
            refine v_getr (r := 23) d_Qu_putTogether_56 fl_Qu_9 (hS.o (by decide) rfl) rfl (hS.r (by decide) rfl) rfl ?_
            refine v_iload_n 2 d_Qu_putTogether_59 rfl rfl rfl ?_
            refine v_iconst (v := 2) d_Qu_putTogether_60 (by decide) rfl ?_
            refine v_iast (j := p) d_Qu_putTogether_61 (hS.a (t := 32) (n := 8) (by decide) rfl) rfl (by omega) (by decide) rfl ?_
            generalize hI9 : u2 I 23 p 2 = I9
            refine v_vret d_Qu_putTogether_62 rfl ?_
            refine ⟨rfl, rfl, rfl, ?_⟩
            first | exact Or.inl ⟨by assumption, by assumption, by assumption⟩ | exact Or.inr ⟨by rintro ⟨q1, q2⟩; simp_all, by first | (subst_vars; simp_all [tgt]; done) | exact u2_id (by unfold tgt; simp_all)⟩
      · refine v_aload_n 1 d_Qu_putTogether_35 rfl rfl rfl ?_
        refine v_getr (r := 23) d_Qu_putTogether_36 fl_Qu_9 (hS.o (by decide) rfl) rfl (hS.r (by decide) rfl) rfl ?_
        refine v_iload_n 2 d_Qu_putTogether_39 rfl rfl rfl ?_
        refine v_iconst (v := 3) d_Qu_putTogether_40 (by decide) rfl ?_
        refine v_iast (j := p) d_Qu_putTogether_41 (hS.a (t := 32) (n := 8) (by decide) rfl) rfl (by omega) (by decide) rfl ?_
        generalize hI10 : u2 I 23 p 3 = I10
        refine v_goto (tgt := 62) d_Qu_putTogether_42 (by decide) ?_
        refine v_vret d_Qu_putTogether_62 rfl ?_
        refine ⟨rfl, rfl, rfl, ?_⟩
        first | exact Or.inl ⟨by assumption, by assumption, by assumption⟩ | exact Or.inr ⟨by rintro ⟨q1, q2⟩; simp_all, by first | (subst_vars; simp_all [tgt]; done) | exact u2_id (by unfold tgt; simp_all)⟩
  · refine v_iload_n 3 d_Qu_putTogether_12 rfl rfl rfl ?_
    refine v_iconst (v := 3) d_Qu_putTogether_13 (by decide) rfl ?_
    refine v_icmp_ne (tgt := 25) d_Qu_putTogether_14 (by decide) rfl (fun c11 => ?_) (fun c11 => ?_)
    · refine v_iload_n 0 d_Qu_putTogether_25 rfl rfl rfl ?_
      refine v_iconst (v := 2) d_Qu_putTogether_26 (by decide) rfl ?_
      refine v_icmp_ne (tgt := 45) d_Qu_putTogether_27 (by decide) rfl (fun c12 => ?_) (fun c12 => ?_)
      · refine v_iload_n 0 d_Qu_putTogether_45 rfl rfl rfl ?_
        refine v_iconst (v := 3) d_Qu_putTogether_46 (by decide) rfl ?_
        refine v_icmp_ne (tgt := 62) d_Qu_putTogether_47 (by decide) rfl (fun c13 => ?_) (fun c13 => ?_)
        · refine v_vret d_Qu_putTogether_62 rfl ?_
          refine ⟨rfl, rfl, rfl, ?_⟩
          first | exact Or.inl ⟨by assumption, by assumption, by assumption⟩ | exact Or.inr ⟨by rintro ⟨q1, q2⟩; simp_all, by first | (subst_vars; simp_all [tgt]; done) | exact u2_id (by unfold tgt; simp_all)⟩
        · refine v_iload_n 3 d_Qu_putTogether_50 rfl rfl rfl ?_
          refine v_iconst (v := 1) d_Qu_putTogether_51 (by decide) rfl ?_
          refine v_icmp_ne (tgt := 62) d_Qu_putTogether_52 (by decide) rfl (fun c14 => ?_) (fun c14 => ?_)
          · refine v_vret d_Qu_putTogether_62 rfl ?_
            refine ⟨rfl, rfl, rfl, ?_⟩
            first | exact Or.inl ⟨by assumption, by assumption, by assumption⟩ | exact Or.inr ⟨by rintro ⟨q1, q2⟩; simp_all, by first | (subst_vars; simp_all [tgt]; done) | exact u2_id (by unfold tgt; simp_all)⟩
          · refine v_aload_n 1 d_Qu_putTogether_55 rfl rfl rfl ?_
            refine v_getr (r := 23) d_Qu_putTogether_56 fl_Qu_9 (hS.o (by decide) rfl) rfl (hS.r (by decide) rfl) rfl ?_
            refine v_iload_n 2 d_Qu_putTogether_59 rfl rfl rfl ?_
            refine v_iconst (v := 2) d_Qu_putTogether_60 (by decide) rfl ?_
            refine v_iast (j := p) d_Qu_putTogether_61 (hS.a (t := 32) (n := 8) (by decide) rfl) rfl (by omega) (by decide) rfl ?_
            generalize hI15 : u2 I 23 p 2 = I15
            refine v_vret d_Qu_putTogether_62 rfl ?_
            refine ⟨rfl, rfl, rfl, ?_⟩
            first | exact Or.inl ⟨by assumption, by assumption, by assumption⟩ | exact Or.inr ⟨by rintro ⟨q1, q2⟩; simp_all, by first | (subst_vars; simp_all [tgt]; done) | exact u2_id (by unfold tgt; simp_all)⟩
      · refine v_iload_n 3 d_Qu_putTogether_30 rfl rfl rfl ?_
        refine v_iconst (v := 3) d_Qu_putTogether_31 (by decide) rfl ?_
        refine v_icmp_ne (tgt := 45) d_Qu_putTogether_32 (by decide) rfl (fun c16 => ?_) (fun c16 => ?_)
        · refine v_iload_n 0 d_Qu_putTogether_45 rfl rfl rfl ?_
          refine v_iconst (v := 3) d_Qu_putTogether_46 (by decide) rfl ?_
          refine v_icmp_ne (tgt := 62) d_Qu_putTogether_47 (by decide) rfl (fun c17 => ?_) (fun c17 => ?_)
          · refine v_vret d_Qu_putTogether_62 rfl ?_
            refine ⟨rfl, rfl, rfl, ?_⟩
            first | exact Or.inl ⟨by assumption, by assumption, by assumption⟩ | exact Or.inr ⟨by rintro ⟨q1, q2⟩; simp_all, by first | (subst_vars; simp_all [tgt]; done) | exact u2_id (by unfold tgt; simp_all)⟩
          · refine v_iload_n 3 d_Qu_putTogether_50 rfl rfl rfl ?_
            refine v_iconst (v := 1) d_Qu_putTogether_51 (by decide) rfl ?_
            refine v_icmp_ne (tgt := 62) d_Qu_putTogether_52 (by decide) rfl (fun c18 => ?_) (fun c18 => ?_)
            · refine v_vret d_Qu_putTogether_62 rfl ?_
              refine ⟨rfl, rfl, rfl, ?_⟩
              first | exact Or.inl ⟨by assumption, by assumption, by assumption⟩ | exact Or.inr ⟨by rintro ⟨q1, q2⟩; simp_all, by first | (subst_vars; simp_all [tgt]; done) | exact u2_id (by unfold tgt; simp_all)⟩
            · refine v_aload_n 1 d_Qu_putTogether_55 rfl rfl rfl ?_
              refine v_getr (r := 23) d_Qu_putTogether_56 fl_Qu_9 (hS.o (by decide) rfl) rfl (hS.r (by decide) rfl) rfl ?_
              refine v_iload_n 2 d_Qu_putTogether_59 rfl rfl rfl ?_
              refine v_iconst (v := 2) d_Qu_putTogether_60 (by decide) rfl ?_
              refine v_iast (j := p) d_Qu_putTogether_61 (hS.a (t := 32) (n := 8) (by decide) rfl) rfl (by omega) (by decide) rfl ?_
              generalize hI19 : u2 I 23 p 2 = I19
              refine v_vret d_Qu_putTogether_62 rfl ?_
              refine ⟨rfl, rfl, rfl, ?_⟩
              first | exact Or.inl ⟨by assumption, by assumption, by assumption⟩ | exact Or.inr ⟨by rintro ⟨q1, q2⟩; simp_all, by first | (subst_vars; simp_all [tgt]; done) | exact u2_id (by unfold tgt; simp_all)⟩
        · refine v_aload_n 1 d_Qu_putTogether_35 rfl rfl rfl ?_
          refine v_getr (r := 23) d_Qu_putTogether_36 fl_Qu_9 (hS.o (by decide) rfl) rfl (hS.r (by decide) rfl) rfl ?_
          refine v_iload_n 2 d_Qu_putTogether_39 rfl rfl rfl ?_
          refine v_iconst (v := 3) d_Qu_putTogether_40 (by decide) rfl ?_
          refine v_iast (j := p) d_Qu_putTogether_41 (hS.a (t := 32) (n := 8) (by decide) rfl) rfl (by omega) (by decide) rfl ?_
          generalize hI20 : u2 I 23 p 3 = I20
          refine v_goto (tgt := 62) d_Qu_putTogether_42 (by decide) ?_
          refine v_vret d_Qu_putTogether_62 rfl ?_
          refine ⟨rfl, rfl, rfl, ?_⟩
          first | exact Or.inl ⟨by assumption, by assumption, by assumption⟩ | exact Or.inr ⟨by rintro ⟨q1, q2⟩; simp_all, by first | (subst_vars; simp_all [tgt]; done) | exact u2_id (by unfold tgt; simp_all)⟩
    · refine v_aload_n 1 d_Qu_putTogether_17 rfl rfl rfl ?_
      refine v_iload_n 2 d_Qu_putTogether_18 rfl rfl rfl ?_
      refine v_cVu (as := [.int (nI p)]) d_Qu_putTogether_19 cs_Qu_34 (c_Qu_drop hC hS (d := d - 1) (p := p) (m := m) (by omega) (by omega) h2 (by omega)) (hS.o (by decide) rfl) (by decide) rfl rfl rfl (by decide) (by omega) rfl (fun I21 h22 => ?_)
      refine v_goto (tgt := 62) d_Qu_putTogether_22 (by decide) ?_
      refine v_vret d_Qu_putTogether_62 rfl ?_
      refine ⟨rfl, rfl, rfl, ?_⟩
      first | exact Or.inl ⟨by assumption, by assumption, by assumption⟩ | exact Or.inr ⟨by rintro ⟨q1, q2⟩; simp_all, by first | (subst_vars; simp_all [tgt]; done) | exact u2_id (by unfold tgt; simp_all)⟩
