theorem g_Ix_init_n : ∀ i, i < 16 → kd0 (28 + 3 * i) = (0, 0) := by decide +kernel
theorem g_Ix_init_a : ∀ i, i < 16 → (setL.take (26 + 3 * i)).all (fun p => !decide (p.1 = 28 + 3 * i)) = true := by decide +kernel
theorem g_Ix_init_r : ∀ i, i < 16 → (25, 0) ∈ setL.take (26 + 3 * i) := by decide +kernel
theorem g_Ix_init_s : ∀ i, i < 16 → setL[28 + 3 * i]? = some (26, i) ∧ rf0 26 i = some (28 + 3 * i) := by decide +kernel
set_option maxHeartbeats 4000000 in
set_option maxRecDepth 100000 in
theorem lp_Ix_init {C : CT} {l : Launch} {d : Nat} (hC : OKC C l) (hd : 2 ≤ d) : ∀ (k i : Nat) (S : ShT) (x : Int32), x = nI i → i ≤ 16 → 16 < i + k → PS (28 + 3 * i) (26 + 3 * i) S → V C l k_Ix_init (d, 50, 1040) (PR (fun v S' I' J' => v = none ∧ PS 76 74 S' ∧ I' = mA 0 [((2, 0), 1)] ∧ J' = mA 0 [])) 23 [(1, .int x), (0, .ref 25)] [] S (mA 0 [((2, 0), 1)]) (mA 0 []) (2 + 3 * i, 32 + 63 * i) := by
  intro k
  induction k with
  | zero => intro i S x _ h1 h2; omega
  | succ k ih =>
    intro i S x ex h1 h2 h
    refine v_iload_n 0 d_Ix_init_23 rfl rfl rfl ?_
    refine v_bipush (v := 16) d_Ix_init_24 (by decide) rfl ?_
    refine v_icmp_ge (tgt := 48) d_Ix_init_26 (by decide) rfl (fun c1 => ?_) (fun c1 => ?_)
    · have hi : i = 16 := by rcases Nat.lt_or_ge i 16 with h9 | h9; exact absurd c1 (by rw [ex]; exact nI_ge (b := 16) h9 (by omega)); omega
      subst hi
      refine v_vret d_Ix_init_48 rfl ?_
      exact ⟨rfl, h, rfl, rfl⟩
    · have hi : i < 16 := by rcases Nat.lt_or_ge i 16 with h9 | h9; exact h9; exact absurd (by rw [ex]; exact nI_le (a := 16) h9 (by omega)) c1
      refine v_aload_n 1 d_Ix_init_29 rfl rfl rfl ?_
      refine v_getr (r := 26) d_Ix_init_30 fl_Ix_11 (h.o (by omega) (by decide +kernel)) rfl (h.r (by omega) (g_Ix_init_r i hi) (by decide +kernel)) rfl ?_
      refine v_iload_n 0 d_Ix_init_33 rfl rfl rfl ?_
      refine v_new (ci := 0) (N := 3) d_Ix_init_34 (by decide) wl_Ix_9 wn_En wi_En ⟨by show 2 + 3 * i + 1 ≤ 50; omega, by show 32 + 63 * i + 3 ≤ 1040; omega⟩ rfl ?_
      rw [h.1, mA_zf (α := Int32) (by intro p hp; have := List.mem_singleton.mp hp; subst this; show 2 < _; omega), mA_zf (α := Int64) (by intro p hp; cases hp)]
      have h3 : PS (29 + 3 * i) (26 + 3 * i) (ad1 S (0, 0)) := by have h9 := h.al (k := (0, 0)) (g_Ix_init_n i hi) (g_Ix_init_a i hi); rw [show (28 + 3 * i) + 1 = (29 + 3 * i) by omega] at h9; exact h9
      generalize ad1 S (0, 0) = S3 at h3 ⊢
      refine v_dup d_Ix_init_37 rfl rfl ?_
      refine v_callI (as := []) d_Ix_init_38 cs_Ix_21 (c_En_init hC (d := d - 1) hi h3 (by omega)) rfl rfl (by simp [Value.category]) (by show (d - 1) + 1 ≤ d; omega) ⟨by show 2 + 3 * i + 1 + 2 ≤ 50; omega, by show 32 + 63 * i + 3 + 60 ≤ 1040; omega⟩ rfl (fun v9 S9 I9 J9 hP => ?_) (fun _ _ _ _ _ hP => False.elim hP)
      obtain ⟨rfl, h4, rfl, rfl⟩ := hP
      generalize S9 = S4 at h4 ⊢
      refine v_aast (t := 35) (n := 16) (j := i) (ci := 0) d_Ix_init_41 (h4.a (by omega) (by decide +kernel)) (by decide) (h4.o (by omega) (by rw [g_Ix_init_n i hi])) (by decide) rfl ex hi (by decide) rfl ?_
      have h5 : PS (28 + 3 * (i + 1)) (26 + 3 * (i + 1)) (S4.1, S4.2.1, u2 S4.2.2 26 i (some (28 + 3 * i))) := by have h9 := h4.st (g_Ix_init_s i hi).1 (g_Ix_init_s i hi).2; rw [show (31 + 3 * i) = 28 + 3 * (i + 1) by omega, show (28 + 3 * i) + 1 = 26 + 3 * (i + 1) by omega] at h9; exact h9
      generalize ((S4.1, S4.2.1, u2 S4.2.2 26 i (some (28 + 3 * i))) : ShT) = S5 at h5 ⊢
      obtain ⟨x2, ex2⟩ : ∃ y9 : Int32, y9 = x + 1 := ⟨_, rfl⟩
      refine v_iinc (n := 0) (v := x2) (L' := [(1, .int x2), (0, .ref 25)]) d_Ix_init_42 rfl (by rw [ex2]; rfl) (by decide) rfl rfl ?_
      refine v_goto (tgt := 23) d_Ix_init_45 (by decide) ?_
      refine v_ue (u' := (2 + 3 * (i + 1), 32 + 63 * (i + 1))) (Prod.ext (by show 2 + 3 * i + 1 + 2 = _; omega) (by show 32 + 63 * i + 3 + 60 = _; omega)) ?_
      exact ih (i + 1) S5 x2 (by rw [ex2, ex]; exact nI_1 i) (by omega) (by omega) h5
set_option maxHeartbeats 4000000 in
set_option maxRecDepth 100000 in
theorem c_Ix_init {C : CT} {l : Launch} {S : ShT} {d : Nat} (hC : OKC C l) (h : PS 26 24 S) (hd : 2 ≤ d) : Sp C l k_Ix_init y_Ix_init (d, 50, 1040) [.ref 25] S (mA 0 [((2, 0), 1)]) (mA 0 []) (PR (fun v S' I' J' => v = none ∧ PS 76 74 S' ∧ I' = mA 0 [((2, 0), 1)] ∧ J' = mA 0 [])) := by
  refine Sp.of hC cd_Ix_init (Nat.le_of_ble_eq_true rfl) ?_
  show V C l k_Ix_init (d, 50, 1040) _ 0 [(0, .ref 25)] [] S (mA 0 [((2, 0), 1)]) (mA 0 []) (0, 0)
  refine v_aload_n 0 d_Ix_init_0 rfl rfl rfl ?_
  refine v_obj d_Ix_init_1 wo_Ix wo1 wo2 (by show 1 ≤ d; omega) (by decide) rfl ?_
  refine v_aload_n 0 d_Ix_init_4 rfl rfl rfl ?_
  refine v_bipush (v := 16) d_Ix_init_5 (by decide) rfl ?_
  refine v_anew (t := 35) (N := 16) (ci := 0) d_Ix_init_7 (by decide) rfl wl_Ix_9 wv_En rfl (by decide) ⟨Nat.le_of_ble_eq_true rfl, Nat.le_of_ble_eq_true rfl⟩ rfl ?_
  rw [h.1, mA_zf (α := Int32) (by decide), mA_zf (α := Int64) (by intro p hp; cases hp)]
  have h1 : PS 27 24 (ad1 S (35, 16)) := by have h9 := h.al (k := (35, 16)) (by decide) (by decide +kernel); exact h9
  generalize ad1 S (35, 16) = S1 at h1 ⊢
  refine v_ue (u' := (1, 16)) rfl ?_
  refine v_putF d_Ix_init_10 fl_Ix_11 (h1.o (by omega) (by decide +kernel)) rfl rfl rfl rfl rfl ?_
  have h2 : PS 27 25 (S1.1, S1.2.1, u2 S1.2.2 25 0 (some 26)) := by have h9 := h1.st (a := 25) (j := 0) (r := 26) (by decide +kernel) (by decide +kernel); exact h9
  generalize ((S1.1, S1.2.1, u2 S1.2.2 25 0 (some 26)) : ShT) = S2 at h2 ⊢
  refine v_aload_n 0 d_Ix_init_13 rfl rfl rfl ?_
  refine v_bipush (v := 16) d_Ix_init_14 (by decide) rfl ?_
  refine v_newa (t := 33) (N := 16) d_Ix_init_16 (Or.inr (Or.inl ⟨rfl, rfl⟩)) wa_boolean rfl (by decide) ⟨Nat.le_of_ble_eq_true rfl, Nat.le_of_ble_eq_true rfl⟩ rfl ?_
  rw [h2.1, mA_zf (α := Int32) (by decide), mA_zf (α := Int64) (by intro p hp; cases hp)]
  have h3 : PS 28 25 (ad1 S2 (33, 16)) := by have h9 := h2.al (k := (33, 16)) (by decide) (by decide +kernel); exact h9
  generalize ad1 S2 (33, 16) = S3 at h3 ⊢
  refine v_ue (u' := (2, 32)) rfl ?_
  clear h2
  refine v_putF d_Ix_init_18 fl_Ix_17 (h3.o (by omega) (by decide +kernel)) rfl rfl rfl rfl rfl ?_
  have h4 : PS 28 26 (S3.1, S3.2.1, u2 S3.2.2 25 1 (some 27)) := by have h9 := h3.st (a := 25) (j := 1) (r := 27) (by decide +kernel) (by decide +kernel); exact h9
  generalize ((S3.1, S3.2.1, u2 S3.2.2 25 1 (some 27)) : ShT) = S4 at h4 ⊢
  refine v_iconst (v := 0) d_Ix_init_21 (by decide) rfl ?_
  refine v_istore_n (L' := [(1, .int 0), (0, .ref 25)]) d_Ix_init_22 rfl (by decide) rfl rfl ?_
  exact lp_Ix_init hC hd 17 0 S4 0 nI_0.symm (by omega) (by omega) h4
theorem g_Qy_init_n : ∀ i, i < 21 → kd0 (79 + 2 * i) = (5, 0) := by decide +kernel
theorem g_Qy_init_a : ∀ i, i < 21 → (setL.take (77 + 2 * i)).all (fun p => !decide (p.1 = 79 + 2 * i)) = true := by decide +kernel
theorem g_Qy_init_r : ∀ i, i < 21 → (76, 2) ∈ setL.take (77 + 2 * i) := by decide +kernel
theorem g_Qy_init_s : ∀ i, i < 21 → setL[78 + 2 * i]? = some (78, i) ∧ rf0 78 i = some (79 + 2 * i) := by decide +kernel
set_option maxHeartbeats 4000000 in
set_option maxRecDepth 100000 in
theorem lp_Qy_init {C : CT} {l : Launch} {d : Nat} (hC : OKC C l) (hd : 2 ≤ d) : ∀ (k i : Nat) (S : ShT) (x : Int32), x = nI i → i ≤ 21 → 21 < i + k → PS (79 + 2 * i) (77 + 2 * i) S → V C l k_Qy_init (d, 44, 250) (PR (fun v S' I' J' => v = none ∧ PS 121 119 S' ∧ I' = mA 0 [((2, 0), 1)] ∧ J' = mA 0 [])) 23 [(1, .int x), (0, .ref 76)] [] S (mA 0 [((2, 0), 1)]) (mA 0 []) (2 + 2 * i, 61 + 9 * i) := by
  intro k
  induction k with
  | zero => intro i S x _ h1 h2; omega
  | succ k ih =>
    intro i S x ex h1 h2 h
    refine v_iload_n 0 d_Qy_init_23 rfl rfl rfl ?_
    refine v_bipush (v := 21) d_Qy_init_24 (by decide) rfl ?_
    refine v_icmp_ge (tgt := 48) d_Qy_init_26 (by decide) rfl (fun c1 => ?_) (fun c1 => ?_)
    · have hi : i = 21 := by rcases Nat.lt_or_ge i 21 with h9 | h9; exact absurd c1 (by rw [ex]; exact nI_ge (b := 21) h9 (by omega)); omega
      subst hi
      refine v_vret d_Qy_init_48 rfl ?_
      exact ⟨rfl, h, rfl, rfl⟩
    · have hi : i < 21 := by rcases Nat.lt_or_ge i 21 with h9 | h9; exact h9; exact absurd (by rw [ex]; exact nI_le (a := 21) h9 (by omega)) c1
      refine v_aload_n 1 d_Qy_init_29 rfl rfl rfl ?_
      refine v_getr (r := 78) d_Qy_init_30 fl_Qy_17 (h.o (by omega) (by decide +kernel)) rfl (h.r (by omega) (g_Qy_init_r i hi) (by decide +kernel)) rfl ?_
      refine v_iload_n 0 d_Qy_init_33 rfl rfl rfl ?_
      refine v_new (ci := 5) (N := 5) d_Qy_init_34 (by decide) wl_Qy_15 wn_Tm wi_Tm ⟨by show 2 + 2 * i + 1 ≤ 44; omega, by show 61 + 9 * i + 5 ≤ 250; omega⟩ rfl ?_
      rw [h.1, mA_zf (α := Int32) (by intro p hp; have := List.mem_singleton.mp hp; subst this; show 2 < _; omega), mA_zf (α := Int64) (by intro p hp; cases hp)]
      have h3 : PS (80 + 2 * i) (77 + 2 * i) (ad1 S (5, 0)) := by have h9 := h.al (k := (5, 0)) (g_Qy_init_n i hi) (g_Qy_init_a i hi); rw [show (79 + 2 * i) + 1 = (80 + 2 * i) by omega] at h9; exact h9
      generalize ad1 S (5, 0) = S3 at h3 ⊢
      refine v_dup d_Qy_init_37 rfl rfl ?_
      refine v_callI (as := []) d_Qy_init_38 cs_Qy_21 (c_Tm_init hC (d := d - 1) hi h3 (by omega)) rfl rfl (by simp [Value.category]) (by show (d - 1) + 1 ≤ d; omega) ⟨by show 2 + 2 * i + 1 + 1 ≤ 44; omega, by show 61 + 9 * i + 5 + 4 ≤ 250; omega⟩ rfl (fun v9 S9 I9 J9 hP => ?_) (fun _ _ _ _ _ hP => False.elim hP)
      obtain ⟨rfl, h4, rfl, rfl⟩ := hP
      generalize S9 = S4 at h4 ⊢
      refine v_aast (t := 36) (n := 21) (j := i) (ci := 5) d_Qy_init_41 (h4.a (by omega) (by decide +kernel)) (by decide) (h4.o (by omega) (by rw [g_Qy_init_n i hi])) (by decide) rfl ex hi (by decide) rfl ?_
      have h5 : PS (79 + 2 * (i + 1)) (77 + 2 * (i + 1)) (S4.1, S4.2.1, u2 S4.2.2 78 i (some (79 + 2 * i))) := by have h9 := h4.st (g_Qy_init_s i hi).1 (g_Qy_init_s i hi).2; rw [show (81 + 2 * i) = 79 + 2 * (i + 1) by omega, show (78 + 2 * i) + 1 = 77 + 2 * (i + 1) by omega] at h9; exact h9
      generalize ((S4.1, S4.2.1, u2 S4.2.2 78 i (some (79 + 2 * i))) : ShT) = S5 at h5 ⊢
      obtain ⟨x2, ex2⟩ : ∃ y9 : Int32, y9 = x + 1 := ⟨_, rfl⟩
      refine v_iinc (n := 0) (v := x2) (L' := [(1, .int x2), (0, .ref 76)]) d_Qy_init_42 rfl (by rw [ex2]; rfl) (by decide) rfl rfl ?_
      refine v_goto (tgt := 23) d_Qy_init_45 (by decide) ?_
      refine v_ue (u' := (2 + 2 * (i + 1), 61 + 9 * (i + 1))) (Prod.ext (by show 2 + 2 * i + 1 + 1 = _; omega) (by show 61 + 9 * i + 5 + 4 = _; omega)) ?_
      exact ih (i + 1) S5 x2 (by rw [ex2, ex]; exact nI_1 i) (by omega) (by omega) h5
set_option maxHeartbeats 4000000 in
set_option maxRecDepth 100000 in
theorem c_Qy_init {C : CT} {l : Launch} {S : ShT} {d : Nat} (hC : OKC C l) (h : PS 77 75 S) (hd : 2 ≤ d) : Sp C l k_Qy_init y_Qy_init (d, 44, 250) [.ref 76] S (mA 0 [((2, 0), 1)]) (mA 0 []) (PR (fun v S' I' J' => v = none ∧ PS 121 119 S' ∧ I' = mA 0 [((2, 0), 1)] ∧ J' = mA 0 [])) := by
  refine Sp.of hC cd_Qy_init (Nat.le_of_ble_eq_true rfl) ?_
  show V C l k_Qy_init (d, 44, 250) _ 0 [(0, .ref 76)] [] S (mA 0 [((2, 0), 1)]) (mA 0 []) (0, 0)
  refine v_aload_n 0 d_Qy_init_0 rfl rfl rfl ?_
  refine v_obj d_Qy_init_1 wo_Qy wo1 wo2 (by show 1 ≤ d; omega) (by decide) rfl ?_
  refine v_aload_n 0 d_Qy_init_4 rfl rfl rfl ?_
  refine v_bipush (v := 40) d_Qy_init_5 (by decide) rfl ?_
  refine v_newa (t := 32) (N := 40) d_Qy_init_7 (Or.inl ⟨rfl, rfl⟩) wa_int rfl (by decide) ⟨Nat.le_of_ble_eq_true rfl, Nat.le_of_ble_eq_true rfl⟩ rfl ?_
  rw [h.1, mA_zf (α := Int32) (by decide), mA_zf (α := Int64) (by intro p hp; cases hp)]
  have h1 : PS 78 75 (ad1 S (32, 40)) := by have h9 := h.al (k := (32, 40)) (by decide) (by decide +kernel); exact h9
  generalize ad1 S (32, 40) = S1 at h1 ⊢
  refine v_ue (u' := (1, 40)) rfl ?_
  refine v_putF d_Qy_init_9 fl_Qy_9 (h1.o (by omega) (by decide +kernel)) rfl rfl rfl rfl rfl ?_
  have h2 : PS 78 76 (S1.1, S1.2.1, u2 S1.2.2 76 0 (some 77)) := by have h9 := h1.st (a := 76) (j := 0) (r := 77) (by decide +kernel) (by decide +kernel); exact h9
  generalize ((S1.1, S1.2.1, u2 S1.2.2 76 0 (some 77)) : ShT) = S2 at h2 ⊢
  refine v_aload_n 0 d_Qy_init_12 rfl rfl rfl ?_
  refine v_bipush (v := 21) d_Qy_init_13 (by decide) rfl ?_
  refine v_anew (t := 36) (N := 21) (ci := 5) d_Qy_init_15 (by decide) rfl wl_Qy_15 wv_Tm rfl (by decide) ⟨Nat.le_of_ble_eq_true rfl, Nat.le_of_ble_eq_true rfl⟩ rfl ?_
  rw [h2.1, mA_zf (α := Int32) (by decide), mA_zf (α := Int64) (by intro p hp; cases hp)]
  have h3 : PS 79 76 (ad1 S2 (36, 21)) := by have h9 := h2.al (k := (36, 21)) (by decide) (by decide +kernel); exact h9
  generalize ad1 S2 (36, 21) = S3 at h3 ⊢
  refine v_ue (u' := (2, 61)) rfl ?_
  clear h2
  refine v_putF d_Qy_init_18 fl_Qy_17 (h3.o (by omega) (by decide +kernel)) rfl rfl rfl rfl rfl ?_
  have h4 : PS 79 77 (S3.1, S3.2.1, u2 S3.2.2 76 2 (some 78)) := by have h9 := h3.st (a := 76) (j := 2) (r := 78) (by decide +kernel) (by decide +kernel); exact h9
  generalize ((S3.1, S3.2.1, u2 S3.2.2 76 2 (some 78)) : ShT) = S4 at h4 ⊢
  refine v_iconst (v := 0) d_Qy_init_21 (by decide) rfl ?_
  refine v_istore_n (L' := [(1, .int 0), (0, .ref 76)]) d_Qy_init_22 rfl (by decide) rfl rfl ?_
  exact lp_Qy_init hC hd 22 0 S4 0 nI_0.symm (by omega) (by omega) h4
