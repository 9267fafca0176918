theorem k_En_init_0 : ∀ i, i < 16 → kd0 (29 + 3 * i) = (34, 30) := by decide +kernel
theorem a_En_init_0 : ∀ i, i < 16 → (setL.take (26 + 3 * i)).all (fun p => !decide (p.1 = 29 + 3 * i)) = true := by decide +kernel
theorem s_En_init_0 : ∀ i, i < 16 → setL[26 + 3 * i]? = some ((28 + 3 * i), 0) ∧ rf0 (28 + 3 * i) 0 = some (29 + 3 * i) := by decide +kernel
theorem k_En_init_1 : ∀ i, i < 16 → kd0 (30 + 3 * i) = (32, 30) := by decide +kernel
theorem a_En_init_1 : ∀ i, i < 16 → (setL.take (27 + 3 * i)).all (fun p => !decide (p.1 = 30 + 3 * i)) = true := by decide +kernel
theorem s_En_init_1 : ∀ i, i < 16 → setL[27 + 3 * i]? = some ((28 + 3 * i), 1) ∧ rf0 (28 + 3 * i) 1 = some (30 + 3 * i) := by decide +kernel
theorem o_En_init : ∀ i, i < 16 → (kd0 (28 + 3 * i)).1 = 0 := by decide +kernel
set_option maxHeartbeats 4000000 in
set_option maxRecDepth 100000 in
theorem c_En_init {C : CT} {l : Launch} {S : ShT} {d : Nat} (hC : OKC C l) {i : Nat} (hi : i < 16) (h : PS (29 + 3 * i) (26 + 3 * i) S) (hd : 1 ≤ d) : Sp C l k_En_init y_En_init (d, 2, 60) [.ref (28 + 3 * i)] S (mA 0 [((2, 0), 1)]) (mA 0 []) (PR (fun v S' I' J' => v = none ∧ PS (31 + 3 * i) (28 + 3 * i) S' ∧ I' = mA 0 [((2, 0), 1)] ∧ J' = mA 0 [])) := by
  refine Sp.of hC cd_En_init (Nat.le_of_ble_eq_true rfl) ?_
  show V C l k_En_init (d, 2, 60) _ 0 [(0, .ref (28 + 3 * i))] [] S (mA 0 [((2, 0), 1)]) (mA 0 []) (0, 0)
  refine v_aload_n 0 d_En_init_0 rfl rfl rfl ?_
  refine v_obj d_En_init_1 wo_En wo1 wo2 (by show 1 ≤ d; omega) (by decide) rfl ?_
  refine v_aload_n 0 d_En_init_4 rfl rfl rfl ?_
  refine v_bipush (v := 30) d_En_init_5 (by decide) rfl ?_
  refine v_newa (t := 34) (N := 30) d_En_init_7 (Or.inr (Or.inr ⟨rfl, rfl⟩)) wa_long rfl (by decide) ⟨Nat.le_of_ble_eq_true rfl, Nat.le_of_ble_eq_true rfl⟩ rfl ?_
  rw [h.1, mA_zf (α := Int32) (by intro p hp; have := List.mem_singleton.mp hp; subst this; show 2 < _; omega), mA_zf (α := Int64) (by decide)]
  have h1 : PS (30 + 3 * i) (26 + 3 * i) (ad1 S (34, 30)) := by have h9 := h.al (k := (34, 30)) (k_En_init_0 i hi) (a_En_init_0 i hi); rw [show (29 + 3 * i) + 1 = (30 + 3 * i) by omega] at h9; exact h9
  generalize ad1 S (34, 30) = S1 at h1 ⊢
  refine v_putF d_En_init_9 fl_En_11 (h1.o (by omega) (o_En_init i hi)) rfl rfl rfl rfl rfl ?_
  have h2 : PS (30 + 3 * i) (27 + 3 * i) (S1.1, S1.2.1, u2 S1.2.2 (28 + 3 * i) 0 (some (29 + 3 * i))) := by have h9 := h1.st (s_En_init_0 i hi).1 (s_En_init_0 i hi).2; rw [show (26 + 3 * i) + 1 = (27 + 3 * i) by omega] at h9; exact h9
  generalize ((S1.1, S1.2.1, u2 S1.2.2 (28 + 3 * i) 0 (some (29 + 3 * i))) : ShT) = S2 at h2 ⊢
  refine v_aload_n 0 d_En_init_12 rfl rfl rfl ?_
  refine v_bipush (v := 30) d_En_init_13 (by decide) rfl ?_
  refine v_newa (t := 32) (N := 30) d_En_init_15 (Or.inl ⟨rfl, rfl⟩) wa_int rfl (by decide) ⟨Nat.le_of_ble_eq_true rfl, Nat.le_of_ble_eq_true rfl⟩ rfl ?_
  rw [h2.1, mA_zf (α := Int32) (by intro p hp; have := List.mem_singleton.mp hp; subst this; show 2 < _; omega), mA_zf (α := Int64) (by decide)]
  have h3 : PS (31 + 3 * i) (27 + 3 * i) (ad1 S2 (32, 30)) := by have h9 := h2.al (k := (32, 30)) (k_En_init_1 i hi) (a_En_init_1 i hi); rw [show (30 + 3 * i) + 1 = (31 + 3 * i) by omega] at h9; exact h9
  generalize ad1 S2 (32, 30) = S3 at h3 ⊢
  refine v_putF d_En_init_17 fl_En_15 (h3.o (by omega) (o_En_init i hi)) rfl rfl rfl rfl rfl ?_
  have h4 : PS (31 + 3 * i) (28 + 3 * i) (S3.1, S3.2.1, u2 S3.2.2 (28 + 3 * i) 1 (some (30 + 3 * i))) := by have h9 := h3.st (s_En_init_1 i hi).1 (s_En_init_1 i hi).2; rw [show (27 + 3 * i) + 1 = (28 + 3 * i) by omega] at h9; exact h9
  generalize ((S3.1, S3.2.1, u2 S3.2.2 (28 + 3 * i) 1 (some (30 + 3 * i))) : ShT) = S4 at h4 ⊢
  refine v_vret d_En_init_20 rfl ?_
  exact ⟨rfl, h4, rfl, rfl⟩
theorem k_Tm_init_0 : ∀ i, i < 21 → kd0 (80 + 2 * i) = (34, 4) := by decide +kernel
theorem a_Tm_init_0 : ∀ i, i < 21 → (setL.take (77 + 2 * i)).all (fun p => !decide (p.1 = 80 + 2 * i)) = true := by decide +kernel
theorem s_Tm_init_0 : ∀ i, i < 21 → setL[77 + 2 * i]? = some ((79 + 2 * i), 0) ∧ rf0 (79 + 2 * i) 0 = some (80 + 2 * i) := by decide +kernel
theorem o_Tm_init : ∀ i, i < 21 → (kd0 (79 + 2 * i)).1 = 5 := by decide +kernel
set_option maxHeartbeats 4000000 in
set_option maxRecDepth 100000 in
theorem c_Tm_init {C : CT} {l : Launch} {S : ShT} {d : Nat} (hC : OKC C l) {i : Nat} (hi : i < 21) (h : PS (80 + 2 * i) (77 + 2 * i) S) (hd : 1 ≤ d) : Sp C l k_Tm_init y_Tm_init (d, 1, 4) [.ref (79 + 2 * i)] S (mA 0 [((2, 0), 1)]) (mA 0 []) (PR (fun v S' I' J' => v = none ∧ PS (81 + 2 * i) (78 + 2 * i) S' ∧ I' = mA 0 [((2, 0), 1)] ∧ J' = mA 0 [])) := by
  refine Sp.of hC cd_Tm_init (Nat.le_of_ble_eq_true rfl) ?_
  show V C l k_Tm_init (d, 1, 4) _ 0 [(0, .ref (79 + 2 * i))] [] S (mA 0 [((2, 0), 1)]) (mA 0 []) (0, 0)
  refine v_aload_n 0 d_Tm_init_0 rfl rfl rfl ?_
  refine v_obj d_Tm_init_1 wo_Tm wo1 wo2 (by show 1 ≤ d; omega) (by decide) rfl ?_
  refine v_aload_n 0 d_Tm_init_4 rfl rfl rfl ?_
  refine v_iconst (v := 4) d_Tm_init_5 (by decide) rfl ?_
  refine v_newa (t := 34) (N := 4) d_Tm_init_6 (Or.inr (Or.inr ⟨rfl, rfl⟩)) wa_long rfl (by decide) ⟨Nat.le_of_ble_eq_true rfl, Nat.le_of_ble_eq_true rfl⟩ rfl ?_
  rw [h.1, mA_zf (α := Int32) (by intro p hp; have := List.mem_singleton.mp hp; subst this; show 2 < _; omega), mA_zf (α := Int64) (by decide)]
  have h1 : PS (81 + 2 * i) (77 + 2 * i) (ad1 S (34, 4)) := by have h9 := h.al (k := (34, 4)) (k_Tm_init_0 i hi) (a_Tm_init_0 i hi); rw [show (80 + 2 * i) + 1 = (81 + 2 * i) by omega] at h9; exact h9
  generalize ad1 S (34, 4) = S1 at h1 ⊢
  refine v_putF d_Tm_init_8 fl_Tm_9 (h1.o (by omega) (o_Tm_init i hi)) rfl rfl rfl rfl rfl ?_
  have h2 : PS (81 + 2 * i) (78 + 2 * i) (S1.1, S1.2.1, u2 S1.2.2 (79 + 2 * i) 0 (some (80 + 2 * i))) := by have h9 := h1.st (s_Tm_init_0 i hi).1 (s_Tm_init_0 i hi).2; rw [show (77 + 2 * i) + 1 = (78 + 2 * i) by omega] at h9; exact h9
  generalize ((S1.1, S1.2.1, u2 S1.2.2 (79 + 2 * i) 0 (some (80 + 2 * i))) : ShT) = S2 at h2 ⊢
  refine v_vret d_Tm_init_11 rfl ?_
  exact ⟨rfl, h2, rfl, rfl⟩
set_option maxHeartbeats 4000000 in
set_option maxRecDepth 100000 in
theorem c_Tr_init {C : CT} {l : Launch} {S : ShT} {d : Nat} (hC : OKC C l) (h : PS 2 0 S) (hd : 1 ≤ d) : Sp C l k_Tr_init y_Tr_init (d, 20, 1024) [.ref 1] S (mA 0 []) (mA 0 []) (PR (fun v S' I' J' => v = none ∧ PS 22 20 S' ∧ I' = mA 0 [((2, 0), 1)] ∧ J' = mA 0 [])) := by
  refine Sp.of hC cd_Tr_init (Nat.le_of_ble_eq_true rfl) ?_
  show V C l k_Tr_init (d, 20, 1024) _ 0 [(0, .ref 1)] [] S (mA 0 []) (mA 0 []) (0, 0)
  refine v_aload_n 0 d_Tr_init_0 rfl rfl rfl ?_
  refine v_obj d_Tr_init_1 wo_Tr wo1 wo2 (by show 1 ≤ d; omega) (by decide) rfl ?_
  refine v_aload_n 0 d_Tr_init_4 rfl rfl rfl ?_
  refine v_bipush (v := 16) d_Tr_init_5 (by decide) rfl ?_
  refine v_newa (t := 32) (N := 16) d_Tr_init_7 (Or.inl ⟨rfl, rfl⟩) wa_int rfl (by decide) ⟨Nat.le_of_ble_eq_true rfl, Nat.le_of_ble_eq_true rfl⟩ rfl ?_
  rw [h.1, mA_zf (α := Int32) (by decide), mA_zf (α := Int64) (by decide)]
  have h1 : PS 3 0 (ad1 S (32, 16)) := by have h9 := h.al (k := (32, 16)) (by decide) (by decide +kernel); exact h9
  generalize ad1 S (32, 16) = S1 at h1 ⊢
  refine v_putF d_Tr_init_9 fl_Tr_9 (h1.o (by omega) (by decide +kernel)) rfl rfl rfl rfl rfl ?_
  have h2 : PS 3 1 (S1.1, S1.2.1, u2 S1.2.2 1 0 (some 2)) := by have h9 := h1.st (by decide +kernel) (by decide +kernel); exact h9
  generalize ((S1.1, S1.2.1, u2 S1.2.2 1 0 (some 2)) : ShT) = S2 at h2 ⊢
  refine v_aload_n 0 d_Tr_init_12 rfl rfl rfl ?_
  refine v_bipush (v := 16) d_Tr_init_13 (by decide) rfl ?_
  refine v_newa (t := 32) (N := 16) d_Tr_init_15 (Or.inl ⟨rfl, rfl⟩) wa_int rfl (by decide) ⟨Nat.le_of_ble_eq_true rfl, Nat.le_of_ble_eq_true rfl⟩ rfl ?_
  rw [h2.1, mA_zf (α := Int32) (by decide), mA_zf (α := Int64) (by decide)]
  have h3 : PS 4 1 (ad1 S2 (32, 16)) := by have h9 := h2.al (k := (32, 16)) (by decide) (by decide +kernel); exact h9
  generalize ad1 S2 (32, 16) = S3 at h3 ⊢
  refine v_putF d_Tr_init_17 fl_Tr_15 (h3.o (by omega) (by decide +kernel)) rfl rfl rfl rfl rfl ?_
  have h4 : PS 4 2 (S3.1, S3.2.1, u2 S3.2.2 1 1 (some 3)) := by have h9 := h3.st (by decide +kernel) (by decide +kernel); exact h9
  generalize ((S3.1, S3.2.1, u2 S3.2.2 1 1 (some 3)) : ShT) = S4 at h4 ⊢
  refine v_aload_n 0 d_Tr_init_20 rfl rfl rfl ?_
  refine v_bipush (v := 16) d_Tr_init_21 (by decide) rfl ?_
  refine v_bipush (v := 60) d_Tr_init_23 (by decide) rfl ?_
  refine v_mna (N := 16) (M := 60) d_Tr_init_25 wl_Tr_18 wv_a wa_int rfl rfl (by decide) (by decide) ⟨Nat.le_of_ble_eq_true rfl, Nat.le_of_ble_eq_true rfl⟩ rfl ?_
  rw [h4.1, mA_zf (α := Int32) (by decide), mA_zf (α := Int64) (by decide)]
  have h5 := h4.al2 rfl
  generalize ad2 S4 16 60 = S5 at h5 ⊢
  refine v_putF d_Tr_init_29 fl_Tr_20 (h5.o (by omega) (by decide +kernel)) rfl rfl rfl rfl rfl ?_
  have h6 : PS 21 19 (S5.1, S5.2.1, u2 S5.2.2 1 2 (some 4)) := by have h9 := h5.st (by decide +kernel) (by decide +kernel); exact h9
  generalize ((S5.1, S5.2.1, u2 S5.2.2 1 2 (some 4)) : ShT) = S6 at h6 ⊢
  refine v_aload_n 0 d_Tr_init_32 rfl rfl rfl ?_
  refine v_bipush (v := 16) d_Tr_init_33 (by decide) rfl ?_
  refine v_newa (t := 32) (N := 16) d_Tr_init_35 (Or.inl ⟨rfl, rfl⟩) wa_int rfl (by decide) ⟨Nat.le_of_ble_eq_true rfl, Nat.le_of_ble_eq_true rfl⟩ rfl ?_
  rw [h6.1, mA_zf (α := Int32) (by decide), mA_zf (α := Int64) (by decide)]
  have h7 : PS 22 19 (ad1 S6 (32, 16)) := by have h9 := h6.al (k := (32, 16)) (by decide) (by decide +kernel); exact h9
  generalize ad1 S6 (32, 16) = S7 at h7 ⊢
  refine v_putF d_Tr_init_37 fl_Tr_23 (h7.o (by omega) (by decide +kernel)) rfl rfl rfl rfl rfl ?_
  have h8 : PS 22 20 (S7.1, S7.2.1, u2 S7.2.2 1 3 (some 21)) := by have h9 := h7.st (by decide +kernel) (by decide +kernel); exact h9
  generalize ((S7.1, S7.2.1, u2 S7.2.2 1 3 (some 21)) : ShT) = S8 at h8 ⊢
  refine v_aload_n 0 d_Tr_init_40 rfl rfl rfl ?_
  refine v_getr (r := 2) d_Tr_init_41 fl_Tr_9 (h8.o (by omega) (by decide +kernel)) rfl (h8.r (by omega) (by decide +kernel) (by decide +kernel)) rfl ?_
  refine v_iconst (v := 0) d_Tr_init_44 (by decide) rfl ?_
  refine v_iconst (v := 1) d_Tr_init_45 (by decide) rfl ?_
  refine v_iast (j := 0) d_Tr_init_46 (h8.a (by omega) (by decide +kernel)) rfl (by decide) (by decide) rfl ?_
  rw [mA_st]
  refine v_vret d_Tr_init_47 rfl ?_
  exact ⟨rfl, h8, rfl, rfl⟩
set_option maxHeartbeats 4000000 in
set_option maxRecDepth 100000 in
theorem c_Qu_init {C : CT} {l : Launch} {S : ShT} {d : Nat} (hC : OKC C l) (h : PS 23 21 S) (hd : 1 ≤ d) : Sp C l k_Qu_init y_Qu_init (d, 2, 16) [.ref 22] S (mA 0 [((2, 0), 1)]) (mA 0 []) (PR (fun v S' I' J' => v = none ∧ PS 25 23 S' ∧ I' = mA 0 [((2, 0), 1)] ∧ J' = mA 0 [])) := by
  refine Sp.of hC cd_Qu_init (Nat.le_of_ble_eq_true rfl) ?_
  show V C l k_Qu_init (d, 2, 16) _ 0 [(0, .ref 22)] [] S (mA 0 [((2, 0), 1)]) (mA 0 []) (0, 0)
  refine v_aload_n 0 d_Qu_init_0 rfl rfl rfl ?_
  refine v_obj d_Qu_init_1 wo_Qu wo1 wo2 (by show 1 ≤ d; omega) (by decide) rfl ?_
  refine v_aload_n 0 d_Qu_init_4 rfl rfl rfl ?_
  refine v_bipush (v := 8) d_Qu_init_5 (by decide) rfl ?_
  refine v_newa (t := 32) (N := 8) d_Qu_init_7 (Or.inl ⟨rfl, rfl⟩) wa_int rfl (by decide) ⟨Nat.le_of_ble_eq_true rfl, Nat.le_of_ble_eq_true rfl⟩ rfl ?_
  rw [h.1, mA_zf (α := Int32) (by decide), mA_zf (α := Int64) (by decide)]
  have h1 : PS 24 21 (ad1 S (32, 8)) := by have h9 := h.al (k := (32, 8)) (by decide) (by decide +kernel); exact h9
  generalize ad1 S (32, 8) = S1 at h1 ⊢
  refine v_putF d_Qu_init_9 fl_Qu_9 (h1.o (by omega) (by decide +kernel)) rfl rfl rfl rfl rfl ?_
  have h2 : PS 24 22 (S1.1, S1.2.1, u2 S1.2.2 22 0 (some 23)) := by have h9 := h1.st (by decide +kernel) (by decide +kernel); exact h9
  generalize ((S1.1, S1.2.1, u2 S1.2.2 22 0 (some 23)) : ShT) = S2 at h2 ⊢
  refine v_aload_n 0 d_Qu_init_12 rfl rfl rfl ?_
  refine v_bipush (v := 8) d_Qu_init_13 (by decide) rfl ?_
  refine v_newa (t := 32) (N := 8) d_Qu_init_15 (Or.inl ⟨rfl, rfl⟩) wa_int rfl (by decide) ⟨Nat.le_of_ble_eq_true rfl, Nat.le_of_ble_eq_true rfl⟩ rfl ?_
  rw [h2.1, mA_zf (α := Int32) (by decide), mA_zf (α := Int64) (by decide)]
  have h3 : PS 25 22 (ad1 S2 (32, 8)) := by have h9 := h2.al (k := (32, 8)) (by decide) (by decide +kernel); exact h9
  generalize ad1 S2 (32, 8) = S3 at h3 ⊢
  refine v_putF d_Qu_init_17 fl_Qu_15 (h3.o (by omega) (by decide +kernel)) rfl rfl rfl rfl rfl ?_
  have h4 : PS 25 23 (S3.1, S3.2.1, u2 S3.2.2 22 1 (some 24)) := by have h9 := h3.st (by decide +kernel) (by decide +kernel); exact h9
  generalize ((S3.1, S3.2.1, u2 S3.2.2 22 1 (some 24)) : ShT) = S4 at h4 ⊢
  refine v_vret d_Qu_init_20 rfl ?_
  exact ⟨rfl, h4, rfl, rfl⟩
set_option maxHeartbeats 4000000 in
set_option maxRecDepth 100000 in
theorem c_Rk_init {C : CT} {l : Launch} {S : ShT} {d : Nat} (hC : OKC C l) (h : PS 122 120 S) (hd : 1 ≤ d) : Sp C l k_Rk_init y_Rk_init (d, 2, 32) [.ref 121] S (mA 0 [((2, 0), 1)]) (mA 0 []) (PR (fun v S' I' J' => v = none ∧ PS 124 122 S' ∧ I' = mA 0 [((2, 0), 1)] ∧ J' = mA 0 [])) := by
  refine Sp.of hC cd_Rk_init (Nat.le_of_ble_eq_true rfl) ?_
  show V C l k_Rk_init (d, 2, 32) _ 0 [(0, .ref 121)] [] S (mA 0 [((2, 0), 1)]) (mA 0 []) (0, 0)
  refine v_aload_n 0 d_Rk_init_0 rfl rfl rfl ?_
  refine v_obj d_Rk_init_1 wo_Rk wo1 wo2 (by show 1 ≤ d; omega) (by decide) rfl ?_
  refine v_aload_n 0 d_Rk_init_4 rfl rfl rfl ?_
  refine v_bipush (v := 16) d_Rk_init_5 (by decide) rfl ?_
  refine v_newa (t := 32) (N := 16) d_Rk_init_7 (Or.inl ⟨rfl, rfl⟩) wa_int rfl (by decide) ⟨Nat.le_of_ble_eq_true rfl, Nat.le_of_ble_eq_true rfl⟩ rfl ?_
  rw [h.1, mA_zf (α := Int32) (by decide), mA_zf (α := Int64) (by decide)]
  have h1 : PS 123 120 (ad1 S (32, 16)) := by have h9 := h.al (k := (32, 16)) (by decide) (by decide +kernel); exact h9
  generalize ad1 S (32, 16) = S1 at h1 ⊢
  refine v_putF d_Rk_init_9 fl_Rk_9 (h1.o (by omega) (by decide +kernel)) rfl rfl rfl rfl rfl ?_
  have h2 : PS 123 121 (S1.1, S1.2.1, u2 S1.2.2 121 0 (some 122)) := by have h9 := h1.st (by decide +kernel) (by decide +kernel); exact h9
  generalize ((S1.1, S1.2.1, u2 S1.2.2 121 0 (some 122)) : ShT) = S2 at h2 ⊢
  refine v_aload_n 0 d_Rk_init_12 rfl rfl rfl ?_
  refine v_bipush (v := 16) d_Rk_init_13 (by decide) rfl ?_
  refine v_newa (t := 32) (N := 16) d_Rk_init_15 (Or.inl ⟨rfl, rfl⟩) wa_int rfl (by decide) ⟨Nat.le_of_ble_eq_true rfl, Nat.le_of_ble_eq_true rfl⟩ rfl ?_
  rw [h2.1, mA_zf (α := Int32) (by decide), mA_zf (α := Int64) (by decide)]
  have h3 : PS 124 121 (ad1 S2 (32, 16)) := by have h9 := h2.al (k := (32, 16)) (by decide) (by decide +kernel); exact h9
  generalize ad1 S2 (32, 16) = S3 at h3 ⊢
  refine v_putF d_Rk_init_17 fl_Rk_15 (h3.o (by omega) (by decide +kernel)) rfl rfl rfl rfl rfl ?_
  have h4 : PS 124 122 (S3.1, S3.2.1, u2 S3.2.2 121 1 (some 123)) := by have h9 := h3.st (by decide +kernel) (by decide +kernel); exact h9
  generalize ((S3.1, S3.2.1, u2 S3.2.2 121 1 (some 123)) : ShT) = S4 at h4 ⊢
  refine v_vret d_Rk_init_20 rfl ?_
  exact ⟨rfl, h4, rfl, rfl⟩
theorem v_ue {C : CT} {l : Launch} {K : KT} {R : RT} {Po : PoT} {pc : Nat} {L : LT} {st : List Value} {S : ShT} {I : DI} {J : DJ} {u u' : Nat × Nat} (h : u = u') (k : V C l K R Po pc L st S I J u') : V C l K R Po pc L st S I J u := h ▸ k
theorem g_Ix_init_n : ∀ i, i < 16 → kd0 (28 + 3 * i) = (0, 0) := by decide +kernel
theorem g_Ix_init_a : ∀ i, i < 16 → (setL.take (26 + 3 * i)).all (fun p => !decide (p.1 = 28 + 3 * i)) = true := by decide +kernel
theorem g_Ix_init_s : ∀ i, i < 16 → setL[28 + 3 * i]? = some (26, i) ∧ rf0 26 i = some (28 + 3 * i) := by decide +kernel
set_option maxHeartbeats 4000000 in
set_option maxRecDepth 100000 in
theorem lp_Ix_init {C : CT} {l : Launch} {d : Nat} (hC : OKC C l) (hd : 2 ≤ d) : ∀ (k i : Nat) (S : ShT) (x : Int32), x = nI i → i ≤ 16 → 16 < i + k → PS (28 + 3 * i) (26 + 3 * i) S → V C l k_Ix_init (d, 50, 1040) (PR (fun v S' I' J' => v = none ∧ PS 76 74 S' ∧ I' = mA 0 [((2, 0), 1)] ∧ J' = mA 0 [])) 23 [(1, .int x), (0, .ref 25)] [] S (mA 0 [((2, 0), 1)]) (mA 0 []) (2 + 3 * i, 32 + 63 * i) := by
  intro k
  induction k with
  | zero => intro i S x _ h1 h2; omega
  | succ k ih =>
    intro i S x ex h1 h2 h
    refine v_iload_n 0 d_Ix_init_23 rfl rfl rfl ?_
    refine v_bipush (v := 16) d_Ix_init_24 (by decide) rfl ?_
    refine v_icmp_ge (tgt := 48) d_Ix_init_26 (by decide) rfl (fun c1 => ?_) (fun c1 => ?_)
    · have hi : i = 16 := by rcases Nat.lt_or_ge i 16 with h9 | h9; exact absurd c1 (by rw [ex]; exact nI_ge (b := 16) h9 (by omega)); omega
      subst hi
      refine v_vret d_Ix_init_48 rfl ?_
      exact ⟨rfl, h, rfl, rfl⟩
    · have hi : i < 16 := by rcases Nat.lt_or_ge i 16 with h9 | h9; exact h9; exact absurd (by rw [ex]; exact nI_le (a := 16) h9 (by omega)) c1
      refine v_aload_n 1 d_Ix_init_29 rfl rfl rfl ?_
      refine v_getr (r := 26) d_Ix_init_30 fl_Ix_11 (h.o (by omega) (by decide +kernel)) rfl (h.r (by omega) (List.mem_take_iff_getElem.mpr ⟨24, by rw [show setL.length = 146 by decide]; omega, by decide +kernel⟩) (by decide +kernel)) rfl ?_
      refine v_iload_n 0 d_Ix_init_33 rfl rfl rfl ?_
      refine v_new (ci := 0) (N := 3) d_Ix_init_34 (by decide) wl_Ix_9 wn_En wi_En ⟨by show 2 + 3 * i + 1 ≤ 50; omega, by show 32 + 63 * i + 3 ≤ 1040; omega⟩ rfl ?_
      rw [h.1, mA_zf (α := Int32) (by intro p hp; have := List.mem_singleton.mp hp; subst this; show 2 < _; omega), mA_zf (α := Int64) (by decide)]
      have h3 : PS (29 + 3 * i) (26 + 3 * i) (ad1 S (0, 0)) := by have h9 := h.al (k := (0, 0)) (g_Ix_init_n i hi) (g_Ix_init_a i hi); rw [show (28 + 3 * i) + 1 = (29 + 3 * i) by omega] at h9; exact h9
      generalize ad1 S (0, 0) = S3 at h3 ⊢
      refine v_dup d_Ix_init_37 rfl rfl ?_
      refine v_callI (as := []) d_Ix_init_38 cs_Ix_21 (c_En_init hC (d := d - 1) hi h3 (by omega)) rfl rfl (by decide) (by show (d - 1) + 1 ≤ d; omega) ⟨by show 2 + 3 * i + 1 + 2 ≤ 50; omega, by show 32 + 63 * i + 3 + 60 ≤ 1040; omega⟩ rfl (fun v9 S9 I9 J9 hP => ?_) (fun _ _ _ _ _ hP => False.elim hP)
      obtain ⟨rfl, h4, rfl, rfl⟩ := hP
      generalize S9 = S4 at h4 ⊢
      refine v_aast (t := 35) (n := 16) (j := i) (ci := 0) d_Ix_init_41 (h4.a (by omega) (by decide +kernel)) (by decide) (h4.o (by omega) (by rw [g_Ix_init_n i hi])) (by decide) rfl ex hi (by decide) rfl ?_
      have h5 : PS (28 + 3 * (i + 1)) (26 + 3 * (i + 1)) (S4.1, S4.2.1, u2 S4.2.2 26 i (some (28 + 3 * i))) := by have h9 := h4.st (g_Ix_init_s i hi).1 (g_Ix_init_s i hi).2; rw [show (31 + 3 * i) = 28 + 3 * (i + 1) by omega, show (28 + 3 * i) + 1 = 26 + 3 * (i + 1) by omega] at h9; exact h9
      generalize ((S4.1, S4.2.1, u2 S4.2.2 26 i (some (28 + 3 * i))) : ShT) = S5 at h5 ⊢
      obtain ⟨x2, ex2⟩ : ∃ y9 : Int32, y9 = x + 1 := ⟨_, rfl⟩
      refine v_iinc (n := 0) (v := x2) (L' := [(1, .int x2), (0, .ref 25)]) d_Ix_init_42 rfl (by rw [ex2]; rfl) (by decide) rfl rfl ?_
      refine v_goto (tgt := 23) d_Ix_init_45 (by decide) ?_
      refine v_ue (u' := (2 + 3 * (i + 1), 32 + 63 * (i + 1))) (Prod.ext (by show 2 + 3 * i + 1 + 2 = _; omega) (by show 32 + 63 * i + 3 + 60 = _; omega)) ?_
      exact ih (i + 1) S5 x2 (by rw [ex2, ex]; exact nI_1 i) (by omega) (by omega) h5
set_option maxHeartbeats 4000000 in
set_option maxRecDepth 100000 in
theorem c_Ix_init {C : CT} {l : Launch} {S : ShT} {d : Nat} (hC : OKC C l) (h : PS 26 24 S) (hd : 2 ≤ d) : Sp C l k_Ix_init y_Ix_init (d, 50, 1040) [.ref 25] S (mA 0 [((2, 0), 1)]) (mA 0 []) (PR (fun v S' I' J' => v = none ∧ PS 76 74 S' ∧ I' = mA 0 [((2, 0), 1)] ∧ J' = mA 0 [])) := by
  refine Sp.of hC cd_Ix_init (Nat.le_of_ble_eq_true rfl) ?_
  show V C l k_Ix_init (d, 50, 1040) _ 0 [(0, .ref 25)] [] S (mA 0 [((2, 0), 1)]) (mA 0 []) (0, 0)
  refine v_aload_n 0 d_Ix_init_0 rfl rfl rfl ?_
  refine v_obj d_Ix_init_1 wo_Ix wo1 wo2 (by show 1 ≤ d; omega) (by decide) rfl ?_
  refine v_aload_n 0 d_Ix_init_4 rfl rfl rfl ?_
  refine v_bipush (v := 16) d_Ix_init_5 (by decide) rfl ?_
  refine v_anew (t := 35) (N := 16) (ci := 0) d_Ix_init_7 (by decide) rfl wl_Ix_9 wv_En rfl (by decide) ⟨Nat.le_of_ble_eq_true rfl, Nat.le_of_ble_eq_true rfl⟩ rfl ?_
  rw [h.1, mA_zf (α := Int32) (by decide), mA_zf (α := Int64) (by decide)]
  have h1 : PS 27 24 (ad1 S (35, 16)) := by have h9 := h.al (k := (35, 16)) (by decide) (by decide +kernel); exact h9
  generalize ad1 S (35, 16) = S1 at h1 ⊢
  refine v_putF d_Ix_init_10 fl_Ix_11 (h1.o (by omega) (by decide +kernel)) rfl rfl rfl rfl rfl ?_
  have h2 : PS 27 25 (S1.1, S1.2.1, u2 S1.2.2 25 0 (some 26)) := by have h9 := h1.st (by decide +kernel) (by decide +kernel); exact h9
  generalize ((S1.1, S1.2.1, u2 S1.2.2 25 0 (some 26)) : ShT) = S2 at h2 ⊢
  refine v_aload_n 0 d_Ix_init_13 rfl rfl rfl ?_
  refine v_bipush (v := 16) d_Ix_init_14 (by decide) rfl ?_
  refine v_newa (t := 33) (N := 16) d_Ix_init_16 (Or.inr (Or.inl ⟨rfl, rfl⟩)) wa_boolean rfl (by decide) ⟨Nat.le_of_ble_eq_true rfl, Nat.le_of_ble_eq_true rfl⟩ rfl ?_
  rw [h2.1, mA_zf (α := Int32) (by decide), mA_zf (α := Int64) (by decide)]
  have h3 : PS 28 25 (ad1 S2 (33, 16)) := by have h9 := h2.al (k := (33, 16)) (by decide) (by decide +kernel); exact h9
  generalize ad1 S2 (33, 16) = S3 at h3 ⊢
  refine v_putF d_Ix_init_18 fl_Ix_17 (h3.o (by omega) (by decide +kernel)) rfl rfl rfl rfl rfl ?_
  have h4 : PS 28 26 (S3.1, S3.2.1, u2 S3.2.2 25 1 (some 27)) := by have h9 := h3.st (by decide +kernel) (by decide +kernel); exact h9
  generalize ((S3.1, S3.2.1, u2 S3.2.2 25 1 (some 27)) : ShT) = S4 at h4 ⊢
  refine v_iconst (v := 0) d_Ix_init_21 (by decide) rfl ?_
  refine v_istore_n (L' := [(1, .int 0), (0, .ref 25)]) d_Ix_init_22 rfl (by decide) rfl rfl ?_
  exact lp_Ix_init hC hd 17 0 S4 0 nI_0.symm (by omega) (by omega) h4
theorem g_Qy_init_n : ∀ i, i < 21 → kd0 (79 + 2 * i) = (5, 0) := by decide +kernel
theorem g_Qy_init_a : ∀ i, i < 21 → (setL.take (77 + 2 * i)).all (fun p => !decide (p.1 = 79 + 2 * i)) = true := by decide +kernel
theorem g_Qy_init_s : ∀ i, i < 21 → setL[78 + 2 * i]? = some (78, i) ∧ rf0 78 i = some (79 + 2 * i) := by decide +kernel
set_option maxHeartbeats 4000000 in
set_option maxRecDepth 100000 in
theorem lp_Qy_init {C : CT} {l : Launch} {d : Nat} (hC : OKC C l) (hd : 2 ≤ d) : ∀ (k i : Nat) (S : ShT) (x : Int32), x = nI i → i ≤ 21 → 21 < i + k → PS (79 + 2 * i) (77 + 2 * i) S → V C l k_Qy_init (d, 44, 250) (PR (fun v S' I' J' => v = none ∧ PS 121 119 S' ∧ I' = mA 0 [((2, 0), 1)] ∧ J' = mA 0 [])) 23 [(1, .int x), (0, .ref 76)] [] S (mA 0 [((2, 0), 1)]) (mA 0 []) (2 + 2 * i, 61 + 9 * i) := by
  intro k
  induction k with
  | zero => intro i S x _ h1 h2; omega
  | succ k ih =>
    intro i S x ex h1 h2 h
    refine v_iload_n 0 d_Qy_init_23 rfl rfl rfl ?_
    refine v_bipush (v := 21) d_Qy_init_24 (by decide) rfl ?_
    refine v_icmp_ge (tgt := 48) d_Qy_init_26 (by decide) rfl (fun c1 => ?_) (fun c1 => ?_)
    · have hi : i = 21 := by rcases Nat.lt_or_ge i 21 with h9 | h9; exact absurd c1 (by rw [ex]; exact nI_ge (b := 21) h9 (by omega)); omega
      subst hi
      refine v_vret d_Qy_init_48 rfl ?_
      exact ⟨rfl, h, rfl, rfl⟩
    · have hi : i < 21 := by rcases Nat.lt_or_ge i 21 with h9 | h9; exact h9; exact absurd (by rw [ex]; exact nI_le (a := 21) h9 (by omega)) c1
      refine v_aload_n 1 d_Qy_init_29 rfl rfl rfl ?_
      refine v_getr (r := 78) d_Qy_init_30 fl_Qy_17 (h.o (by omega) (by decide +kernel)) rfl (h.r (by omega) (List.mem_take_iff_getElem.mpr ⟨76, by rw [show setL.length = 146 by decide]; omega, by decide +kernel⟩) (by decide +kernel)) rfl ?_
      refine v_iload_n 0 d_Qy_init_33 rfl rfl rfl ?_
      refine v_new (ci := 5) (N := 5) d_Qy_init_34 (by decide) wl_Qy_15 wn_Tm wi_Tm ⟨by show 2 + 2 * i + 1 ≤ 44; omega, by show 61 + 9 * i + 5 ≤ 250; omega⟩ rfl ?_
      rw [h.1, mA_zf (α := Int32) (by intro p hp; have := List.mem_singleton.mp hp; subst this; show 2 < _; omega), mA_zf (α := Int64) (by decide)]
      have h3 : PS (80 + 2 * i) (77 + 2 * i) (ad1 S (5, 0)) := by have h9 := h.al (k := (5, 0)) (g_Qy_init_n i hi) (g_Qy_init_a i hi); rw [show (79 + 2 * i) + 1 = (80 + 2 * i) by omega] at h9; exact h9
      generalize ad1 S (5, 0) = S3 at h3 ⊢
      refine v_dup d_Qy_init_37 rfl rfl ?_
      refine v_callI (as := []) d_Qy_init_38 cs_Qy_21 (c_Tm_init hC (d := d - 1) hi h3 (by omega)) rfl rfl (by decide) (by show (d - 1) + 1 ≤ d; omega) ⟨by show 2 + 2 * i + 1 + 1 ≤ 44; omega, by show 61 + 9 * i + 5 + 4 ≤ 250; omega⟩ rfl (fun v9 S9 I9 J9 hP => ?_) (fun _ _ _ _ _ hP => False.elim hP)
      obtain ⟨rfl, h4, rfl, rfl⟩ := hP
      generalize S9 = S4 at h4 ⊢
      refine v_aast (t := 36) (n := 21) (j := i) (ci := 5) d_Qy_init_41 (h4.a (by omega) (by decide +kernel)) (by decide) (h4.o (by omega) (by rw [g_Qy_init_n i hi])) (by decide) rfl ex hi (by decide) rfl ?_
      have h5 : PS (79 + 2 * (i + 1)) (77 + 2 * (i + 1)) (S4.1, S4.2.1, u2 S4.2.2 78 i (some (79 + 2 * i))) := by have h9 := h4.st (g_Qy_init_s i hi).1 (g_Qy_init_s i hi).2; rw [show (81 + 2 * i) = 79 + 2 * (i + 1) by omega, show (78 + 2 * i) + 1 = 77 + 2 * (i + 1) by omega] at h9; exact h9
      generalize ((S4.1, S4.2.1, u2 S4.2.2 78 i (some (79 + 2 * i))) : ShT) = S5 at h5 ⊢
      obtain ⟨x2, ex2⟩ : ∃ y9 : Int32, y9 = x + 1 := ⟨_, rfl⟩
      refine v_iinc (n := 0) (v := x2) (L' := [(1, .int x2), (0, .ref 76)]) d_Qy_init_42 rfl (by rw [ex2]; rfl) (by decide) rfl rfl ?_
      refine v_goto (tgt := 23) d_Qy_init_45 (by decide) ?_
      refine v_ue (u' := (2 + 2 * (i + 1), 61 + 9 * (i + 1))) (Prod.ext (by show 2 + 2 * i + 1 + 1 = _; omega) (by show 61 + 9 * i + 5 + 4 = _; omega)) ?_
      exact ih (i + 1) S5 x2 (by rw [ex2, ex]; exact nI_1 i) (by omega) (by omega) h5
set_option maxHeartbeats 4000000 in
set_option maxRecDepth 100000 in
theorem c_Qy_init {C : CT} {l : Launch} {S : ShT} {d : Nat} (hC : OKC C l) (h : PS 77 75 S) (hd : 2 ≤ d) : Sp C l k_Qy_init y_Qy_init (d, 44, 250) [.ref 76] S (mA 0 [((2, 0), 1)]) (mA 0 []) (PR (fun v S' I' J' => v = none ∧ PS 121 119 S' ∧ I' = mA 0 [((2, 0), 1)] ∧ J' = mA 0 [])) := by
  refine Sp.of hC cd_Qy_init (Nat.le_of_ble_eq_true rfl) ?_
  show V C l k_Qy_init (d, 44, 250) _ 0 [(0, .ref 76)] [] S (mA 0 [((2, 0), 1)]) (mA 0 []) (0, 0)
  refine v_aload_n 0 d_Qy_init_0 rfl rfl rfl ?_
  refine v_obj d_Qy_init_1 wo_Qy wo1 wo2 (by show 1 ≤ d; omega) (by decide) rfl ?_
  refine v_aload_n 0 d_Qy_init_4 rfl rfl rfl ?_
  refine v_bipush (v := 40) d_Qy_init_5 (by decide) rfl ?_
  refine v_newa (t := 32) (N := 40) d_Qy_init_7 (Or.inl ⟨rfl, rfl⟩) wa_int rfl (by decide) ⟨Nat.le_of_ble_eq_true rfl, Nat.le_of_ble_eq_true rfl⟩ rfl ?_
  rw [h.1, mA_zf (α := Int32) (by decide), mA_zf (α := Int64) (by decide)]
  have h1 : PS 78 75 (ad1 S (32, 40)) := by have h9 := h.al (k := (32, 40)) (by decide) (by decide +kernel); exact h9
  generalize ad1 S (32, 40) = S1 at h1 ⊢
  refine v_putF d_Qy_init_9 fl_Qy_9 (h1.o (by omega) (by decide +kernel)) rfl rfl rfl rfl rfl ?_
  have h2 : PS 78 76 (S1.1, S1.2.1, u2 S1.2.2 76 0 (some 77)) := by have h9 := h1.st (by decide +kernel) (by decide +kernel); exact h9
  generalize ((S1.1, S1.2.1, u2 S1.2.2 76 0 (some 77)) : ShT) = S2 at h2 ⊢
  refine v_aload_n 0 d_Qy_init_12 rfl rfl rfl ?_
  refine v_bipush (v := 21) d_Qy_init_13 (by decide) rfl ?_
  refine v_anew (t := 36) (N := 21) (ci := 5) d_Qy_init_15 (by decide) rfl wl_Qy_15 wv_Tm rfl (by decide) ⟨Nat.le_of_ble_eq_true rfl, Nat.le_of_ble_eq_true rfl⟩ rfl ?_
  rw [h2.1, mA_zf (α := Int32) (by decide), mA_zf (α := Int64) (by decide)]
  have h3 : PS 79 76 (ad1 S2 (36, 21)) := by have h9 := h2.al (k := (36, 21)) (by decide) (by decide +kernel); exact h9
  generalize ad1 S2 (36, 21) = S3 at h3 ⊢
  refine v_putF d_Qy_init_18 fl_Qy_17 (h3.o (by omega) (by decide +kernel)) rfl rfl rfl rfl rfl ?_
  have h4 : PS 79 77 (S3.1, S3.2.1, u2 S3.2.2 76 2 (some 78)) := by have h9 := h3.st (by decide +kernel) (by decide +kernel); exact h9
  generalize ((S3.1, S3.2.1, u2 S3.2.2 76 2 (some 78)) : ShT) = S4 at h4 ⊢
  refine v_iconst (v := 0) d_Qy_init_21 (by decide) rfl ?_
  refine v_istore_n (L' := [(1, .int 0), (0, .ref 76)]) d_Qy_init_22 rfl (by decide) rfl rfl ?_
  exact lp_Qy_init hC hd 22 0 S4 0 nI_0.symm (by omega) (by omega) h4
set_option maxHeartbeats 4000000 in
set_option maxRecDepth 100000 in
theorem c_Fi_init {C : CT} {l : Launch} {S : ShT} {d : Nat} (hC : OKC C l) (h : PS 1 0 S) (hd : 3 ≤ d) : Sp C l k_Fi_init y_Fi_init (d, 123, 2383) [.ref 0] S (mA 0 []) (mA 0 []) (PR (fun v S' I' J' => v = none ∧ PS 124 123 S' ∧ I' = mA 0 [((0, 5), (-1)), ((2, 0), 1)] ∧ J' = mA 0 [])) := by
  refine Sp.of hC cd_Fi_init (Nat.le_of_ble_eq_true rfl) ?_
  show V C l k_Fi_init (d, 123, 2383) _ 0 [(0, .ref 0)] [] S (mA 0 []) (mA 0 []) (0, 0)
  refine v_aload_n 0 d_Fi_init_0 rfl rfl rfl ?_
  refine v_obj d_Fi_init_1 wo_Fi wo1 wo2 (by show 1 ≤ d; omega) (by decide) rfl ?_
  refine v_aload_n 0 d_Fi_init_4 rfl rfl rfl ?_
  refine v_new (ci := 6) (N := 4) d_Fi_init_5 (by decide) wl_Fi_7 wn_Tr wi_Tr ⟨Nat.le_of_ble_eq_true rfl, Nat.le_of_ble_eq_true rfl⟩ rfl ?_
  rw [h.1, mA_zf (α := Int32) (by decide), mA_zf (α := Int64) (by decide)]
  have h1 : PS 2 0 (ad1 S (6, 0)) := by have h9 := h.al (k := (6, 0)) (by decide) (by decide +kernel); exact h9
  generalize ad1 S (6, 0) = S1 at h1 ⊢
  refine v_dup d_Fi_init_8 rfl rfl ?_
  refine v_callI (as := []) d_Fi_init_9 cs_Fi_9 (c_Tr_init hC (d := d - 1) h1 (by omega)) rfl rfl (by decide) (by show (d - 1) + 1 ≤ d; omega) ⟨Nat.le_of_ble_eq_true rfl, Nat.le_of_ble_eq_true rfl⟩ rfl (fun v9 S9 I9 J9 hP => ?_) (fun _ _ _ _ _ hP => False.elim hP)
  obtain ⟨rfl, h2, rfl, rfl⟩ := hP
  generalize S9 = S2 at h2 ⊢
  refine v_putF d_Fi_init_12 fl_Fi_10 (h2.o (by omega) (by decide +kernel)) rfl rfl rfl rfl rfl ?_
  have h3 : PS 22 21 (S2.1, S2.2.1, u2 S2.2.2 0 0 (some 1)) := by have h9 := h2.st (by decide +kernel) (by decide +kernel); exact h9
  generalize ((S2.1, S2.2.1, u2 S2.2.2 0 0 (some 1)) : ShT) = S3 at h3 ⊢
  refine v_aload_n 0 d_Fi_init_15 rfl rfl rfl ?_
  refine v_new (ci := 3) (N := 4) d_Fi_init_16 (by decide) wl_Fi_16 wn_Qu wi_Qu ⟨Nat.le_of_ble_eq_true rfl, Nat.le_of_ble_eq_true rfl⟩ rfl ?_
  rw [h3.1, mA_zf (α := Int32) (by decide), mA_zf (α := Int64) (by decide)]
  have h4 : PS 23 21 (ad1 S3 (3, 0)) := by have h9 := h3.al (k := (3, 0)) (by decide) (by decide +kernel); exact h9
  generalize ad1 S3 (3, 0) = S4 at h4 ⊢
  refine v_dup d_Fi_init_19 rfl rfl ?_
  refine v_callI (as := []) d_Fi_init_20 cs_Fi_18 (c_Qu_init hC (d := d - 1) h4 (by omega)) rfl rfl (by decide) (by show (d - 1) + 1 ≤ d; omega) ⟨Nat.le_of_ble_eq_true rfl, Nat.le_of_ble_eq_true rfl⟩ rfl (fun v9 S9 I9 J9 hP => ?_) (fun _ _ _ _ _ hP => False.elim hP)
  obtain ⟨rfl, h5, rfl, rfl⟩ := hP
  generalize S9 = S5 at h5 ⊢
  refine v_putF d_Fi_init_23 fl_Fi_19 (h5.o (by omega) (by decide +kernel)) rfl rfl rfl rfl rfl ?_
  have h6 : PS 25 24 (S5.1, S5.2.1, u2 S5.2.2 0 1 (some 22)) := by have h9 := h5.st (by decide +kernel) (by decide +kernel); exact h9
  generalize ((S5.1, S5.2.1, u2 S5.2.2 0 1 (some 22)) : ShT) = S6 at h6 ⊢
  refine v_aload_n 0 d_Fi_init_26 rfl rfl rfl ?_
  refine v_new (ci := 1) (N := 3) d_Fi_init_27 (by decide) wl_Fi_23 wn_Ix wi_Ix ⟨Nat.le_of_ble_eq_true rfl, Nat.le_of_ble_eq_true rfl⟩ rfl ?_
  rw [h6.1, mA_zf (α := Int32) (by decide), mA_zf (α := Int64) (by decide)]
  have h7 : PS 26 24 (ad1 S6 (1, 0)) := by have h9 := h6.al (k := (1, 0)) (by decide) (by decide +kernel); exact h9
  generalize ad1 S6 (1, 0) = S7 at h7 ⊢
  refine v_dup d_Fi_init_30 rfl rfl ?_
  refine v_callI (as := []) d_Fi_init_31 cs_Fi_25 (c_Ix_init hC (d := d - 1) h7 (by omega)) rfl rfl (by decide) (by show (d - 1) + 1 ≤ d; omega) ⟨Nat.le_of_ble_eq_true rfl, Nat.le_of_ble_eq_true rfl⟩ rfl (fun v9 S9 I9 J9 hP => ?_) (fun _ _ _ _ _ hP => False.elim hP)
  obtain ⟨rfl, h8, rfl, rfl⟩ := hP
  generalize S9 = S8 at h8 ⊢
  refine v_putF d_Fi_init_34 fl_Fi_26 (h8.o (by omega) (by decide +kernel)) rfl rfl rfl rfl rfl ?_
  have h9 : PS 76 75 (S8.1, S8.2.1, u2 S8.2.2 0 2 (some 25)) := by have h9 := h8.st (by decide +kernel) (by decide +kernel); exact h9
  generalize ((S8.1, S8.2.1, u2 S8.2.2 0 2 (some 25)) : ShT) = S9 at h9 ⊢
  refine v_aload_n 0 d_Fi_init_37 rfl rfl rfl ?_
  refine v_new (ci := 2) (N := 7) d_Fi_init_38 (by decide) wl_Fi_30 wn_Qy wi_Qy ⟨Nat.le_of_ble_eq_true rfl, Nat.le_of_ble_eq_true rfl⟩ rfl ?_
  rw [h9.1, mA_zf (α := Int32) (by decide), mA_zf (α := Int64) (by decide)]
  have h10 : PS 77 75 (ad1 S9 (2, 0)) := by have h9 := h9.al (k := (2, 0)) (by decide) (by decide +kernel); exact h9
  generalize ad1 S9 (2, 0) = S10 at h10 ⊢
  refine v_dup d_Fi_init_41 rfl rfl ?_
  refine v_callI (as := []) d_Fi_init_42 cs_Fi_32 (c_Qy_init hC (d := d - 1) h10 (by omega)) rfl rfl (by decide) (by show (d - 1) + 1 ≤ d; omega) ⟨Nat.le_of_ble_eq_true rfl, Nat.le_of_ble_eq_true rfl⟩ rfl (fun v9 S9 I9 J9 hP => ?_) (fun _ _ _ _ _ hP => False.elim hP)
  obtain ⟨rfl, h11, rfl, rfl⟩ := hP
  generalize S9 = S11 at h11 ⊢
  refine v_putF d_Fi_init_45 fl_Fi_33 (h11.o (by omega) (by decide +kernel)) rfl rfl rfl rfl rfl ?_
  have h12 : PS 121 120 (S11.1, S11.2.1, u2 S11.2.2 0 3 (some 76)) := by have h9 := h11.st (by decide +kernel) (by decide +kernel); exact h9
  generalize ((S11.1, S11.2.1, u2 S11.2.2 0 3 (some 76)) : ShT) = S12 at h12 ⊢
  refine v_aload_n 0 d_Fi_init_48 rfl rfl rfl ?_
  refine v_new (ci := 4) (N := 3) d_Fi_init_49 (by decide) wl_Fi_37 wn_Rk wi_Rk ⟨Nat.le_of_ble_eq_true rfl, Nat.le_of_ble_eq_true rfl⟩ rfl ?_
  rw [h12.1, mA_zf (α := Int32) (by decide), mA_zf (α := Int64) (by decide)]
  have h13 : PS 122 120 (ad1 S12 (4, 0)) := by have h9 := h12.al (k := (4, 0)) (by decide) (by decide +kernel); exact h9
  generalize ad1 S12 (4, 0) = S13 at h13 ⊢
  refine v_dup d_Fi_init_52 rfl rfl ?_
  refine v_callI (as := []) d_Fi_init_53 cs_Fi_39 (c_Rk_init hC (d := d - 1) h13 (by omega)) rfl rfl (by decide) (by show (d - 1) + 1 ≤ d; omega) ⟨Nat.le_of_ble_eq_true rfl, Nat.le_of_ble_eq_true rfl⟩ rfl (fun v9 S9 I9 J9 hP => ?_) (fun _ _ _ _ _ hP => False.elim hP)
  obtain ⟨rfl, h14, rfl, rfl⟩ := hP
  generalize S9 = S14 at h14 ⊢
  refine v_putF d_Fi_init_56 fl_Fi_40 (h14.o (by omega) (by decide +kernel)) rfl rfl rfl rfl rfl ?_
  have h15 : PS 124 123 (S14.1, S14.2.1, u2 S14.2.2 0 4 (some 121)) := by have h9 := h14.st (by decide +kernel) (by decide +kernel); exact h9
  generalize ((S14.1, S14.2.1, u2 S14.2.2 0 4 (some 121)) : ShT) = S15 at h15 ⊢
  refine v_aload_n 0 d_Fi_init_59 rfl rfl rfl ?_
  refine v_iconst (v := (-1)) d_Fi_init_60 (by decide) rfl ?_
  refine v_puti d_Fi_init_61 fl_Fi_44 (h15.o (by omega) (by decide +kernel)) rfl rfl rfl ?_
  rw [mA_st]
  refine v_vret d_Fi_init_64 rfl ?_
  exact ⟨rfl, h15, rfl, rfl⟩
set_option maxHeartbeats 4000000 in
set_option maxRecDepth 100000 in
theorem c_Md_init {C : CT} {l : Launch} {S : ShT} {d : Nat} (hC : OKC C l) (h : PS 125 123 S) (hd : 1 ≤ d) : Sp C l k_Md_init y_Md_init (d, 23, 2920) [.ref 124] S (mA 0 [((0, 5), (-1)), ((2, 0), 1)]) (mA 0 []) (PR (fun v S' I' J' => v = none ∧ PS 148 146 S' ∧ I' = mA 0 [((127, 0), (-1)), ((126, 0), 1), ((125, 0), 1), ((124, 30), (-1)), ((0, 5), (-1)), ((2, 0), 1)] ∧ J' = mA 0 [])) := by
  refine Sp.of hC cd_Md_init (Nat.le_of_ble_eq_true rfl) ?_
  show V C l k_Md_init (d, 23, 2920) _ 0 [(0, .ref 124)] [] S (mA 0 [((0, 5), (-1)), ((2, 0), 1)]) (mA 0 []) (0, 0)
  refine v_aload_n 0 d_Md_init_0 rfl rfl rfl ?_
  refine v_obj d_Md_init_1 wo_Md wo1 wo2 (by show 1 ≤ d; omega) (by decide) rfl ?_
  refine v_aload_n 0 d_Md_init_4 rfl rfl rfl ?_
  refine v_bipush (v := 16) d_Md_init_5 (by decide) rfl ?_
  refine v_newa (t := 33) (N := 16) d_Md_init_7 (Or.inr (Or.inl ⟨rfl, rfl⟩)) wa_boolean rfl (by decide) ⟨Nat.le_of_ble_eq_true rfl, Nat.le_of_ble_eq_true rfl⟩ rfl ?_
  rw [h.1, mA_zf (α := Int32) (by decide), mA_zf (α := Int64) (by decide)]
  have h1 : PS 126 123 (ad1 S (33, 16)) := by have h9 := h.al (k := (33, 16)) (by decide) (by decide +kernel); exact h9
  generalize ad1 S (33, 16) = S1 at h1 ⊢
  refine v_putF d_Md_init_9 fl_Md_7 (h1.o (by omega) (by decide +kernel)) rfl rfl rfl rfl rfl ?_
  have h2 : PS 126 124 (S1.1, S1.2.1, u2 S1.2.2 124 1 (some 125)) := by have h9 := h1.st (by decide +kernel) (by decide +kernel); exact h9
  generalize ((S1.1, S1.2.1, u2 S1.2.2 124 1 (some 125)) : ShT) = S2 at h2 ⊢
  refine v_aload_n 0 d_Md_init_12 rfl rfl rfl ?_
  refine v_bipush (v := 16) d_Md_init_13 (by decide) rfl ?_
  refine v_newa (t := 33) (N := 16) d_Md_init_15 (Or.inr (Or.inl ⟨rfl, rfl⟩)) wa_boolean rfl (by decide) ⟨Nat.le_of_ble_eq_true rfl, Nat.le_of_ble_eq_true rfl⟩ rfl ?_
  rw [h2.1, mA_zf (α := Int32) (by decide), mA_zf (α := Int64) (by decide)]
  have h3 : PS 127 124 (ad1 S2 (33, 16)) := by have h9 := h2.al (k := (33, 16)) (by decide) (by decide +kernel); exact h9
  generalize ad1 S2 (33, 16) = S3 at h3 ⊢
  refine v_putF d_Md_init_17 fl_Md_13 (h3.o (by omega) (by decide +kernel)) rfl rfl rfl rfl rfl ?_
  have h4 : PS 127 125 (S3.1, S3.2.1, u2 S3.2.2 124 2 (some 126)) := by have h9 := h3.st (by decide +kernel) (by decide +kernel); exact h9
  generalize ((S3.1, S3.2.1, u2 S3.2.2 124 2 (some 126)) : ShT) = S4 at h4 ⊢
  refine v_aload_n 0 d_Md_init_20 rfl rfl rfl ?_
  refine v_bipush (v := 16) d_Md_init_21 (by decide) rfl ?_
  refine v_newa (t := 32) (N := 16) d_Md_init_23 (Or.inl ⟨rfl, rfl⟩) wa_int rfl (by decide) ⟨Nat.le_of_ble_eq_true rfl, Nat.le_of_ble_eq_true rfl⟩ rfl ?_
  rw [h4.1, mA_zf (α := Int32) (by decide), mA_zf (α := Int64) (by decide)]
  have h5 : PS 128 125 (ad1 S4 (32, 16)) := by have h9 := h4.al (k := (32, 16)) (by decide) (by decide +kernel); exact h9
  generalize ad1 S4 (32, 16) = S5 at h5 ⊢
  refine v_putF d_Md_init_25 fl_Md_16 (h5.o (by omega) (by decide +kernel)) rfl rfl rfl rfl rfl ?_
  have h6 : PS 128 126 (S5.1, S5.2.1, u2 S5.2.2 124 3 (some 127)) := by have h9 := h5.st (by decide +kernel) (by decide +kernel); exact h9
  generalize ((S5.1, S5.2.1, u2 S5.2.2 124 3 (some 127)) : ShT) = S6 at h6 ⊢
  refine v_aload_n 0 d_Md_init_28 rfl rfl rfl ?_
  refine v_sipush (v := 960) d_Md_init_29 (by decide) rfl ?_
  refine v_newa (t := 32) (N := 960) d_Md_init_32 (Or.inl ⟨rfl, rfl⟩) wa_int rfl (by decide) ⟨Nat.le_of_ble_eq_true rfl, Nat.le_of_ble_eq_true rfl⟩ rfl ?_
  rw [h6.1, mA_zf (α := Int32) (by decide), mA_zf (α := Int64) (by decide)]
  have h7 : PS 129 126 (ad1 S6 (32, 960)) := by have h9 := h6.al (k := (32, 960)) (by decide) (by decide +kernel); exact h9
  generalize ad1 S6 (32, 960) = S7 at h7 ⊢
  refine v_putF d_Md_init_34 fl_Md_20 (h7.o (by omega) (by decide +kernel)) rfl rfl rfl rfl rfl ?_
  have h8 : PS 129 127 (S7.1, S7.2.1, u2 S7.2.2 124 4 (some 128)) := by have h9 := h7.st (by decide +kernel) (by decide +kernel); exact h9
  generalize ((S7.1, S7.2.1, u2 S7.2.2 124 4 (some 128)) : ShT) = S8 at h8 ⊢
  refine v_aload_n 0 d_Md_init_37 rfl rfl rfl ?_
  refine v_bipush (v := 16) d_Md_init_38 (by decide) rfl ?_
  refine v_newa (t := 32) (N := 16) d_Md_init_40 (Or.inl ⟨rfl, rfl⟩) wa_int rfl (by decide) ⟨Nat.le_of_ble_eq_true rfl, Nat.le_of_ble_eq_true rfl⟩ rfl ?_
  rw [h8.1, mA_zf (α := Int32) (by decide), mA_zf (α := Int64) (by decide)]
  have h9 : PS 130 127 (ad1 S8 (32, 16)) := by have h9 := h8.al (k := (32, 16)) (by decide) (by decide +kernel); exact h9
  generalize ad1 S8 (32, 16) = S9 at h9 ⊢
  refine v_putF d_Md_init_42 fl_Md_23 (h9.o (by omega) (by decide +kernel)) rfl rfl rfl rfl rfl ?_
  have h10 : PS 130 128 (S9.1, S9.2.1, u2 S9.2.2 124 5 (some 129)) := by have h9 := h9.st (by decide +kernel) (by decide +kernel); exact h9
  generalize ((S9.1, S9.2.1, u2 S9.2.2 124 5 (some 129)) : ShT) = S10 at h10 ⊢
  refine v_aload_n 0 d_Md_init_45 rfl rfl rfl ?_
  refine v_bipush (v := 16) d_Md_init_46 (by decide) rfl ?_
  refine v_newa (t := 33) (N := 16) d_Md_init_48 (Or.inr (Or.inl ⟨rfl, rfl⟩)) wa_boolean rfl (by decide) ⟨Nat.le_of_ble_eq_true rfl, Nat.le_of_ble_eq_true rfl⟩ rfl ?_
  rw [h10.1, mA_zf (α := Int32) (by decide), mA_zf (α := Int64) (by decide)]
  have h11 : PS 131 128 (ad1 S10 (33, 16)) := by have h9 := h10.al (k := (33, 16)) (by decide) (by decide +kernel); exact h9
  generalize ad1 S10 (33, 16) = S11 at h11 ⊢
  refine v_putF d_Md_init_50 fl_Md_26 (h11.o (by omega) (by decide +kernel)) rfl rfl rfl rfl rfl ?_
  have h12 : PS 131 129 (S11.1, S11.2.1, u2 S11.2.2 124 6 (some 130)) := by have h9 := h11.st (by decide +kernel) (by decide +kernel); exact h9
  generalize ((S11.1, S11.2.1, u2 S11.2.2 124 6 (some 130)) : ShT) = S12 at h12 ⊢
  refine v_aload_n 0 d_Md_init_53 rfl rfl rfl ?_
  refine v_bipush (v := 8) d_Md_init_54 (by decide) rfl ?_
  refine v_newa (t := 32) (N := 8) d_Md_init_56 (Or.inl ⟨rfl, rfl⟩) wa_int rfl (by decide) ⟨Nat.le_of_ble_eq_true rfl, Nat.le_of_ble_eq_true rfl⟩ rfl ?_
  rw [h12.1, mA_zf (α := Int32) (by decide), mA_zf (α := Int64) (by decide)]
  have h13 : PS 132 129 (ad1 S12 (32, 8)) := by have h9 := h12.al (k := (32, 8)) (by decide) (by decide +kernel); exact h9
  generalize ad1 S12 (32, 8) = S13 at h13 ⊢
  refine v_putF d_Md_init_58 fl_Md_29 (h13.o (by omega) (by decide +kernel)) rfl rfl rfl rfl rfl ?_
  have h14 : PS 132 130 (S13.1, S13.2.1, u2 S13.2.2 124 7 (some 131)) := by have h9 := h13.st (by decide +kernel) (by decide +kernel); exact h9
  generalize ((S13.1, S13.2.1, u2 S13.2.2 124 7 (some 131)) : ShT) = S14 at h14 ⊢
  refine v_aload_n 0 d_Md_init_61 rfl rfl rfl ?_
  refine v_bipush (v := 8) d_Md_init_62 (by decide) rfl ?_
  refine v_newa (t := 32) (N := 8) d_Md_init_64 (Or.inl ⟨rfl, rfl⟩) wa_int rfl (by decide) ⟨Nat.le_of_ble_eq_true rfl, Nat.le_of_ble_eq_true rfl⟩ rfl ?_
  rw [h14.1, mA_zf (α := Int32) (by decide), mA_zf (α := Int64) (by decide)]
  have h15 : PS 133 130 (ad1 S14 (32, 8)) := by have h9 := h14.al (k := (32, 8)) (by decide) (by decide +kernel); exact h9
  generalize ad1 S14 (32, 8) = S15 at h15 ⊢
  refine v_putF d_Md_init_66 fl_Md_32 (h15.o (by omega) (by decide +kernel)) rfl rfl rfl rfl rfl ?_
  have h16 : PS 133 131 (S15.1, S15.2.1, u2 S15.2.2 124 8 (some 132)) := by have h9 := h15.st (by decide +kernel) (by decide +kernel); exact h9
  generalize ((S15.1, S15.2.1, u2 S15.2.2 124 8 (some 132)) : ShT) = S16 at h16 ⊢
  refine v_aload_n 0 d_Md_init_69 rfl rfl rfl ?_
  refine v_bipush (v := 16) d_Md_init_70 (by decide) rfl ?_
  refine v_newa (t := 33) (N := 16) d_Md_init_72 (Or.inr (Or.inl ⟨rfl, rfl⟩)) wa_boolean rfl (by decide) ⟨Nat.le_of_ble_eq_true rfl, Nat.le_of_ble_eq_true rfl⟩ rfl ?_
  rw [h16.1, mA_zf (α := Int32) (by decide), mA_zf (α := Int64) (by decide)]
  have h17 : PS 134 131 (ad1 S16 (33, 16)) := by have h9 := h16.al (k := (33, 16)) (by decide) (by decide +kernel); exact h9
  generalize ad1 S16 (33, 16) = S17 at h17 ⊢
  refine v_putF d_Md_init_74 fl_Md_35 (h17.o (by omega) (by decide +kernel)) rfl rfl rfl rfl rfl ?_
  have h18 : PS 134 132 (S17.1, S17.2.1, u2 S17.2.2 124 12 (some 133)) := by have h9 := h17.st (by decide +kernel) (by decide +kernel); exact h9
  generalize ((S17.1, S17.2.1, u2 S17.2.2 124 12 (some 133)) : ShT) = S18 at h18 ⊢
  refine v_aload_n 0 d_Md_init_77 rfl rfl rfl ?_
  refine v_bipush (v := 16) d_Md_init_78 (by decide) rfl ?_
  refine v_newa (t := 32) (N := 16) d_Md_init_80 (Or.inl ⟨rfl, rfl⟩) wa_int rfl (by decide) ⟨Nat.le_of_ble_eq_true rfl, Nat.le_of_ble_eq_true rfl⟩ rfl ?_
  rw [h18.1, mA_zf (α := Int32) (by decide), mA_zf (α := Int64) (by decide)]
  have h19 : PS 135 132 (ad1 S18 (32, 16)) := by have h9 := h18.al (k := (32, 16)) (by decide) (by decide +kernel); exact h9
  generalize ad1 S18 (32, 16) = S19 at h19 ⊢
  refine v_putF d_Md_init_82 fl_Md_38 (h19.o (by omega) (by decide +kernel)) rfl rfl rfl rfl rfl ?_
  have h20 : PS 135 133 (S19.1, S19.2.1, u2 S19.2.2 124 13 (some 134)) := by have h9 := h19.st (by decide +kernel) (by decide +kernel); exact h9
  generalize ((S19.1, S19.2.1, u2 S19.2.2 124 13 (some 134)) : ShT) = S20 at h20 ⊢
  refine v_aload_n 0 d_Md_init_85 rfl rfl rfl ?_
  refine v_sipush (v := 480) d_Md_init_86 (by decide) rfl ?_
  refine v_newa (t := 34) (N := 480) d_Md_init_89 (Or.inr (Or.inr ⟨rfl, rfl⟩)) wa_long rfl (by decide) ⟨Nat.le_of_ble_eq_true rfl, Nat.le_of_ble_eq_true rfl⟩ rfl ?_
  rw [h20.1, mA_zf (α := Int32) (by decide), mA_zf (α := Int64) (by decide)]
  have h21 : PS 136 133 (ad1 S20 (34, 480)) := by have h9 := h20.al (k := (34, 480)) (by decide) (by decide +kernel); exact h9
  generalize ad1 S20 (34, 480) = S21 at h21 ⊢
  refine v_putF d_Md_init_91 fl_Md_41 (h21.o (by omega) (by decide +kernel)) rfl rfl rfl rfl rfl ?_
  have h22 : PS 136 134 (S21.1, S21.2.1, u2 S21.2.2 124 14 (some 135)) := by have h9 := h21.st (by decide +kernel) (by decide +kernel); exact h9
  generalize ((S21.1, S21.2.1, u2 S21.2.2 124 14 (some 135)) : ShT) = S22 at h22 ⊢
  refine v_aload_n 0 d_Md_init_94 rfl rfl rfl ?_
  refine v_sipush (v := 480) d_Md_init_95 (by decide) rfl ?_
  refine v_newa (t := 32) (N := 480) d_Md_init_98 (Or.inl ⟨rfl, rfl⟩) wa_int rfl (by decide) ⟨Nat.le_of_ble_eq_true rfl, Nat.le_of_ble_eq_true rfl⟩ rfl ?_
  rw [h22.1, mA_zf (α := Int32) (by decide), mA_zf (α := Int64) (by decide)]
  have h23 : PS 137 134 (ad1 S22 (32, 480)) := by have h9 := h22.al (k := (32, 480)) (by decide) (by decide +kernel); exact h9
  generalize ad1 S22 (32, 480) = S23 at h23 ⊢
  refine v_putF d_Md_init_100 fl_Md_45 (h23.o (by omega) (by decide +kernel)) rfl rfl rfl rfl rfl ?_
  have h24 : PS 137 135 (S23.1, S23.2.1, u2 S23.2.2 124 15 (some 136)) := by have h9 := h23.st (by decide +kernel) (by decide +kernel); exact h9
  generalize ((S23.1, S23.2.1, u2 S23.2.2 124 15 (some 136)) : ShT) = S24 at h24 ⊢
  refine v_aload_n 0 d_Md_init_103 rfl rfl rfl ?_
  refine v_sipush (v := 480) d_Md_init_104 (by decide) rfl ?_
  refine v_newa (t := 32) (N := 480) d_Md_init_107 (Or.inl ⟨rfl, rfl⟩) wa_int rfl (by decide) ⟨Nat.le_of_ble_eq_true rfl, Nat.le_of_ble_eq_true rfl⟩ rfl ?_
  rw [h24.1, mA_zf (α := Int32) (by decide), mA_zf (α := Int64) (by decide)]
  have h25 : PS 138 135 (ad1 S24 (32, 480)) := by have h9 := h24.al (k := (32, 480)) (by decide) (by decide +kernel); exact h9
  generalize ad1 S24 (32, 480) = S25 at h25 ⊢
  refine v_putF d_Md_init_109 fl_Md_48 (h25.o (by omega) (by decide +kernel)) rfl rfl rfl rfl rfl ?_
  have h26 : PS 138 136 (S25.1, S25.2.1, u2 S25.2.2 124 16 (some 137)) := by have h9 := h25.st (by decide +kernel) (by decide +kernel); exact h9
  generalize ((S25.1, S25.2.1, u2 S25.2.2 124 16 (some 137)) : ShT) = S26 at h26 ⊢
  refine v_aload_n 0 d_Md_init_112 rfl rfl rfl ?_
  refine v_bipush (v := 40) d_Md_init_113 (by decide) rfl ?_
  refine v_newa (t := 32) (N := 40) d_Md_init_115 (Or.inl ⟨rfl, rfl⟩) wa_int rfl (by decide) ⟨Nat.le_of_ble_eq_true rfl, Nat.le_of_ble_eq_true rfl⟩ rfl ?_
  rw [h26.1, mA_zf (α := Int32) (by decide), mA_zf (α := Int64) (by decide)]
  have h27 : PS 139 136 (ad1 S26 (32, 40)) := by have h9 := h26.al (k := (32, 40)) (by decide) (by decide +kernel); exact h9
  generalize ad1 S26 (32, 40) = S27 at h27 ⊢
  refine v_putF d_Md_init_117 fl_Md_51 (h27.o (by omega) (by decide +kernel)) rfl rfl rfl rfl rfl ?_
  have h28 : PS 139 137 (S27.1, S27.2.1, u2 S27.2.2 124 17 (some 138)) := by have h9 := h27.st (by decide +kernel) (by decide +kernel); exact h9
  generalize ((S27.1, S27.2.1, u2 S27.2.2 124 17 (some 138)) : ShT) = S28 at h28 ⊢
  refine v_aload_n 0 d_Md_init_120 rfl rfl rfl ?_
  refine v_bipush (v := 40) d_Md_init_121 (by decide) rfl ?_
  refine v_newa (t := 32) (N := 40) d_Md_init_123 (Or.inl ⟨rfl, rfl⟩) wa_int rfl (by decide) ⟨Nat.le_of_ble_eq_true rfl, Nat.le_of_ble_eq_true rfl⟩ rfl ?_
  rw [h28.1, mA_zf (α := Int32) (by decide), mA_zf (α := Int64) (by decide)]
  have h29 : PS 140 137 (ad1 S28 (32, 40)) := by have h9 := h28.al (k := (32, 40)) (by decide) (by decide +kernel); exact h9
  generalize ad1 S28 (32, 40) = S29 at h29 ⊢
  refine v_putF d_Md_init_125 fl_Md_54 (h29.o (by omega) (by decide +kernel)) rfl rfl rfl rfl rfl ?_
  have h30 : PS 140 138 (S29.1, S29.2.1, u2 S29.2.2 124 19 (some 139)) := by have h9 := h29.st (by decide +kernel) (by decide +kernel); exact h9
  generalize ((S29.1, S29.2.1, u2 S29.2.2 124 19 (some 139)) : ShT) = S30 at h30 ⊢
  refine v_aload_n 0 d_Md_init_128 rfl rfl rfl ?_
  refine v_bipush (v := 40) d_Md_init_129 (by decide) rfl ?_
  refine v_newa (t := 33) (N := 40) d_Md_init_131 (Or.inr (Or.inl ⟨rfl, rfl⟩)) wa_boolean rfl (by decide) ⟨Nat.le_of_ble_eq_true rfl, Nat.le_of_ble_eq_true rfl⟩ rfl ?_
  rw [h30.1, mA_zf (α := Int32) (by decide), mA_zf (α := Int64) (by decide)]
  have h31 : PS 141 138 (ad1 S30 (33, 40)) := by have h9 := h30.al (k := (33, 40)) (by decide) (by decide +kernel); exact h9
  generalize ad1 S30 (33, 40) = S31 at h31 ⊢
  refine v_putF d_Md_init_133 fl_Md_57 (h31.o (by omega) (by decide +kernel)) rfl rfl rfl rfl rfl ?_
  have h32 : PS 141 139 (S31.1, S31.2.1, u2 S31.2.2 124 20 (some 140)) := by have h9 := h31.st (by decide +kernel) (by decide +kernel); exact h9
  generalize ((S31.1, S31.2.1, u2 S31.2.2 124 20 (some 140)) : ShT) = S32 at h32 ⊢
  refine v_aload_n 0 d_Md_init_136 rfl rfl rfl ?_
  refine v_bipush (v := 40) d_Md_init_137 (by decide) rfl ?_
  refine v_newa (t := 32) (N := 40) d_Md_init_139 (Or.inl ⟨rfl, rfl⟩) wa_int rfl (by decide) ⟨Nat.le_of_ble_eq_true rfl, Nat.le_of_ble_eq_true rfl⟩ rfl ?_
  rw [h32.1, mA_zf (α := Int32) (by decide), mA_zf (α := Int64) (by decide)]
  have h33 : PS 142 139 (ad1 S32 (32, 40)) := by have h9 := h32.al (k := (32, 40)) (by decide) (by decide +kernel); exact h9
  generalize ad1 S32 (32, 40) = S33 at h33 ⊢
  refine v_putF d_Md_init_141 fl_Md_60 (h33.o (by omega) (by decide +kernel)) rfl rfl rfl rfl rfl ?_
  have h34 : PS 142 140 (S33.1, S33.2.1, u2 S33.2.2 124 21 (some 141)) := by have h9 := h33.st (by decide +kernel) (by decide +kernel); exact h9
  generalize ((S33.1, S33.2.1, u2 S33.2.2 124 21 (some 141)) : ShT) = S34 at h34 ⊢
  refine v_aload_n 0 d_Md_init_144 rfl rfl rfl ?_
  refine v_bipush (v := 40) d_Md_init_145 (by decide) rfl ?_
  refine v_newa (t := 32) (N := 40) d_Md_init_147 (Or.inl ⟨rfl, rfl⟩) wa_int rfl (by decide) ⟨Nat.le_of_ble_eq_true rfl, Nat.le_of_ble_eq_true rfl⟩ rfl ?_
  rw [h34.1, mA_zf (α := Int32) (by decide), mA_zf (α := Int64) (by decide)]
  have h35 : PS 143 140 (ad1 S34 (32, 40)) := by have h9 := h34.al (k := (32, 40)) (by decide) (by decide +kernel); exact h9
  generalize ad1 S34 (32, 40) = S35 at h35 ⊢
  refine v_putF d_Md_init_149 fl_Md_63 (h35.o (by omega) (by decide +kernel)) rfl rfl rfl rfl rfl ?_
  have h36 : PS 143 141 (S35.1, S35.2.1, u2 S35.2.2 124 22 (some 142)) := by have h9 := h35.st (by decide +kernel) (by decide +kernel); exact h9
  generalize ((S35.1, S35.2.1, u2 S35.2.2 124 22 (some 142)) : ShT) = S36 at h36 ⊢
  refine v_aload_n 0 d_Md_init_152 rfl rfl rfl ?_
  refine v_bipush (v := 40) d_Md_init_153 (by decide) rfl ?_
  refine v_newa (t := 32) (N := 40) d_Md_init_155 (Or.inl ⟨rfl, rfl⟩) wa_int rfl (by decide) ⟨Nat.le_of_ble_eq_true rfl, Nat.le_of_ble_eq_true rfl⟩ rfl ?_
  rw [h36.1, mA_zf (α := Int32) (by decide), mA_zf (α := Int64) (by decide)]
  have h37 : PS 144 141 (ad1 S36 (32, 40)) := by have h9 := h36.al (k := (32, 40)) (by decide) (by decide +kernel); exact h9
  generalize ad1 S36 (32, 40) = S37 at h37 ⊢
  refine v_putF d_Md_init_157 fl_Md_66 (h37.o (by omega) (by decide +kernel)) rfl rfl rfl rfl rfl ?_
  have h38 : PS 144 142 (S37.1, S37.2.1, u2 S37.2.2 124 23 (some 143)) := by have h9 := h37.st (by decide +kernel) (by decide +kernel); exact h9
  generalize ((S37.1, S37.2.1, u2 S37.2.2 124 23 (some 143)) : ShT) = S38 at h38 ⊢
  refine v_aload_n 0 d_Md_init_160 rfl rfl rfl ?_
  refine v_bipush (v := 60) d_Md_init_161 (by decide) rfl ?_
  refine v_newa (t := 34) (N := 60) d_Md_init_163 (Or.inr (Or.inr ⟨rfl, rfl⟩)) wa_long rfl (by decide) ⟨Nat.le_of_ble_eq_true rfl, Nat.le_of_ble_eq_true rfl⟩ rfl ?_
  rw [h38.1, mA_zf (α := Int32) (by decide), mA_zf (α := Int64) (by decide)]
  have h39 : PS 145 142 (ad1 S38 (34, 60)) := by have h9 := h38.al (k := (34, 60)) (by decide) (by decide +kernel); exact h9
  generalize ad1 S38 (34, 60) = S39 at h39 ⊢
  refine v_putF d_Md_init_165 fl_Md_69 (h39.o (by omega) (by decide +kernel)) rfl rfl rfl rfl rfl ?_
  have h40 : PS 145 143 (S39.1, S39.2.1, u2 S39.2.2 124 25 (some 144)) := by have h9 := h39.st (by decide +kernel) (by decide +kernel); exact h9
  generalize ((S39.1, S39.2.1, u2 S39.2.2 124 25 (some 144)) : ShT) = S40 at h40 ⊢
  refine v_aload_n 0 d_Md_init_168 rfl rfl rfl ?_
  refine v_bipush (v := 60) d_Md_init_169 (by decide) rfl ?_
  refine v_newa (t := 32) (N := 60) d_Md_init_171 (Or.inl ⟨rfl, rfl⟩) wa_int rfl (by decide) ⟨Nat.le_of_ble_eq_true rfl, Nat.le_of_ble_eq_true rfl⟩ rfl ?_
  rw [h40.1, mA_zf (α := Int32) (by decide), mA_zf (α := Int64) (by decide)]
  have h41 : PS 146 143 (ad1 S40 (32, 60)) := by have h9 := h40.al (k := (32, 60)) (by decide) (by decide +kernel); exact h9
  generalize ad1 S40 (32, 60) = S41 at h41 ⊢
  refine v_putF d_Md_init_173 fl_Md_72 (h41.o (by omega) (by decide +kernel)) rfl rfl rfl rfl rfl ?_
  have h42 : PS 146 144 (S41.1, S41.2.1, u2 S41.2.2 124 26 (some 145)) := by have h9 := h41.st (by decide +kernel) (by decide +kernel); exact h9
  generalize ((S41.1, S41.2.1, u2 S41.2.2 124 26 (some 145)) : ShT) = S42 at h42 ⊢
  refine v_aload_n 0 d_Md_init_176 rfl rfl rfl ?_
  refine v_iconst (v := (-1)) d_Md_init_177 (by decide) rfl ?_
  refine v_puti d_Md_init_178 fl_Md_75 (h42.o (by omega) (by decide +kernel)) rfl rfl rfl ?_
  rw [mA_st]
  refine v_aload_n 0 d_Md_init_181 rfl rfl rfl ?_
  refine v_bipush (v := 16) d_Md_init_182 (by decide) rfl ?_
  refine v_newa (t := 32) (N := 16) d_Md_init_184 (Or.inl ⟨rfl, rfl⟩) wa_int rfl (by decide) ⟨Nat.le_of_ble_eq_true rfl, Nat.le_of_ble_eq_true rfl⟩ rfl ?_
  rw [h42.1, mA_zf (α := Int32) (by decide), mA_zf (α := Int64) (by decide)]
  have h43 : PS 147 144 (ad1 S42 (32, 16)) := by have h9 := h42.al (k := (32, 16)) (by decide) (by decide +kernel); exact h9
  generalize ad1 S42 (32, 16) = S43 at h43 ⊢
  refine v_putF d_Md_init_186 fl_Md_79 (h43.o (by omega) (by decide +kernel)) rfl rfl rfl rfl rfl ?_
  have h44 : PS 147 145 (S43.1, S43.2.1, u2 S43.2.2 124 31 (some 146)) := by have h9 := h43.st (by decide +kernel) (by decide +kernel); exact h9
  generalize ((S43.1, S43.2.1, u2 S43.2.2 124 31 (some 146)) : ShT) = S44 at h44 ⊢
  refine v_aload_n 0 d_Md_init_189 rfl rfl rfl ?_
  refine v_bipush (v := 16) d_Md_init_190 (by decide) rfl ?_
  refine v_newa (t := 32) (N := 16) d_Md_init_192 (Or.inl ⟨rfl, rfl⟩) wa_int rfl (by decide) ⟨Nat.le_of_ble_eq_true rfl, Nat.le_of_ble_eq_true rfl⟩ rfl ?_
  rw [h44.1, mA_zf (α := Int32) (by decide), mA_zf (α := Int64) (by decide)]
  have h45 : PS 148 145 (ad1 S44 (32, 16)) := by have h9 := h44.al (k := (32, 16)) (by decide) (by decide +kernel); exact h9
  generalize ad1 S44 (32, 16) = S45 at h45 ⊢
  refine v_putF d_Md_init_194 fl_Md_82 (h45.o (by omega) (by decide +kernel)) rfl rfl rfl rfl rfl ?_
  have h46 : PS 148 146 (S45.1, S45.2.1, u2 S45.2.2 124 32 (some 147)) := by have h9 := h45.st (by decide +kernel) (by decide +kernel); exact h9
  generalize ((S45.1, S45.2.1, u2 S45.2.2 124 32 (some 147)) : ShT) = S46 at h46 ⊢
  refine v_aload_n 0 d_Md_init_197 rfl rfl rfl ?_
  refine v_getr (r := 125) d_Md_init_198 fl_Md_7 (h46.o (by omega) (by decide +kernel)) rfl (h46.r (by omega) (by decide +kernel) (by decide +kernel)) rfl ?_
  refine v_iconst (v := 0) d_Md_init_201 (by decide) rfl ?_
  refine v_iconst (v := 1) d_Md_init_202 (by decide) rfl ?_
  refine v_zast (j := 0) d_Md_init_203 (h46.a (by omega) (by decide +kernel)) rfl (by decide) (by decide) (by decide) rfl ?_
  rw [mA_st]
  refine v_aload_n 0 d_Md_init_204 rfl rfl rfl ?_
  refine v_getr (r := 126) d_Md_init_205 fl_Md_13 (h46.o (by omega) (by decide +kernel)) rfl (h46.r (by omega) (by decide +kernel) (by decide +kernel)) rfl ?_
  refine v_iconst (v := 0) d_Md_init_208 (by decide) rfl ?_
  refine v_iconst (v := 1) d_Md_init_209 (by decide) rfl ?_
  refine v_zast (j := 0) d_Md_init_210 (h46.a (by omega) (by decide +kernel)) rfl (by decide) (by decide) (by decide) rfl ?_
  rw [mA_st]
  refine v_aload_n 0 d_Md_init_211 rfl rfl rfl ?_
  refine v_getr (r := 127) d_Md_init_212 fl_Md_16 (h46.o (by omega) (by decide +kernel)) rfl (h46.r (by omega) (by decide +kernel) (by decide +kernel)) rfl ?_
  refine v_iconst (v := 0) d_Md_init_215 (by decide) rfl ?_
  refine v_iconst (v := (-1)) d_Md_init_216 (by decide) rfl ?_
  refine v_iast (j := 0) d_Md_init_217 (h46.a (by omega) (by decide +kernel)) rfl (by decide) (by decide) rfl ?_
  rw [mA_st]
  refine v_vret d_Md_init_218 rfl ?_
  exact ⟨rfl, h46, rfl, rfl⟩
