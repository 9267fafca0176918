set_option maxHeartbeats 4000000 in
set_option maxRecDepth 100000 in
theorem c_Tr_init {C : CT} {l : Launch} {S : ShT} {d : Nat} (hC : OKC C l) (h : PS 2 0 S) (hd : 1 ≤ d) : Sp C l k_Tr_init y_Tr_init (d, 20, 1024) [.ref 1] S (mA 0 []) (mA 0 []) (PR (fun v S' I' J' => v = none ∧ PS 22 20 S' ∧ I' = mA 0 [((2, 0), 1)] ∧ J' = mA 0 [])) := by
  refine Sp.of hC cd_Tr_init (Nat.le_of_ble_eq_true rfl) ?_
  show V C l k_Tr_init (d, 20, 1024) _ 0 [(0, .ref 1)] [] S (mA 0 []) (mA 0 []) (0, 0)
  refine v_aload_n 0 d_Tr_init_0 rfl rfl rfl ?_
  refine v_obj d_Tr_init_1 wo_Tr wo1 wo2 (by show 1 ≤ d; omega) (by decide) rfl ?_
  refine v_aload_n 0 d_Tr_init_4 rfl rfl rfl ?_
  refine v_bipush (v := 16) d_Tr_init_5 (by decide) rfl ?_
  refine v_newa (t := 32) (N := 16) d_Tr_init_7 (Or.inl ⟨rfl, rfl⟩) wa_int rfl (by decide) ⟨Nat.le_of_ble_eq_true rfl, Nat.le_of_ble_eq_true rfl⟩ rfl ?_
  rw [h.1, mA_zf (α := Int32) (by decide), mA_zf (α := Int64) (by intro p hp; cases hp)]
  have h1 : PS 3 0 (ad1 S (32, 16)) := by have h9 := h.al (k := (32, 16)) (by decide) (by decide +kernel); exact h9
  generalize ad1 S (32, 16) = S1 at h1 ⊢
  refine v_ue (u' := (1, 16)) rfl ?_
  refine v_putF d_Tr_init_9 fl_Tr_9 (h1.o (by omega) (by decide +kernel)) rfl rfl rfl rfl rfl ?_
  have h2 : PS 3 1 (S1.1, S1.2.1, u2 S1.2.2 1 0 (some 2)) := by have h9 := h1.st (a := 1) (j := 0) (r := 2) (by decide +kernel) (by decide +kernel); exact h9
  generalize ((S1.1, S1.2.1, u2 S1.2.2 1 0 (some 2)) : ShT) = S2 at h2 ⊢
  refine v_aload_n 0 d_Tr_init_12 rfl rfl rfl ?_
  refine v_bipush (v := 16) d_Tr_init_13 (by decide) rfl ?_
  refine v_newa (t := 32) (N := 16) d_Tr_init_15 (Or.inl ⟨rfl, rfl⟩) wa_int rfl (by decide) ⟨Nat.le_of_ble_eq_true rfl, Nat.le_of_ble_eq_true rfl⟩ rfl ?_
  rw [h2.1, mA_zf (α := Int32) (by decide), mA_zf (α := Int64) (by intro p hp; cases hp)]
  have h3 : PS 4 1 (ad1 S2 (32, 16)) := by have h9 := h2.al (k := (32, 16)) (by decide) (by decide +kernel); exact h9
  generalize ad1 S2 (32, 16) = S3 at h3 ⊢
  refine v_ue (u' := (2, 32)) rfl ?_
  clear h2
  refine v_putF d_Tr_init_17 fl_Tr_15 (h3.o (by omega) (by decide +kernel)) rfl rfl rfl rfl rfl ?_
  have h4 : PS 4 2 (S3.1, S3.2.1, u2 S3.2.2 1 1 (some 3)) := by have h9 := h3.st (a := 1) (j := 1) (r := 3) (by decide +kernel) (by decide +kernel); exact h9
  generalize ((S3.1, S3.2.1, u2 S3.2.2 1 1 (some 3)) : ShT) = S4 at h4 ⊢
  refine v_aload_n 0 d_Tr_init_20 rfl rfl rfl ?_
  refine v_bipush (v := 16) d_Tr_init_21 (by decide) rfl ?_
  refine v_bipush (v := 60) d_Tr_init_23 (by decide) rfl ?_
  refine v_mna (N := 16) (M := 60) d_Tr_init_25 wl_Tr_18 wv_a wa_int rfl rfl (by decide) (by decide) ⟨Nat.le_of_ble_eq_true rfl, Nat.le_of_ble_eq_true rfl⟩ rfl ?_
  rw [h4.1, mA_zf (α := Int32) (by decide), mA_zf (α := Int64) (by intro p hp; cases hp)]
  have h5 := h4.al2 rfl
  generalize ad2 S4 16 60 = S5 at h5 ⊢
  refine v_ue (u' := (19, 1008)) rfl ?_
  refine v_putF d_Tr_init_29 fl_Tr_20 (h5.o (by omega) (by decide +kernel)) rfl rfl rfl rfl rfl ?_
  have h6 : PS 21 19 (S5.1, S5.2.1, u2 S5.2.2 1 2 (some 4)) := by have h9 := h5.st (a := 1) (j := 2) (r := 4) (by decide +kernel) (by decide +kernel); exact h9
  generalize ((S5.1, S5.2.1, u2 S5.2.2 1 2 (some 4)) : ShT) = S6 at h6 ⊢
  refine v_aload_n 0 d_Tr_init_32 rfl rfl rfl ?_
  refine v_bipush (v := 16) d_Tr_init_33 (by decide) rfl ?_
  refine v_newa (t := 32) (N := 16) d_Tr_init_35 (Or.inl ⟨rfl, rfl⟩) wa_int rfl (by decide) ⟨Nat.le_of_ble_eq_true rfl, Nat.le_of_ble_eq_true rfl⟩ rfl ?_
  rw [h6.1, mA_zf (α := Int32) (by decide), mA_zf (α := Int64) (by intro p hp; cases hp)]
  have h7 : PS 22 19 (ad1 S6 (32, 16)) := by have h9 := h6.al (k := (32, 16)) (by decide) (by decide +kernel); exact h9
  generalize ad1 S6 (32, 16) = S7 at h7 ⊢
  refine v_ue (u' := (20, 1024)) rfl ?_
  clear h6
  refine v_putF d_Tr_init_37 fl_Tr_23 (h7.o (by omega) (by decide +kernel)) rfl rfl rfl rfl rfl ?_
  have h8 : PS 22 20 (S7.1, S7.2.1, u2 S7.2.2 1 3 (some 21)) := by have h9 := h7.st (a := 1) (j := 3) (r := 21) (by decide +kernel) (by decide +kernel); exact h9
  generalize ((S7.1, S7.2.1, u2 S7.2.2 1 3 (some 21)) : ShT) = S8 at h8 ⊢
  refine v_aload_n 0 d_Tr_init_40 rfl rfl rfl ?_
  refine v_getr (r := 2) d_Tr_init_41 fl_Tr_9 (h8.o (by omega) (by decide +kernel)) rfl (h8.r (by omega) (by decide +kernel) (by decide +kernel)) rfl ?_
  refine v_iconst (v := 0) d_Tr_init_44 (by decide) rfl ?_
  refine v_iconst (v := 1) d_Tr_init_45 (by decide) rfl ?_
  refine v_iast (n := 16) (j := 0) d_Tr_init_46 (h8.a (by omega) (by decide +kernel)) rfl (by decide) (by decide) rfl ?_
  rw [mA_st]
  refine v_vret d_Tr_init_47 rfl ?_
  exact ⟨rfl, h8, rfl, rfl⟩
set_option maxHeartbeats 4000000 in
set_option maxRecDepth 100000 in
theorem c_Qu_init {C : CT} {l : Launch} {S : ShT} {d : Nat} (hC : OKC C l) (h : PS 23 21 S) (hd : 1 ≤ d) : Sp C l k_Qu_init y_Qu_init (d, 2, 16) [.ref 22] S (mA 0 [((2, 0), 1)]) (mA 0 []) (PR (fun v S' I' J' => v = none ∧ PS 25 23 S' ∧ I' = mA 0 [((2, 0), 1)] ∧ J' = mA 0 [])) := by
  refine Sp.of hC cd_Qu_init (Nat.le_of_ble_eq_true rfl) ?_
  show V C l k_Qu_init (d, 2, 16) _ 0 [(0, .ref 22)] [] S (mA 0 [((2, 0), 1)]) (mA 0 []) (0, 0)
  refine v_aload_n 0 d_Qu_init_0 rfl rfl rfl ?_
  refine v_obj d_Qu_init_1 wo_Qu wo1 wo2 (by show 1 ≤ d; omega) (by decide) rfl ?_
  refine v_aload_n 0 d_Qu_init_4 rfl rfl rfl ?_
  refine v_bipush (v := 8) d_Qu_init_5 (by decide) rfl ?_
  refine v_newa (t := 32) (N := 8) d_Qu_init_7 (Or.inl ⟨rfl, rfl⟩) wa_int rfl (by decide) ⟨Nat.le_of_ble_eq_true rfl, Nat.le_of_ble_eq_true rfl⟩ rfl ?_
  rw [h.1, mA_zf (α := Int32) (by decide), mA_zf (α := Int64) (by intro p hp; cases hp)]
  have h1 : PS 24 21 (ad1 S (32, 8)) := by have h9 := h.al (k := (32, 8)) (by decide) (by decide +kernel); exact h9
  generalize ad1 S (32, 8) = S1 at h1 ⊢
  refine v_ue (u' := (1, 8)) rfl ?_
  refine v_putF d_Qu_init_9 fl_Qu_9 (h1.o (by omega) (by decide +kernel)) rfl rfl rfl rfl rfl ?_
  have h2 : PS 24 22 (S1.1, S1.2.1, u2 S1.2.2 22 0 (some 23)) := by have h9 := h1.st (a := 22) (j := 0) (r := 23) (by decide +kernel) (by decide +kernel); exact h9
  generalize ((S1.1, S1.2.1, u2 S1.2.2 22 0 (some 23)) : ShT) = S2 at h2 ⊢
  refine v_aload_n 0 d_Qu_init_12 rfl rfl rfl ?_
  refine v_bipush (v := 8) d_Qu_init_13 (by decide) rfl ?_
  refine v_newa (t := 32) (N := 8) d_Qu_init_15 (Or.inl ⟨rfl, rfl⟩) wa_int rfl (by decide) ⟨Nat.le_of_ble_eq_true rfl, Nat.le_of_ble_eq_true rfl⟩ rfl ?_
  rw [h2.1, mA_zf (α := Int32) (by decide), mA_zf (α := Int64) (by intro p hp; cases hp)]
  have h3 : PS 25 22 (ad1 S2 (32, 8)) := by have h9 := h2.al (k := (32, 8)) (by decide) (by decide +kernel); exact h9
  generalize ad1 S2 (32, 8) = S3 at h3 ⊢
  refine v_ue (u' := (2, 16)) rfl ?_
  clear h2
  refine v_putF d_Qu_init_17 fl_Qu_15 (h3.o (by omega) (by decide +kernel)) rfl rfl rfl rfl rfl ?_
  have h4 : PS 25 23 (S3.1, S3.2.1, u2 S3.2.2 22 1 (some 24)) := by have h9 := h3.st (a := 22) (j := 1) (r := 24) (by decide +kernel) (by decide +kernel); exact h9
  generalize ((S3.1, S3.2.1, u2 S3.2.2 22 1 (some 24)) : ShT) = S4 at h4 ⊢
  refine v_vret d_Qu_init_20 rfl ?_
  exact ⟨rfl, h4, rfl, rfl⟩
set_option maxHeartbeats 4000000 in
set_option maxRecDepth 100000 in
theorem c_Rk_init {C : CT} {l : Launch} {S : ShT} {d : Nat} (hC : OKC C l) (h : PS 122 120 S) (hd : 1 ≤ d) : Sp C l k_Rk_init y_Rk_init (d, 2, 32) [.ref 121] S (mA 0 [((2, 0), 1)]) (mA 0 []) (PR (fun v S' I' J' => v = none ∧ PS 124 122 S' ∧ I' = mA 0 [((2, 0), 1)] ∧ J' = mA 0 [])) := by
  refine Sp.of hC cd_Rk_init (Nat.le_of_ble_eq_true rfl) ?_
  show V C l k_Rk_init (d, 2, 32) _ 0 [(0, .ref 121)] [] S (mA 0 [((2, 0), 1)]) (mA 0 []) (0, 0)
  refine v_aload_n 0 d_Rk_init_0 rfl rfl rfl ?_
  refine v_obj d_Rk_init_1 wo_Rk wo1 wo2 (by show 1 ≤ d; omega) (by decide) rfl ?_
  refine v_aload_n 0 d_Rk_init_4 rfl rfl rfl ?_
  refine v_bipush (v := 16) d_Rk_init_5 (by decide) rfl ?_
  refine v_newa (t := 32) (N := 16) d_Rk_init_7 (Or.inl ⟨rfl, rfl⟩) wa_int rfl (by decide) ⟨Nat.le_of_ble_eq_true rfl, Nat.le_of_ble_eq_true rfl⟩ rfl ?_
  rw [h.1, mA_zf (α := Int32) (by decide), mA_zf (α := Int64) (by intro p hp; cases hp)]
  have h1 : PS 123 120 (ad1 S (32, 16)) := by have h9 := h.al (k := (32, 16)) (by decide) (by decide +kernel); exact h9
  generalize ad1 S (32, 16) = S1 at h1 ⊢
  refine v_ue (u' := (1, 16)) rfl ?_
  refine v_putF d_Rk_init_9 fl_Rk_9 (h1.o (by omega) (by decide +kernel)) rfl rfl rfl rfl rfl ?_
  have h2 : PS 123 121 (S1.1, S1.2.1, u2 S1.2.2 121 0 (some 122)) := by have h9 := h1.st (a := 121) (j := 0) (r := 122) (by decide +kernel) (by decide +kernel); exact h9
  generalize ((S1.1, S1.2.1, u2 S1.2.2 121 0 (some 122)) : ShT) = S2 at h2 ⊢
  refine v_aload_n 0 d_Rk_init_12 rfl rfl rfl ?_
  refine v_bipush (v := 16) d_Rk_init_13 (by decide) rfl ?_
  refine v_newa (t := 32) (N := 16) d_Rk_init_15 (Or.inl ⟨rfl, rfl⟩) wa_int rfl (by decide) ⟨Nat.le_of_ble_eq_true rfl, Nat.le_of_ble_eq_true rfl⟩ rfl ?_
  rw [h2.1, mA_zf (α := Int32) (by decide), mA_zf (α := Int64) (by intro p hp; cases hp)]
  have h3 : PS 124 121 (ad1 S2 (32, 16)) := by have h9 := h2.al (k := (32, 16)) (by decide) (by decide +kernel); exact h9
  generalize ad1 S2 (32, 16) = S3 at h3 ⊢
  refine v_ue (u' := (2, 32)) rfl ?_
  clear h2
  refine v_putF d_Rk_init_17 fl_Rk_15 (h3.o (by omega) (by decide +kernel)) rfl rfl rfl rfl rfl ?_
  have h4 : PS 124 122 (S3.1, S3.2.1, u2 S3.2.2 121 1 (some 123)) := by have h9 := h3.st (a := 121) (j := 1) (r := 123) (by decide +kernel) (by decide +kernel); exact h9
  generalize ((S3.1, S3.2.1, u2 S3.2.2 121 1 (some 123)) : ShT) = S4 at h4 ⊢
  refine v_vret d_Rk_init_20 rfl ?_
  exact ⟨rfl, h4, rfl, rfl⟩
