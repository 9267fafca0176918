set_option maxHeartbeats 4000000 in
set_option maxRecDepth 100000 in
theorem c_Fi_init {C : CT} {l : Launch} {S : ShT} {d : Nat} (hC : OKC C l) (h : PS 1 0 S) (hd : 3 ≤ d) : Sp C l k_Fi_init y_Fi_init (d, 123, 2383) [.ref 0] S (mA 0 []) (mA 0 []) (PR (fun v S' I' J' => v = none ∧ PS 124 123 S' ∧ I' = mA 0 [((0, 5), (-1)), ((2, 0), 1)] ∧ J' = mA 0 [])) := by
  refine Sp.of hC cd_Fi_init (Nat.le_of_ble_eq_true rfl) ?_
  show V C l k_Fi_init (d, 123, 2383) _ 0 [(0, .ref 0)] [] S (mA 0 []) (mA 0 []) (0, 0)
  refine v_aload_n 0 d_Fi_init_0 rfl rfl rfl ?_
  refine v_obj d_Fi_init_1 wo_Fi wo1 wo2 (by show 1 ≤ d; omega) (by decide) rfl ?_
  refine v_aload_n 0 d_Fi_init_4 rfl rfl rfl ?_
  refine v_new (ci := 6) (N := 4) d_Fi_init_5 (by decide) wl_Fi_7 wn_Tr wi_Tr ⟨Nat.le_of_ble_eq_true rfl, Nat.le_of_ble_eq_true rfl⟩ rfl ?_
  rw [h.1, mA_zf (α := Int32) (by decide), mA_zf (α := Int64) (by intro p hp; cases hp)]
  have h1 : PS 2 0 (ad1 S (6, 0)) := by have h9 := h.al (k := (6, 0)) (by decide) (by decide +kernel); exact h9
  generalize ad1 S (6, 0) = S1 at h1 ⊢
  refine v_ue (u' := (1, 4)) rfl ?_
  refine v_dup d_Fi_init_8 rfl rfl ?_
  refine v_callI (as := []) d_Fi_init_9 cs_Fi_9 (c_Tr_init hC (d := d - 1) h1 (by omega)) rfl rfl (by decide) (by show (d - 1) + 1 ≤ d; omega) ⟨Nat.le_of_ble_eq_true rfl, Nat.le_of_ble_eq_true rfl⟩ rfl (fun v9 S9 I9 J9 hP => ?_) (fun _ _ _ _ _ hP => False.elim hP)
  obtain ⟨rfl, h2, rfl, rfl⟩ := hP
  generalize S9 = S2 at h2 ⊢
  refine v_ue (u' := (21, 1028)) rfl ?_
  refine v_putF d_Fi_init_12 fl_Fi_10 (h2.o (by omega) (by decide +kernel)) rfl rfl rfl rfl rfl ?_
  have h3 : PS 22 21 (S2.1, S2.2.1, u2 S2.2.2 0 0 (some 1)) := by have h9 := h2.st (a := 0) (j := 0) (r := 1) (by decide +kernel) (by decide +kernel); exact h9
  generalize ((S2.1, S2.2.1, u2 S2.2.2 0 0 (some 1)) : ShT) = S3 at h3 ⊢
  refine v_aload_n 0 d_Fi_init_15 rfl rfl rfl ?_
  refine v_new (ci := 3) (N := 4) d_Fi_init_16 (by decide) wl_Fi_16 wn_Qu wi_Qu ⟨Nat.le_of_ble_eq_true rfl, Nat.le_of_ble_eq_true rfl⟩ rfl ?_
  rw [h3.1, mA_zf (α := Int32) (by decide), mA_zf (α := Int64) (by intro p hp; cases hp)]
  have h4 : PS 23 21 (ad1 S3 (3, 0)) := by have h9 := h3.al (k := (3, 0)) (by decide) (by decide +kernel); exact h9
  generalize ad1 S3 (3, 0) = S4 at h4 ⊢
  refine v_ue (u' := (22, 1032)) rfl ?_
  clear h3
  refine v_dup d_Fi_init_19 rfl rfl ?_
  refine v_callI (as := []) d_Fi_init_20 cs_Fi_18 (c_Qu_init hC (d := d - 1) h4 (by omega)) rfl rfl (by decide) (by show (d - 1) + 1 ≤ d; omega) ⟨Nat.le_of_ble_eq_true rfl, Nat.le_of_ble_eq_true rfl⟩ rfl (fun v9 S9 I9 J9 hP => ?_) (fun _ _ _ _ _ hP => False.elim hP)
  obtain ⟨rfl, h5, rfl, rfl⟩ := hP
  generalize S9 = S5 at h5 ⊢
  refine v_ue (u' := (24, 1048)) rfl ?_
  refine v_putF d_Fi_init_23 fl_Fi_19 (h5.o (by omega) (by decide +kernel)) rfl rfl rfl rfl rfl ?_
  have h6 : PS 25 24 (S5.1, S5.2.1, u2 S5.2.2 0 1 (some 22)) := by have h9 := h5.st (a := 0) (j := 1) (r := 22) (by decide +kernel) (by decide +kernel); exact h9
  generalize ((S5.1, S5.2.1, u2 S5.2.2 0 1 (some 22)) : ShT) = S6 at h6 ⊢
  refine v_aload_n 0 d_Fi_init_26 rfl rfl rfl ?_
  refine v_new (ci := 1) (N := 3) d_Fi_init_27 (by decide) wl_Fi_23 wn_Ix wi_Ix ⟨Nat.le_of_ble_eq_true rfl, Nat.le_of_ble_eq_true rfl⟩ rfl ?_
  rw [h6.1, mA_zf (α := Int32) (by decide), mA_zf (α := Int64) (by intro p hp; cases hp)]
  have h7 : PS 26 24 (ad1 S6 (1, 0)) := by have h9 := h6.al (k := (1, 0)) (by decide) (by decide +kernel); exact h9
  generalize ad1 S6 (1, 0) = S7 at h7 ⊢
  refine v_ue (u' := (25, 1051)) rfl ?_
  clear h6
  refine v_dup d_Fi_init_30 rfl rfl ?_
  refine v_callI (as := []) d_Fi_init_31 cs_Fi_25 (c_Ix_init hC (d := d - 1) h7 (by omega)) rfl rfl (by decide) (by show (d - 1) + 1 ≤ d; omega) ⟨Nat.le_of_ble_eq_true rfl, Nat.le_of_ble_eq_true rfl⟩ rfl (fun v9 S9 I9 J9 hP => ?_) (fun _ _ _ _ _ hP => False.elim hP)
  obtain ⟨rfl, h8, rfl, rfl⟩ := hP
  generalize S9 = S8 at h8 ⊢
  refine v_ue (u' := (75, 2091)) rfl ?_
  refine v_putF d_Fi_init_34 fl_Fi_26 (h8.o (by omega) (by decide +kernel)) rfl rfl rfl rfl rfl ?_
  have h9 : PS 76 75 (S8.1, S8.2.1, u2 S8.2.2 0 2 (some 25)) := by have h9 := h8.st (a := 0) (j := 2) (r := 25) (by decide +kernel) (by decide +kernel); exact h9
  generalize ((S8.1, S8.2.1, u2 S8.2.2 0 2 (some 25)) : ShT) = S9 at h9 ⊢
  refine v_aload_n 0 d_Fi_init_37 rfl rfl rfl ?_
  refine v_new (ci := 2) (N := 7) d_Fi_init_38 (by decide) wl_Fi_30 wn_Qy wi_Qy ⟨Nat.le_of_ble_eq_true rfl, Nat.le_of_ble_eq_true rfl⟩ rfl ?_
  rw [h9.1, mA_zf (α := Int32) (by decide), mA_zf (α := Int64) (by intro p hp; cases hp)]
  have h10 : PS 77 75 (ad1 S9 (2, 0)) := by have h9 := h9.al (k := (2, 0)) (by decide) (by decide +kernel); exact h9
  generalize ad1 S9 (2, 0) = S10 at h10 ⊢
  refine v_ue (u' := (76, 2098)) rfl ?_
  clear h9
  refine v_dup d_Fi_init_41 rfl rfl ?_
  refine v_callI (as := []) d_Fi_init_42 cs_Fi_32 (c_Qy_init hC (d := d - 1) h10 (by omega)) rfl rfl (by decide) (by show (d - 1) + 1 ≤ d; omega) ⟨Nat.le_of_ble_eq_true rfl, Nat.le_of_ble_eq_true rfl⟩ rfl (fun v9 S9 I9 J9 hP => ?_) (fun _ _ _ _ _ hP => False.elim hP)
  obtain ⟨rfl, h11, rfl, rfl⟩ := hP
  generalize S9 = S11 at h11 ⊢
  refine v_ue (u' := (120, 2348)) rfl ?_
  refine v_putF d_Fi_init_45 fl_Fi_33 (h11.o (by omega) (by decide +kernel)) rfl rfl rfl rfl rfl ?_
  have h12 : PS 121 120 (S11.1, S11.2.1, u2 S11.2.2 0 3 (some 76)) := by have h9 := h11.st (a := 0) (j := 3) (r := 76) (by decide +kernel) (by decide +kernel); exact h9
  generalize ((S11.1, S11.2.1, u2 S11.2.2 0 3 (some 76)) : ShT) = S12 at h12 ⊢
  refine v_aload_n 0 d_Fi_init_48 rfl rfl rfl ?_
  refine v_new (ci := 4) (N := 3) d_Fi_init_49 (by decide) wl_Fi_37 wn_Rk wi_Rk ⟨Nat.le_of_ble_eq_true rfl, Nat.le_of_ble_eq_true rfl⟩ rfl ?_
  rw [h12.1, mA_zf (α := Int32) (by decide), mA_zf (α := Int64) (by intro p hp; cases hp)]
  have h13 : PS 122 120 (ad1 S12 (4, 0)) := by have h9 := h12.al (k := (4, 0)) (by decide) (by decide +kernel); exact h9
  generalize ad1 S12 (4, 0) = S13 at h13 ⊢
  refine v_ue (u' := (121, 2351)) rfl ?_
  clear h12
  refine v_dup d_Fi_init_52 rfl rfl ?_
  refine v_callI (as := []) d_Fi_init_53 cs_Fi_39 (c_Rk_init hC (d := d - 1) h13 (by omega)) rfl rfl (by decide) (by show (d - 1) + 1 ≤ d; omega) ⟨Nat.le_of_ble_eq_true rfl, Nat.le_of_ble_eq_true rfl⟩ rfl (fun v9 S9 I9 J9 hP => ?_) (fun _ _ _ _ _ hP => False.elim hP)
  obtain ⟨rfl, h14, rfl, rfl⟩ := hP
  generalize S9 = S14 at h14 ⊢
  refine v_ue (u' := (123, 2383)) rfl ?_
  refine v_putF d_Fi_init_56 fl_Fi_40 (h14.o (by omega) (by decide +kernel)) rfl rfl rfl rfl rfl ?_
  have h15 : PS 124 123 (S14.1, S14.2.1, u2 S14.2.2 0 4 (some 121)) := by have h9 := h14.st (a := 0) (j := 4) (r := 121) (by decide +kernel) (by decide +kernel); exact h9
  generalize ((S14.1, S14.2.1, u2 S14.2.2 0 4 (some 121)) : ShT) = S15 at h15 ⊢
  refine v_aload_n 0 d_Fi_init_59 rfl rfl rfl ?_
  refine v_iconst (v := (-1)) d_Fi_init_60 (by decide) rfl ?_
  refine v_puti d_Fi_init_61 fl_Fi_44 (h15.o (by omega) (by decide +kernel)) rfl rfl rfl ?_
  rw [mA_st]
  refine v_vret d_Fi_init_64 rfl ?_
  exact ⟨rfl, h15, rfl, rfl⟩
