set_option maxHeartbeats 4000000 in
set_option maxRecDepth 100000 in
theorem c_Md_init {C : CT} {l : Launch} {S : ShT} {d : Nat} (hC : OKC C l) (h : PS 125 123 S) (hd : 1 ≤ d) : Sp C l k_Md_init y_Md_init (d, 23, 2920) [.ref 124] S (mA 0 [((0, 5), (-1)), ((2, 0), 1)]) (mA 0 []) (PR (fun v S' I' J' => v = none ∧ PS 148 146 S' ∧ I' = mA 0 [((127, 0), (-1)), ((126, 0), 1), ((125, 0), 1), ((124, 30), (-1)), ((0, 5), (-1)), ((2, 0), 1)] ∧ J' = mA 0 [])) := by
  refine Sp.of hC cd_Md_init (Nat.le_of_ble_eq_true rfl) ?_
  show V C l k_Md_init (d, 23, 2920) _ 0 [(0, .ref 124)] [] S (mA 0 [((0, 5), (-1)), ((2, 0), 1)]) (mA 0 []) (0, 0)
  refine v_aload_n 0 d_Md_init_0 rfl rfl rfl ?_
  refine v_obj d_Md_init_1 wo_Md wo1 wo2 (by show 1 ≤ d; omega) (by decide) rfl ?_
  refine v_aload_n 0 d_Md_init_4 rfl rfl rfl ?_
  refine v_bipush (v := 16) d_Md_init_5 (by decide) rfl ?_
  refine v_newa (t := 33) (N := 16) d_Md_init_7 (Or.inr (Or.inl ⟨rfl, rfl⟩)) wa_boolean rfl (by decide) ⟨Nat.le_of_ble_eq_true rfl, Nat.le_of_ble_eq_true rfl⟩ rfl ?_
  rw [h.1, mA_zf (α := Int32) (by decide), mA_zf (α := Int64) (by intro p hp; cases hp)]
  have h1 : PS 126 123 (ad1 S (33, 16)) := by have h9 := h.al (k := (33, 16)) (by decide) (by decide +kernel); exact h9
  generalize ad1 S (33, 16) = S1 at h1 ⊢
  refine v_ue (u' := (1, 16)) rfl ?_
  refine v_putF d_Md_init_9 fl_Md_7 (h1.o (by omega) (by decide +kernel)) rfl rfl rfl rfl rfl ?_
  have h2 : PS 126 124 (S1.1, S1.2.1, u2 S1.2.2 124 1 (some 125)) := by have h9 := h1.st (a := 124) (j := 1) (r := 125) (by decide +kernel) (by decide +kernel); exact h9
  generalize ((S1.1, S1.2.1, u2 S1.2.2 124 1 (some 125)) : ShT) = S2 at h2 ⊢
  refine v_aload_n 0 d_Md_init_12 rfl rfl rfl ?_
  refine v_bipush (v := 16) d_Md_init_13 (by decide) rfl ?_
  refine v_newa (t := 33) (N := 16) d_Md_init_15 (Or.inr (Or.inl ⟨rfl, rfl⟩)) wa_boolean rfl (by decide) ⟨Nat.le_of_ble_eq_true rfl, Nat.le_of_ble_eq_true rfl⟩ rfl ?_
  rw [h2.1, mA_zf (α := Int32) (by decide), mA_zf (α := Int64) (by intro p hp; cases hp)]
  have h3 : PS 127 124 (ad1 S2 (33, 16)) := by have h9 := h2.al (k := (33, 16)) (by decide) (by decide +kernel); exact h9
  generalize ad1 S2 (33, 16) = S3 at h3 ⊢
  refine v_ue (u' := (2, 32)) rfl ?_
  clear h2
  refine v_putF d_Md_init_17 fl_Md_13 (h3.o (by omega) (by decide +kernel)) rfl rfl rfl rfl rfl ?_
  have h4 : PS 127 125 (S3.1, S3.2.1, u2 S3.2.2 124 2 (some 126)) := by have h9 := h3.st (a := 124) (j := 2) (r := 126) (by decide +kernel) (by decide +kernel); exact h9
  generalize ((S3.1, S3.2.1, u2 S3.2.2 124 2 (some 126)) : ShT) = S4 at h4 ⊢
  refine v_aload_n 0 d_Md_init_20 rfl rfl rfl ?_
  refine v_bipush (v := 16) d_Md_init_21 (by decide) rfl ?_
  refine v_newa (t := 32) (N := 16) d_Md_init_23 (Or.inl ⟨rfl, rfl⟩) wa_int rfl (by decide) ⟨Nat.le_of_ble_eq_true rfl, Nat.le_of_ble_eq_true rfl⟩ rfl ?_
  rw [h4.1, mA_zf (α := Int32) (by decide), mA_zf (α := Int64) (by intro p hp; cases hp)]
  have h5 : PS 128 125 (ad1 S4 (32, 16)) := by have h9 := h4.al (k := (32, 16)) (by decide) (by decide +kernel); exact h9
  generalize ad1 S4 (32, 16) = S5 at h5 ⊢
  refine v_ue (u' := (3, 48)) rfl ?_
  clear h4
  refine v_putF d_Md_init_25 fl_Md_16 (h5.o (by omega) (by decide +kernel)) rfl rfl rfl rfl rfl ?_
  have h6 : PS 128 126 (S5.1, S5.2.1, u2 S5.2.2 124 3 (some 127)) := by have h9 := h5.st (a := 124) (j := 3) (r := 127) (by decide +kernel) (by decide +kernel); exact h9
  generalize ((S5.1, S5.2.1, u2 S5.2.2 124 3 (some 127)) : ShT) = S6 at h6 ⊢
  refine v_aload_n 0 d_Md_init_28 rfl rfl rfl ?_
  refine v_sipush (v := 960) d_Md_init_29 (by decide) rfl ?_
  refine v_newa (t := 32) (N := 960) d_Md_init_32 (Or.inl ⟨rfl, rfl⟩) wa_int rfl (by decide) ⟨Nat.le_of_ble_eq_true rfl, Nat.le_of_ble_eq_true rfl⟩ rfl ?_
  rw [h6.1, mA_zf (α := Int32) (by decide), mA_zf (α := Int64) (by intro p hp; cases hp)]
  have h7 : PS 129 126 (ad1 S6 (32, 960)) := by have h9 := h6.al (k := (32, 960)) (by decide) (by decide +kernel); exact h9
  generalize ad1 S6 (32, 960) = S7 at h7 ⊢
  refine v_ue (u' := (4, 1008)) rfl ?_
  clear h6
  refine v_putF d_Md_init_34 fl_Md_20 (h7.o (by omega) (by decide +kernel)) rfl rfl rfl rfl rfl ?_
  have h8 : PS 129 127 (S7.1, S7.2.1, u2 S7.2.2 124 4 (some 128)) := by have h9 := h7.st (a := 124) (j := 4) (r := 128) (by decide +kernel) (by decide +kernel); exact h9
  generalize ((S7.1, S7.2.1, u2 S7.2.2 124 4 (some 128)) : ShT) = S8 at h8 ⊢
  refine v_aload_n 0 d_Md_init_37 rfl rfl rfl ?_
  refine v_bipush (v := 16) d_Md_init_38 (by decide) rfl ?_
  refine v_newa (t := 32) (N := 16) d_Md_init_40 (Or.inl ⟨rfl, rfl⟩) wa_int rfl (by decide) ⟨Nat.le_of_ble_eq_true rfl, Nat.le_of_ble_eq_true rfl⟩ rfl ?_
  rw [h8.1, mA_zf (α := Int32) (by decide), mA_zf (α := Int64) (by intro p hp; cases hp)]
  have h9 : PS 130 127 (ad1 S8 (32, 16)) := by have h9 := h8.al (k := (32, 16)) (by decide) (by decide +kernel); exact h9
  generalize ad1 S8 (32, 16) = S9 at h9 ⊢
  refine v_ue (u' := (5, 1024)) rfl ?_
  clear h8
  refine v_putF d_Md_init_42 fl_Md_23 (h9.o (by omega) (by decide +kernel)) rfl rfl rfl rfl rfl ?_
  have h10 : PS 130 128 (S9.1, S9.2.1, u2 S9.2.2 124 5 (some 129)) := by have h9 := h9.st (a := 124) (j := 5) (r := 129) (by decide +kernel) (by decide +kernel); exact h9
  generalize ((S9.1, S9.2.1, u2 S9.2.2 124 5 (some 129)) : ShT) = S10 at h10 ⊢
  refine v_aload_n 0 d_Md_init_45 rfl rfl rfl ?_
  refine v_bipush (v := 16) d_Md_init_46 (by decide) rfl ?_
  refine v_newa (t := 33) (N := 16) d_Md_init_48 (Or.inr (Or.inl ⟨rfl, rfl⟩)) wa_boolean rfl (by decide) ⟨Nat.le_of_ble_eq_true rfl, Nat.le_of_ble_eq_true rfl⟩ rfl ?_
  rw [h10.1, mA_zf (α := Int32) (by decide), mA_zf (α := Int64) (by intro p hp; cases hp)]
  have h11 : PS 131 128 (ad1 S10 (33, 16)) := by have h9 := h10.al (k := (33, 16)) (by decide) (by decide +kernel); exact h9
  generalize ad1 S10 (33, 16) = S11 at h11 ⊢
  refine v_ue (u' := (6, 1040)) rfl ?_
  clear h10
  refine v_putF d_Md_init_50 fl_Md_26 (h11.o (by omega) (by decide +kernel)) rfl rfl rfl rfl rfl ?_
  have h12 : PS 131 129 (S11.1, S11.2.1, u2 S11.2.2 124 6 (some 130)) := by have h9 := h11.st (a := 124) (j := 6) (r := 130) (by decide +kernel) (by decide +kernel); exact h9
  generalize ((S11.1, S11.2.1, u2 S11.2.2 124 6 (some 130)) : ShT) = S12 at h12 ⊢
  refine v_aload_n 0 d_Md_init_53 rfl rfl rfl ?_
  refine v_bipush (v := 8) d_Md_init_54 (by decide) rfl ?_
  refine v_newa (t := 32) (N := 8) d_Md_init_56 (Or.inl ⟨rfl, rfl⟩) wa_int rfl (by decide) ⟨Nat.le_of_ble_eq_true rfl, Nat.le_of_ble_eq_true rfl⟩ rfl ?_
  rw [h12.1, mA_zf (α := Int32) (by decide), mA_zf (α := Int64) (by intro p hp; cases hp)]
  have h13 : PS 132 129 (ad1 S12 (32, 8)) := by have h9 := h12.al (k := (32, 8)) (by decide) (by decide +kernel); exact h9
  generalize ad1 S12 (32, 8) = S13 at h13 ⊢
  refine v_ue (u' := (7, 1048)) rfl ?_
  clear h12
  refine v_putF d_Md_init_58 fl_Md_29 (h13.o (by omega) (by decide +kernel)) rfl rfl rfl rfl rfl ?_
  have h14 : PS 132 130 (S13.1, S13.2.1, u2 S13.2.2 124 7 (some 131)) := by have h9 := h13.st (a := 124) (j := 7) (r := 131) (by decide +kernel) (by decide +kernel); exact h9
  generalize ((S13.1, S13.2.1, u2 S13.2.2 124 7 (some 131)) : ShT) = S14 at h14 ⊢
  refine v_aload_n 0 d_Md_init_61 rfl rfl rfl ?_
  refine v_bipush (v := 8) d_Md_init_62 (by decide) rfl ?_
  refine v_newa (t := 32) (N := 8) d_Md_init_64 (Or.inl ⟨rfl, rfl⟩) wa_int rfl (by decide) ⟨Nat.le_of_ble_eq_true rfl, Nat.le_of_ble_eq_true rfl⟩ rfl ?_
  rw [h14.1, mA_zf (α := Int32) (by decide), mA_zf (α := Int64) (by intro p hp; cases hp)]
  have h15 : PS 133 130 (ad1 S14 (32, 8)) := by have h9 := h14.al (k := (32, 8)) (by decide) (by decide +kernel); exact h9
  generalize ad1 S14 (32, 8) = S15 at h15 ⊢
  refine v_ue (u' := (8, 1056)) rfl ?_
  clear h14
  refine v_putF d_Md_init_66 fl_Md_32 (h15.o (by omega) (by decide +kernel)) rfl rfl rfl rfl rfl ?_
  have h16 : PS 133 131 (S15.1, S15.2.1, u2 S15.2.2 124 8 (some 132)) := by have h9 := h15.st (a := 124) (j := 8) (r := 132) (by decide +kernel) (by decide +kernel); exact h9
  generalize ((S15.1, S15.2.1, u2 S15.2.2 124 8 (some 132)) : ShT) = S16 at h16 ⊢
  refine v_aload_n 0 d_Md_init_69 rfl rfl rfl ?_
  refine v_bipush (v := 16) d_Md_init_70 (by decide) rfl ?_
  refine v_newa (t := 33) (N := 16) d_Md_init_72 (Or.inr (Or.inl ⟨rfl, rfl⟩)) wa_boolean rfl (by decide) ⟨Nat.le_of_ble_eq_true rfl, Nat.le_of_ble_eq_true rfl⟩ rfl ?_
  rw [h16.1, mA_zf (α := Int32) (by decide), mA_zf (α := Int64) (by intro p hp; cases hp)]
  have h17 : PS 134 131 (ad1 S16 (33, 16)) := by have h9 := h16.al (k := (33, 16)) (by decide) (by decide +kernel); exact h9
  generalize ad1 S16 (33, 16) = S17 at h17 ⊢
  refine v_ue (u' := (9, 1072)) rfl ?_
  clear h16
  refine v_putF d_Md_init_74 fl_Md_35 (h17.o (by omega) (by decide +kernel)) rfl rfl rfl rfl rfl ?_
  have h18 : PS 134 132 (S17.1, S17.2.1, u2 S17.2.2 124 12 (some 133)) := by have h9 := h17.st (a := 124) (j := 12) (r := 133) (by decide +kernel) (by decide +kernel); exact h9
  generalize ((S17.1, S17.2.1, u2 S17.2.2 124 12 (some 133)) : ShT) = S18 at h18 ⊢
  refine v_aload_n 0 d_Md_init_77 rfl rfl rfl ?_
  refine v_bipush (v := 16) d_Md_init_78 (by decide) rfl ?_
  refine v_newa (t := 32) (N := 16) d_Md_init_80 (Or.inl ⟨rfl, rfl⟩) wa_int rfl (by decide) ⟨Nat.le_of_ble_eq_true rfl, Nat.le_of_ble_eq_true rfl⟩ rfl ?_
  rw [h18.1, mA_zf (α := Int32) (by decide), mA_zf (α := Int64) (by intro p hp; cases hp)]
  have h19 : PS 135 132 (ad1 S18 (32, 16)) := by have h9 := h18.al (k := (32, 16)) (by decide) (by decide +kernel); exact h9
  generalize ad1 S18 (32, 16) = S19 at h19 ⊢
  refine v_ue (u' := (10, 1088)) rfl ?_
  clear h18
  refine v_putF d_Md_init_82 fl_Md_38 (h19.o (by omega) (by decide +kernel)) rfl rfl rfl rfl rfl ?_
  have h20 : PS 135 133 (S19.1, S19.2.1, u2 S19.2.2 124 13 (some 134)) := by have h9 := h19.st (a := 124) (j := 13) (r := 134) (by decide +kernel) (by decide +kernel); exact h9
  generalize ((S19.1, S19.2.1, u2 S19.2.2 124 13 (some 134)) : ShT) = S20 at h20 ⊢
  refine v_aload_n 0 d_Md_init_85 rfl rfl rfl ?_
  refine v_sipush (v := 480) d_Md_init_86 (by decide) rfl ?_
  refine v_newa (t := 34) (N := 480) d_Md_init_89 (Or.inr (Or.inr ⟨rfl, rfl⟩)) wa_long rfl (by decide) ⟨Nat.le_of_ble_eq_true rfl, Nat.le_of_ble_eq_true rfl⟩ rfl ?_
  rw [h20.1, mA_zf (α := Int32) (by decide), mA_zf (α := Int64) (by intro p hp; cases hp)]
  have h21 : PS 136 133 (ad1 S20 (34, 480)) := by have h9 := h20.al (k := (34, 480)) (by decide) (by decide +kernel); exact h9
  generalize ad1 S20 (34, 480) = S21 at h21 ⊢
  refine v_ue (u' := (11, 1568)) rfl ?_
  clear h20
  refine v_putF d_Md_init_91 fl_Md_41 (h21.o (by omega) (by decide +kernel)) rfl rfl rfl rfl rfl ?_
  have h22 : PS 136 134 (S21.1, S21.2.1, u2 S21.2.2 124 14 (some 135)) := by have h9 := h21.st (a := 124) (j := 14) (r := 135) (by decide +kernel) (by decide +kernel); exact h9
  generalize ((S21.1, S21.2.1, u2 S21.2.2 124 14 (some 135)) : ShT) = S22 at h22 ⊢
  refine v_aload_n 0 d_Md_init_94 rfl rfl rfl ?_
  refine v_sipush (v := 480) d_Md_init_95 (by decide) rfl ?_
  refine v_newa (t := 32) (N := 480) d_Md_init_98 (Or.inl ⟨rfl, rfl⟩) wa_int rfl (by decide) ⟨Nat.le_of_ble_eq_true rfl, Nat.le_of_ble_eq_true rfl⟩ rfl ?_
  rw [h22.1, mA_zf (α := Int32) (by decide), mA_zf (α := Int64) (by intro p hp; cases hp)]
  have h23 : PS 137 134 (ad1 S22 (32, 480)) := by have h9 := h22.al (k := (32, 480)) (by decide) (by decide +kernel); exact h9
  generalize ad1 S22 (32, 480) = S23 at h23 ⊢
  refine v_ue (u' := (12, 2048)) rfl ?_
  clear h22
  refine v_putF d_Md_init_100 fl_Md_45 (h23.o (by omega) (by decide +kernel)) rfl rfl rfl rfl rfl ?_
  have h24 : PS 137 135 (S23.1, S23.2.1, u2 S23.2.2 124 15 (some 136)) := by have h9 := h23.st (a := 124) (j := 15) (r := 136) (by decide +kernel) (by decide +kernel); exact h9
  generalize ((S23.1, S23.2.1, u2 S23.2.2 124 15 (some 136)) : ShT) = S24 at h24 ⊢
  refine v_aload_n 0 d_Md_init_103 rfl rfl rfl ?_
  refine v_sipush (v := 480) d_Md_init_104 (by decide) rfl ?_
  refine v_newa (t := 32) (N := 480) d_Md_init_107 (Or.inl ⟨rfl, rfl⟩) wa_int rfl (by decide) ⟨Nat.le_of_ble_eq_true rfl, Nat.le_of_ble_eq_true rfl⟩ rfl ?_
  rw [h24.1, mA_zf (α := Int32) (by decide), mA_zf (α := Int64) (by intro p hp; cases hp)]
  have h25 : PS 138 135 (ad1 S24 (32, 480)) := by have h9 := h24.al (k := (32, 480)) (by decide) (by decide +kernel); exact h9
  generalize ad1 S24 (32, 480) = S25 at h25 ⊢
  refine v_ue (u' := (13, 2528)) rfl ?_
  clear h24
  refine v_putF d_Md_init_109 fl_Md_48 (h25.o (by omega) (by decide +kernel)) rfl rfl rfl rfl rfl ?_
  have h26 : PS 138 136 (S25.1, S25.2.1, u2 S25.2.2 124 16 (some 137)) := by have h9 := h25.st (a := 124) (j := 16) (r := 137) (by decide +kernel) (by decide +kernel); exact h9
  generalize ((S25.1, S25.2.1, u2 S25.2.2 124 16 (some 137)) : ShT) = S26 at h26 ⊢
  refine v_aload_n 0 d_Md_init_112 rfl rfl rfl ?_
  refine v_bipush (v := 40) d_Md_init_113 (by decide) rfl ?_
  refine v_newa (t := 32) (N := 40) d_Md_init_115 (Or.inl ⟨rfl, rfl⟩) wa_int rfl (by decide) ⟨Nat.le_of_ble_eq_true rfl, Nat.le_of_ble_eq_true rfl⟩ rfl ?_
  rw [h26.1, mA_zf (α := Int32) (by decide), mA_zf (α := Int64) (by intro p hp; cases hp)]
  have h27 : PS 139 136 (ad1 S26 (32, 40)) := by have h9 := h26.al (k := (32, 40)) (by decide) (by decide +kernel); exact h9
  generalize ad1 S26 (32, 40) = S27 at h27 ⊢
  refine v_ue (u' := (14, 2568)) rfl ?_
  clear h26
  refine v_putF d_Md_init_117 fl_Md_51 (h27.o (by omega) (by decide +kernel)) rfl rfl rfl rfl rfl ?_
  have h28 : PS 139 137 (S27.1, S27.2.1, u2 S27.2.2 124 17 (some 138)) := by have h9 := h27.st (a := 124) (j := 17) (r := 138) (by decide +kernel) (by decide +kernel); exact h9
  generalize ((S27.1, S27.2.1, u2 S27.2.2 124 17 (some 138)) : ShT) = S28 at h28 ⊢
  refine v_aload_n 0 d_Md_init_120 rfl rfl rfl ?_
  refine v_bipush (v := 40) d_Md_init_121 (by decide) rfl ?_
  refine v_newa (t := 32) (N := 40) d_Md_init_123 (Or.inl ⟨rfl, rfl⟩) wa_int rfl (by decide) ⟨Nat.le_of_ble_eq_true rfl, Nat.le_of_ble_eq_true rfl⟩ rfl ?_
  rw [h28.1, mA_zf (α := Int32) (by decide), mA_zf (α := Int64) (by intro p hp; cases hp)]
  have h29 : PS 140 137 (ad1 S28 (32, 40)) := by have h9 := h28.al (k := (32, 40)) (by decide) (by decide +kernel); exact h9
  generalize ad1 S28 (32, 40) = S29 at h29 ⊢
  refine v_ue (u' := (15, 2608)) rfl ?_
  clear h28
  refine v_putF d_Md_init_125 fl_Md_54 (h29.o (by omega) (by decide +kernel)) rfl rfl rfl rfl rfl ?_
  have h30 : PS 140 138 (S29.1, S29.2.1, u2 S29.2.2 124 19 (some 139)) := by have h9 := h29.st (a := 124) (j := 19) (r := 139) (by decide +kernel) (by decide +kernel); exact h9
  generalize ((S29.1, S29.2.1, u2 S29.2.2 124 19 (some 139)) : ShT) = S30 at h30 ⊢
  refine v_aload_n 0 d_Md_init_128 rfl rfl rfl ?_
  refine v_bipush (v := 40) d_Md_init_129 (by decide) rfl ?_
  refine v_newa (t := 33) (N := 40) d_Md_init_131 (Or.inr (Or.inl ⟨rfl, rfl⟩)) wa_boolean rfl (by decide) ⟨Nat.le_of_ble_eq_true rfl, Nat.le_of_ble_eq_true rfl⟩ rfl ?_
  rw [h30.1, mA_zf (α := Int32) (by decide), mA_zf (α := Int64) (by intro p hp; cases hp)]
  have h31 : PS 141 138 (ad1 S30 (33, 40)) := by have h9 := h30.al (k := (33, 40)) (by decide) (by decide +kernel); exact h9
  generalize ad1 S30 (33, 40) = S31 at h31 ⊢
  refine v_ue (u' := (16, 2648)) rfl ?_
  clear h30
  refine v_putF d_Md_init_133 fl_Md_57 (h31.o (by omega) (by decide +kernel)) rfl rfl rfl rfl rfl ?_
  have h32 : PS 141 139 (S31.1, S31.2.1, u2 S31.2.2 124 20 (some 140)) := by have h9 := h31.st (a := 124) (j := 20) (r := 140) (by decide +kernel) (by decide +kernel); exact h9
  generalize ((S31.1, S31.2.1, u2 S31.2.2 124 20 (some 140)) : ShT) = S32 at h32 ⊢
  refine v_aload_n 0 d_Md_init_136 rfl rfl rfl ?_
  refine v_bipush (v := 40) d_Md_init_137 (by decide) rfl ?_
  refine v_newa (t := 32) (N := 40) d_Md_init_139 (Or.inl ⟨rfl, rfl⟩) wa_int rfl (by decide) ⟨Nat.le_of_ble_eq_true rfl, Nat.le_of_ble_eq_true rfl⟩ rfl ?_
  rw [h32.1, mA_zf (α := Int32) (by decide), mA_zf (α := Int64) (by intro p hp; cases hp)]
  have h33 : PS 142 139 (ad1 S32 (32, 40)) := by have h9 := h32.al (k := (32, 40)) (by decide) (by decide +kernel); exact h9
  generalize ad1 S32 (32, 40) = S33 at h33 ⊢
  refine v_ue (u' := (17, 2688)) rfl ?_
  clear h32
  refine v_putF d_Md_init_141 fl_Md_60 (h33.o (by omega) (by decide +kernel)) rfl rfl rfl rfl rfl ?_
  have h34 : PS 142 140 (S33.1, S33.2.1, u2 S33.2.2 124 21 (some 141)) := by have h9 := h33.st (a := 124) (j := 21) (r := 141) (by decide +kernel) (by decide +kernel); exact h9
  generalize ((S33.1, S33.2.1, u2 S33.2.2 124 21 (some 141)) : ShT) = S34 at h34 ⊢
  refine v_aload_n 0 d_Md_init_144 rfl rfl rfl ?_
  refine v_bipush (v := 40) d_Md_init_145 (by decide) rfl ?_
  refine v_newa (t := 32) (N := 40) d_Md_init_147 (Or.inl ⟨rfl, rfl⟩) wa_int rfl (by decide) ⟨Nat.le_of_ble_eq_true rfl, Nat.le_of_ble_eq_true rfl⟩ rfl ?_
  rw [h34.1, mA_zf (α := Int32) (by decide), mA_zf (α := Int64) (by intro p hp; cases hp)]
  have h35 : PS 143 140 (ad1 S34 (32, 40)) := by have h9 := h34.al (k := (32, 40)) (by decide) (by decide +kernel); exact h9
  generalize ad1 S34 (32, 40) = S35 at h35 ⊢
  refine v_ue (u' := (18, 2728)) rfl ?_
  clear h34
  refine v_putF d_Md_init_149 fl_Md_63 (h35.o (by omega) (by decide +kernel)) rfl rfl rfl rfl rfl ?_
  have h36 : PS 143 141 (S35.1, S35.2.1, u2 S35.2.2 124 22 (some 142)) := by have h9 := h35.st (a := 124) (j := 22) (r := 142) (by decide +kernel) (by decide +kernel); exact h9
  generalize ((S35.1, S35.2.1, u2 S35.2.2 124 22 (some 142)) : ShT) = S36 at h36 ⊢
  refine v_aload_n 0 d_Md_init_152 rfl rfl rfl ?_
  refine v_bipush (v := 40) d_Md_init_153 (by decide) rfl ?_
  refine v_newa (t := 32) (N := 40) d_Md_init_155 (Or.inl ⟨rfl, rfl⟩) wa_int rfl (by decide) ⟨Nat.le_of_ble_eq_true rfl, Nat.le_of_ble_eq_true rfl⟩ rfl ?_
  rw [h36.1, mA_zf (α := Int32) (by decide), mA_zf (α := Int64) (by intro p hp; cases hp)]
  have h37 : PS 144 141 (ad1 S36 (32, 40)) := by have h9 := h36.al (k := (32, 40)) (by decide) (by decide +kernel); exact h9
  generalize ad1 S36 (32, 40) = S37 at h37 ⊢
  refine v_ue (u' := (19, 2768)) rfl ?_
  clear h36
  refine v_putF d_Md_init_157 fl_Md_66 (h37.o (by omega) (by decide +kernel)) rfl rfl rfl rfl rfl ?_
  have h38 : PS 144 142 (S37.1, S37.2.1, u2 S37.2.2 124 23 (some 143)) := by have h9 := h37.st (a := 124) (j := 23) (r := 143) (by decide +kernel) (by decide +kernel); exact h9
  generalize ((S37.1, S37.2.1, u2 S37.2.2 124 23 (some 143)) : ShT) = S38 at h38 ⊢
  refine v_aload_n 0 d_Md_init_160 rfl rfl rfl ?_
  refine v_bipush (v := 60) d_Md_init_161 (by decide) rfl ?_
  refine v_newa (t := 34) (N := 60) d_Md_init_163 (Or.inr (Or.inr ⟨rfl, rfl⟩)) wa_long rfl (by decide) ⟨Nat.le_of_ble_eq_true rfl, Nat.le_of_ble_eq_true rfl⟩ rfl ?_
  rw [h38.1, mA_zf (α := Int32) (by decide), mA_zf (α := Int64) (by intro p hp; cases hp)]
  have h39 : PS 145 142 (ad1 S38 (34, 60)) := by have h9 := h38.al (k := (34, 60)) (by decide) (by decide +kernel); exact h9
  generalize ad1 S38 (34, 60) = S39 at h39 ⊢
  refine v_ue (u' := (20, 2828)) rfl ?_
  clear h38
  refine v_putF d_Md_init_165 fl_Md_69 (h39.o (by omega) (by decide +kernel)) rfl rfl rfl rfl rfl ?_
  have h40 : PS 145 143 (S39.1, S39.2.1, u2 S39.2.2 124 25 (some 144)) := by have h9 := h39.st (a := 124) (j := 25) (r := 144) (by decide +kernel) (by decide +kernel); exact h9
  generalize ((S39.1, S39.2.1, u2 S39.2.2 124 25 (some 144)) : ShT) = S40 at h40 ⊢
  refine v_aload_n 0 d_Md_init_168 rfl rfl rfl ?_
  refine v_bipush (v := 60) d_Md_init_169 (by decide) rfl ?_
  refine v_newa (t := 32) (N := 60) d_Md_init_171 (Or.inl ⟨rfl, rfl⟩) wa_int rfl (by decide) ⟨Nat.le_of_ble_eq_true rfl, Nat.le_of_ble_eq_true rfl⟩ rfl ?_
  rw [h40.1, mA_zf (α := Int32) (by decide), mA_zf (α := Int64) (by intro p hp; cases hp)]
  have h41 : PS 146 143 (ad1 S40 (32, 60)) := by have h9 := h40.al (k := (32, 60)) (by decide) (by decide +kernel); exact h9
  generalize ad1 S40 (32, 60) = S41 at h41 ⊢
  refine v_ue (u' := (21, 2888)) rfl ?_
  clear h40
  refine v_putF d_Md_init_173 fl_Md_72 (h41.o (by omega) (by decide +kernel)) rfl rfl rfl rfl rfl ?_
  have h42 : PS 146 144 (S41.1, S41.2.1, u2 S41.2.2 124 26 (some 145)) := by have h9 := h41.st (a := 124) (j := 26) (r := 145) (by decide +kernel) (by decide +kernel); exact h9
  generalize ((S41.1, S41.2.1, u2 S41.2.2 124 26 (some 145)) : ShT) = S42 at h42 ⊢
  refine v_aload_n 0 d_Md_init_176 rfl rfl rfl ?_
  refine v_iconst (v := (-1)) d_Md_init_177 (by decide) rfl ?_
  refine v_puti d_Md_init_178 fl_Md_75 (h42.o (by omega) (by decide +kernel)) rfl rfl rfl ?_
  rw [mA_st]
  refine v_aload_n 0 d_Md_init_181 rfl rfl rfl ?_
  refine v_bipush (v := 16) d_Md_init_182 (by decide) rfl ?_
  refine v_newa (t := 32) (N := 16) d_Md_init_184 (Or.inl ⟨rfl, rfl⟩) wa_int rfl (by decide) ⟨Nat.le_of_ble_eq_true rfl, Nat.le_of_ble_eq_true rfl⟩ rfl ?_
  rw [h42.1, mA_zf (α := Int32) (by decide), mA_zf (α := Int64) (by intro p hp; cases hp)]
  have h43 : PS 147 144 (ad1 S42 (32, 16)) := by have h9 := h42.al (k := (32, 16)) (by decide) (by decide +kernel); exact h9
  generalize ad1 S42 (32, 16) = S43 at h43 ⊢
  refine v_ue (u' := (22, 2904)) rfl ?_
  clear h42
  refine v_putF d_Md_init_186 fl_Md_79 (h43.o (by omega) (by decide +kernel)) rfl rfl rfl rfl rfl ?_
  have h44 : PS 147 145 (S43.1, S43.2.1, u2 S43.2.2 124 31 (some 146)) := by have h9 := h43.st (a := 124) (j := 31) (r := 146) (by decide +kernel) (by decide +kernel); exact h9
  generalize ((S43.1, S43.2.1, u2 S43.2.2 124 31 (some 146)) : ShT) = S44 at h44 ⊢
  refine v_aload_n 0 d_Md_init_189 rfl rfl rfl ?_
  refine v_bipush (v := 16) d_Md_init_190 (by decide) rfl ?_
  refine v_newa (t := 32) (N := 16) d_Md_init_192 (Or.inl ⟨rfl, rfl⟩) wa_int rfl (by decide) ⟨Nat.le_of_ble_eq_true rfl, Nat.le_of_ble_eq_true rfl⟩ rfl ?_
  rw [h44.1, mA_zf (α := Int32) (by decide), mA_zf (α := Int64) (by intro p hp; cases hp)]
  have h45 : PS 148 145 (ad1 S44 (32, 16)) := by have h9 := h44.al (k := (32, 16)) (by decide) (by decide +kernel); exact h9
  generalize ad1 S44 (32, 16) = S45 at h45 ⊢
  refine v_ue (u' := (23, 2920)) rfl ?_
  clear h44
  refine v_putF d_Md_init_194 fl_Md_82 (h45.o (by omega) (by decide +kernel)) rfl rfl rfl rfl rfl ?_
  have h46 : PS 148 146 (S45.1, S45.2.1, u2 S45.2.2 124 32 (some 147)) := by have h9 := h45.st (a := 124) (j := 32) (r := 147) (by decide +kernel) (by decide +kernel); exact h9
  generalize ((S45.1, S45.2.1, u2 S45.2.2 124 32 (some 147)) : ShT) = S46 at h46 ⊢
  refine v_aload_n 0 d_Md_init_197 rfl rfl rfl ?_
  refine v_getr (r := 125) d_Md_init_198 fl_Md_7 (h46.o (by omega) (by decide +kernel)) rfl (h46.r (by omega) (by decide +kernel) (by decide +kernel)) rfl ?_
  refine v_iconst (v := 0) d_Md_init_201 (by decide) rfl ?_
  refine v_iconst (v := 1) d_Md_init_202 (by decide) rfl ?_
  refine v_zast (n := 16) (j := 0) d_Md_init_203 (h46.a (by omega) (by decide +kernel)) rfl (by decide) (by decide) (by decide) rfl ?_
  rw [mA_st]
  refine v_aload_n 0 d_Md_init_204 rfl rfl rfl ?_
  refine v_getr (r := 126) d_Md_init_205 fl_Md_13 (h46.o (by omega) (by decide +kernel)) rfl (h46.r (by omega) (by decide +kernel) (by decide +kernel)) rfl ?_
  refine v_iconst (v := 0) d_Md_init_208 (by decide) rfl ?_
  refine v_iconst (v := 1) d_Md_init_209 (by decide) rfl ?_
  refine v_zast (n := 16) (j := 0) d_Md_init_210 (h46.a (by omega) (by decide +kernel)) rfl (by decide) (by decide) (by decide) rfl ?_
  rw [mA_st]
  refine v_aload_n 0 d_Md_init_211 rfl rfl rfl ?_
  refine v_getr (r := 127) d_Md_init_212 fl_Md_16 (h46.o (by omega) (by decide +kernel)) rfl (h46.r (by omega) (by decide +kernel) (by decide +kernel)) rfl ?_
  refine v_iconst (v := 0) d_Md_init_215 (by decide) rfl ?_
  refine v_iconst (v := (-1)) d_Md_init_216 (by decide) rfl ?_
  refine v_iast (n := 16) (j := 0) d_Md_init_217 (h46.a (by omega) (by decide +kernel)) rfl (by decide) (by decide) rfl ?_
  rw [mA_st]
  refine v_vret d_Md_init_218 rfl ?_
  exact ⟨rfl, h46, rfl, rfl⟩
