theorem v_ue {C : CT} {l : Launch} {K : KT} {R : RT} {Po : PoT} {pc : Nat} {L : LT} {st : List Value} {S : ShT} {I : DI} {J : DJ} {u u' : Nat × Nat} (h : u = u') (k : V C l K R Po pc L st S I J u') : V C l K R Po pc L st S I J u := h ▸ k
theorem k_En_init_0 : ∀ i, i < 16 → kd0 (29 + 3 * i) = (34, 30) := by decide +kernel
theorem a_En_init_0 : ∀ i, i < 16 → (setL.take (26 + 3 * i)).all (fun p => !decide (p.1 = 29 + 3 * i)) = true := by decide +kernel
theorem s_En_init_0 : ∀ i, i < 16 → setL[26 + 3 * i]? = some ((28 + 3 * i), 0) ∧ rf0 (28 + 3 * i) 0 = some (29 + 3 * i) := by decide +kernel
theorem k_En_init_1 : ∀ i, i < 16 → kd0 (30 + 3 * i) = (32, 30) := by decide +kernel
theorem a_En_init_1 : ∀ i, i < 16 → (setL.take (27 + 3 * i)).all (fun p => !decide (p.1 = 30 + 3 * i)) = true := by decide +kernel
theorem s_En_init_1 : ∀ i, i < 16 → setL[27 + 3 * i]? = some ((28 + 3 * i), 1) ∧ rf0 (28 + 3 * i) 1 = some (30 + 3 * i) := by decide +kernel
theorem o_En_init : ∀ i, i < 16 → (kd0 (28 + 3 * i)).1 = 0 := by decide +kernel
set_option maxHeartbeats 4000000 in
set_option maxRecDepth 100000 in
theorem c_En_init {C : CT} {l : Launch} {S : ShT} {d : Nat} (hC : OKC C l) {i : Nat} (hi : i < 16) (h : PS (29 + 3 * i) (26 + 3 * i) S) (hd : 1 ≤ d) : Sp C l k_En_init y_En_init (d, 2, 60) [.ref (28 + 3 * i)] S (mA 0 [((2, 0), 1)]) (mA 0 []) (PR (fun v S' I' J' => v = none ∧ PS (31 + 3 * i) (28 + 3 * i) S' ∧ I' = mA 0 [((2, 0), 1)] ∧ J' = mA 0 [])) := by
  refine Sp.of hC cd_En_init (Nat.le_of_ble_eq_true rfl) ?_
  show V C l k_En_init (d, 2, 60) _ 0 [(0, .ref (28 + 3 * i))] [] S (mA 0 [((2, 0), 1)]) (mA 0 []) (0, 0)
  refine v_aload_n 0 d_En_init_0 rfl rfl rfl ?_
  refine v_obj d_En_init_1 wo_En wo1 wo2 (by show 1 ≤ d; omega) (by decide) rfl ?_
  refine v_aload_n 0 d_En_init_4 rfl rfl rfl ?_
  refine v_bipush (v := 30) d_En_init_5 (by decide) rfl ?_
  refine v_newa (t := 34) (N := 30) d_En_init_7 (Or.inr (Or.inr ⟨rfl, rfl⟩)) wa_long rfl (by decide) ⟨Nat.le_of_ble_eq_true rfl, Nat.le_of_ble_eq_true rfl⟩ rfl ?_
  rw [h.1, mA_zf (α := Int32) (by intro p hp; have := List.mem_singleton.mp hp; subst this; show 2 < _; omega), mA_zf (α := Int64) (by intro p hp; cases hp)]
  have h1 : PS (30 + 3 * i) (26 + 3 * i) (ad1 S (34, 30)) := by have h9 := h.al (k := (34, 30)) (k_En_init_0 i hi) (a_En_init_0 i hi); rw [show (29 + 3 * i) + 1 = (30 + 3 * i) by omega] at h9; exact h9
  generalize ad1 S (34, 30) = S1 at h1 ⊢
  refine v_putF d_En_init_9 fl_En_11 (h1.o (by omega) (o_En_init i hi)) rfl rfl rfl rfl rfl ?_
  have h2 : PS (30 + 3 * i) (27 + 3 * i) (S1.1, S1.2.1, u2 S1.2.2 (28 + 3 * i) 0 (some (29 + 3 * i))) := by have h9 := h1.st (a := (28 + 3 * i)) (j := 0) (r := (29 + 3 * i)) (s_En_init_0 i hi).1 (s_En_init_0 i hi).2; rw [show (26 + 3 * i) + 1 = (27 + 3 * i) by omega] at h9; exact h9
  generalize ((S1.1, S1.2.1, u2 S1.2.2 (28 + 3 * i) 0 (some (29 + 3 * i))) : ShT) = S2 at h2 ⊢
  refine v_aload_n 0 d_En_init_12 rfl rfl rfl ?_
  refine v_bipush (v := 30) d_En_init_13 (by decide) rfl ?_
  refine v_newa (t := 32) (N := 30) d_En_init_15 (Or.inl ⟨rfl, rfl⟩) wa_int rfl (by decide) ⟨Nat.le_of_ble_eq_true rfl, Nat.le_of_ble_eq_true rfl⟩ rfl ?_
  rw [h2.1, mA_zf (α := Int32) (by intro p hp; have := List.mem_singleton.mp hp; subst this; show 2 < _; omega), mA_zf (α := Int64) (by intro p hp; cases hp)]
  have h3 : PS (31 + 3 * i) (27 + 3 * i) (ad1 S2 (32, 30)) := by have h9 := h2.al (k := (32, 30)) (k_En_init_1 i hi) (a_En_init_1 i hi); rw [show (30 + 3 * i) + 1 = (31 + 3 * i) by omega] at h9; exact h9
  generalize ad1 S2 (32, 30) = S3 at h3 ⊢
  refine v_putF d_En_init_17 fl_En_15 (h3.o (by omega) (o_En_init i hi)) rfl rfl rfl rfl rfl ?_
  have h4 : PS (31 + 3 * i) (28 + 3 * i) (S3.1, S3.2.1, u2 S3.2.2 (28 + 3 * i) 1 (some (30 + 3 * i))) := by have h9 := h3.st (a := (28 + 3 * i)) (j := 1) (r := (30 + 3 * i)) (s_En_init_1 i hi).1 (s_En_init_1 i hi).2; rw [show (27 + 3 * i) + 1 = (28 + 3 * i) by omega] at h9; exact h9
  generalize ((S3.1, S3.2.1, u2 S3.2.2 (28 + 3 * i) 1 (some (30 + 3 * i))) : ShT) = S4 at h4 ⊢
  refine v_vret d_En_init_20 rfl ?_
  exact ⟨rfl, h4, rfl, rfl⟩
theorem k_Tm_init_0 : ∀ i, i < 21 → kd0 (80 + 2 * i) = (34, 4) := by decide +kernel
theorem a_Tm_init_0 : ∀ i, i < 21 → (setL.take (77 + 2 * i)).all (fun p => !decide (p.1 = 80 + 2 * i)) = true := by decide +kernel
theorem s_Tm_init_0 : ∀ i, i < 21 → setL[77 + 2 * i]? = some ((79 + 2 * i), 0) ∧ rf0 (79 + 2 * i) 0 = some (80 + 2 * i) := by decide +kernel
theorem o_Tm_init : ∀ i, i < 21 → (kd0 (79 + 2 * i)).1 = 5 := by decide +kernel
set_option maxHeartbeats 4000000 in
set_option maxRecDepth 100000 in
theorem c_Tm_init {C : CT} {l : Launch} {S : ShT} {d : Nat} (hC : OKC C l) {i : Nat} (hi : i < 21) (h : PS (80 + 2 * i) (77 + 2 * i) S) (hd : 1 ≤ d) : Sp C l k_Tm_init y_Tm_init (d, 1, 4) [.ref (79 + 2 * i)] S (mA 0 [((2, 0), 1)]) (mA 0 []) (PR (fun v S' I' J' => v = none ∧ PS (81 + 2 * i) (78 + 2 * i) S' ∧ I' = mA 0 [((2, 0), 1)] ∧ J' = mA 0 [])) := by
  refine Sp.of hC cd_Tm_init (Nat.le_of_ble_eq_true rfl) ?_
  show V C l k_Tm_init (d, 1, 4) _ 0 [(0, .ref (79 + 2 * i))] [] S (mA 0 [((2, 0), 1)]) (mA 0 []) (0, 0)
  refine v_aload_n 0 d_Tm_init_0 rfl rfl rfl ?_
  refine v_obj d_Tm_init_1 wo_Tm wo1 wo2 (by show 1 ≤ d; omega) (by decide) rfl ?_
  refine v_aload_n 0 d_Tm_init_4 rfl rfl rfl ?_
  refine v_iconst (v := 4) d_Tm_init_5 (by decide) rfl ?_
  refine v_newa (t := 34) (N := 4) d_Tm_init_6 (Or.inr (Or.inr ⟨rfl, rfl⟩)) wa_long rfl (by decide) ⟨Nat.le_of_ble_eq_true rfl, Nat.le_of_ble_eq_true rfl⟩ rfl ?_
  rw [h.1, mA_zf (α := Int32) (by intro p hp; have := List.mem_singleton.mp hp; subst this; show 2 < _; omega), mA_zf (α := Int64) (by intro p hp; cases hp)]
  have h1 : PS (81 + 2 * i) (77 + 2 * i) (ad1 S (34, 4)) := by have h9 := h.al (k := (34, 4)) (k_Tm_init_0 i hi) (a_Tm_init_0 i hi); rw [show (80 + 2 * i) + 1 = (81 + 2 * i) by omega] at h9; exact h9
  generalize ad1 S (34, 4) = S1 at h1 ⊢
  refine v_putF d_Tm_init_8 fl_Tm_9 (h1.o (by omega) (o_Tm_init i hi)) rfl rfl rfl rfl rfl ?_
  have h2 : PS (81 + 2 * i) (78 + 2 * i) (S1.1, S1.2.1, u2 S1.2.2 (79 + 2 * i) 0 (some (80 + 2 * i))) := by have h9 := h1.st (a := (79 + 2 * i)) (j := 0) (r := (80 + 2 * i)) (s_Tm_init_0 i hi).1 (s_Tm_init_0 i hi).2; rw [show (77 + 2 * i) + 1 = (78 + 2 * i) by omega] at h9; exact h9
  generalize ((S1.1, S1.2.1, u2 S1.2.2 (79 + 2 * i) 0 (some (80 + 2 * i))) : ShT) = S2 at h2 ⊢
  refine v_vret d_Tm_init_11 rfl ?_
  exact ⟨rfl, h2, rfl, rfl⟩
