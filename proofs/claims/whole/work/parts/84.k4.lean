theorem and15 (w : Int32) : ∃ j : Nat, j < 16 ∧ w &&& 15 = nI j := by
  have h : (w &&& 15).toBitVec.toNat < 16 := by
    rw [Int32.toBitVec_and, BitVec.toNat_and, show (15 : Int32).toBitVec.toNat = 15 by decide]
    exact Nat.lt_succ_of_le Nat.and_le_right
  refine ⟨(w &&& 15).toBitVec.toNat, h, ?_⟩
  apply Int32.toBitVec_inj.mp
  apply BitVec.eq_of_toNat_eq
  generalize (w &&& 15).toBitVec.toNat = n at h ⊢
  have hA : ∀ n : Nat, n < 16 → (nI n).toBitVec.toNat = n := by decide +kernel
  exact (hA n h).symm
def PoL : PoT := fun r _ _ _ => r = .inl (some (.int 1))
set_option maxHeartbeats 4000000 in
set_option maxRecDepth 100000 in
theorem law_loop {C : CT} {l : Launch} (hC : OKC C l) (hN : cN C ≤ 2560) : ∀ (n k : Nat) (S : ShT) (I : DI) (J : DJ) (x : Int32) (u : Nat × Nat), x = nI (5 * k) → k ≤ 512 → 512 < k + n → SHP S → REL I J I J → u.1 ≤ 149 + k → u.2 ≤ 5344 + 6 * k → V C l k_Lw_law (10, 601024, 7293034) PoL 23 [(4, .int x), (3, .ref 148), (2, .ref 124), (1, .ref 0), (0, .retAddr 0)] [] S I J u := by
  intro n
  induction n with
  | zero => intro k S I J x u _ h1 h2; omega
  | succ n ih =>
    intro k S I J x u ex hk hkn hS hr hu1 hu2
    refine v_iload 0 d_Lw_law_23 rfl rfl ?_
    refine v_sload_n 4 d_Lw_law_25 rfl rfl rfl ?_
    refine v_slen d_Lw_law_26 rfl ?_
    refine v_iconst (v := 5) d_Lw_law_27 (by decide) rfl ?_
    refine v_isub d_Lw_law_28 rfl ?_
    refine v_nmi (fun z1 ez1 => ?_)
    refine v_icmp_gt (tgt := 944) d_Lw_law_29 (by decide) rfl (fun c1 => ?_) (fun c1 => ?_)
    · refine v_iconst (v := 1) d_Lw_law_944 (by decide) rfl ?_
      exact v_zret d_Lw_law_945 rfl (Or.inr rfl) rfl
    · have hk5 : 5 * k + 5 ≤ cN C := by
        rw [ez1, ex, Int32.lt_iff_toInt_lt, show (5 : Int32) = nI 5 from rfl, pk_sub_toInt (by omega) (by omega), nI_toInt (by omega)] at c1
        omega
      have kk : ∀ (S' : ShT) (I' : DI) (J' : DJ) (u' : Nat × Nat), SHP S' → REL I' J' I' J' → u'.1 ≤ u.1 + 1 → u'.2 ≤ u.2 + 6 → V C l k_Lw_law (10, 601024, 7293034) PoL 938 [(4, .int x), (3, .ref 148), (2, .ref 124), (1, .ref 0), (0, .retAddr 0)] [] S' I' J' u' := by
        intro S' I' J' u' hS' hr' h1 h2
        obtain ⟨x2, ex2⟩ : ∃ y9 : Int32, y9 = x + 5 := ⟨_, rfl⟩
        refine v_iinc (n := 0) (v := x2) (L' := [(4, .int x2), (3, .ref 148), (2, .ref 124), (1, .ref 0), (0, .retAddr 0)]) d_Lw_law_938 rfl (by rw [ex2]; rfl) (by decide) rfl rfl ?_
        refine v_goto (tgt := 23) d_Lw_law_941 (by decide) ?_
        exact ih (k + 1) S' I' J' x2 u' (by rw [ex2, ex, show (5 : Int32) = nI 5 from rfl, nI_add]; congr 1) (by omega) (by omega) hS' hr' (by omega) (by omega)
      refine v_sload_n 4 d_Lw_law_32 rfl rfl rfl ?_
      refine v_iload 0 d_Lw_law_33 rfl rfl ?_
      refine v_sld (j := 5 * k) d_Lw_law_35 ex (by omega) hN rfl ?_
      refine v_bipush (v := 15) d_Lw_law_36 (by decide) rfl ?_
      refine v_iand d_Lw_law_38 rfl ?_
      obtain ⟨j, hj, ej⟩ := and15 (cX C (5 * k))
      rw [ej]
      have hu : u.1 + 1 ≤ 601024 ∧ u.2 + 6 ≤ 7293034 := ⟨by omega, by omega⟩
      have hj16 : j = 0 ∨ j = 1 ∨ j = 2 ∨ j = 3 ∨ j = 4 ∨ j = 5 ∨ j = 6 ∨ j = 7 ∨ j = 8 ∨ j = 9 ∨ j = 10 ∨ j = 11 ∨ j = 12 ∨ j = 13 ∨ j = 14 ∨ j = 15 := by omega
      rcases hj16 with rfl | rfl | rfl | rfl | rfl | rfl | rfl | rfl | rfl | rfl | rfl | rfl | rfl | rfl | rfl | rfl
      · refine v_tabI (x := nI 0) (tgt := 108) d_Lw_law_39 (by decide) (by decide) rfl (by decide) ?_
        exact op_make hC hN hS hr ex hk5 hu kk
      · refine v_tabI (x := nI 1) (tgt := 204) d_Lw_law_39 (by decide) (by decide) rfl (by decide) ?_
        exact op_write hC hN hS hr ex hk5 hu kk
      · refine v_tabI (x := nI 2) (tgt := 316) d_Lw_law_39 (by decide) (by decide) rfl (by decide) ?_
        exact op_cut hC hN hS hr ex hk5 hu kk
      · refine v_tabI (x := nI 3) (tgt := 384) d_Lw_law_39 (by decide) (by decide) rfl (by decide) ?_
        exact op_remove hC hN hS hr ex hk5 hu kk
      · refine v_tabI (x := nI 4) (tgt := 440) d_Lw_law_39 (by decide) (by decide) rfl (by decide) ?_
        exact op_move hC hN hS hr ex hk5 hu kk
      · refine v_tabI (x := nI 5) (tgt := 508) d_Lw_law_39 (by decide) (by decide) rfl (by decide) ?_
        exact op_work hC hN hS hr ex hk5 hu kk
      · refine v_tabI (x := nI 6) (tgt := 564) d_Lw_law_39 (by decide) (by decide) rfl (by decide) ?_
        exact op_rescan hC hN hS hr ex hk5 hu kk
      · refine v_tabI (x := nI 7) (tgt := 577) d_Lw_law_39 (by decide) (by decide) rfl (by decide) ?_
        exact op_type hC hN hS hr ex hk5 hu kk
      · refine v_tabI (x := nI 8) (tgt := 633) d_Lw_law_39 (by decide) (by decide) rfl (by decide) ?_
        exact op_search hC hN hS hr ex hk5 hu kk
      · refine v_tabI (x := nI 9) (tgt := 689) d_Lw_law_39 (by decide) (by decide) rfl (by decide) ?_
        exact op_fault hC hN hS hr ex hk5 hu kk
      · refine v_tabI (x := nI 10) (tgt := 702) d_Lw_law_39 (by decide) (by decide) rfl (by decide) ?_
        exact op_result hC hN hS hr ex hk5 hu kk
      · refine v_tabI (x := nI 11) (tgt := 770) d_Lw_law_39 (by decide) (by decide) rfl (by decide) ?_
        exact op_words hC hN hS hr ex hk5 hu kk
      · refine v_tabI (x := nI 12) (tgt := 826) d_Lw_law_39 (by decide) (by decide) rfl (by decide) ?_
        exact op_event hC hN hS hr ex hk5 hu kk
      · refine v_tabI (x := nI 13) (tgt := 882) d_Lw_law_39 (by decide) (by decide) rfl (by decide) ?_
        exact op_count hC hN hS hr ex hk5 hu kk
      · refine v_tabO (x := nI 14) (tgt := 938) d_Lw_law_39 (by decide) (by decide) ?_
        exact kk S I J u hS hr (Nat.le_add_right _ _) (Nat.le_add_right _ _)
      · refine v_tabO (x := nI 15) (tgt := 938) d_Lw_law_39 (by decide) (by decide) ?_
        exact kk S I J u hS hr (Nat.le_add_right _ _) (Nat.le_add_right _ _)
set_option maxHeartbeats 4000000 in
set_option maxRecDepth 100000 in
theorem law_all {C : CT} {l : Launch} (hC : OKC C l) (hN : cN C ≤ 2560) {S : ShT} (h : PS 0 0 S) : V C l k_Lw_law (10, 601024, 7293034) PoL 0 [(0, .retAddr 0)] [] S (mA 0 []) (mA 0 []) (0, 0) := by
  refine v_new (ci := 7) (N := 6) d_Lw_law_0 (by decide) wl_Lw_8 wn_Fi wi_Fi ⟨Nat.le_of_ble_eq_true rfl, Nat.le_of_ble_eq_true rfl⟩ rfl ?_
  rw [h.1, mA_zf (α := Int32) (by decide), mA_zf (α := Int64) (by intro p hp; cases hp)]
  have h1 : PS 1 0 (ad1 S (7, 0)) := by have h9 := h.al (k := (7, 0)) (by decide) (by decide +kernel); exact h9
  generalize ad1 S (7, 0) = S1 at h1 ⊢
  refine v_ue (u' := (1, 6)) rfl ?_
  refine v_dup d_Lw_law_3 rfl rfl ?_
  refine v_callI (as := []) d_Lw_law_4 cs_Lw_55 (c_Fi_init hC (d := 9) h1 (by omega)) rfl rfl (by decide) (Nat.le_of_ble_eq_true rfl) ⟨Nat.le_of_ble_eq_true rfl, Nat.le_of_ble_eq_true rfl⟩ rfl (fun v9 S9 I9 J9 hP => ?_) (fun _ _ _ _ _ hP => False.elim hP)
  obtain ⟨rfl, h2, rfl, rfl⟩ := hP
  refine v_ue (u' := (124, 2389)) rfl ?_
  refine v_astore_n (L' := [(1, .ref 0), (0, .retAddr 0)]) d_Lw_law_7 rfl (by decide) rfl rfl ?_
  refine v_new (ci := 8) (N := 34) d_Lw_law_8 (by decide) wl_Lw_56 wn_Md wi_Md ⟨Nat.le_of_ble_eq_true rfl, Nat.le_of_ble_eq_true rfl⟩ rfl ?_
  rw [h2.1, mA_zf (α := Int32) (by decide), mA_zf (α := Int64) (by intro p hp; cases hp)]
  have h3 : PS 125 123 (ad1 S9 (8, 0)) := by have h9 := h2.al (k := (8, 0)) (by decide) (by decide +kernel); exact h9
  generalize ad1 S9 (8, 0) = S3 at h3 ⊢
  refine v_ue (u' := (125, 2423)) rfl ?_
  refine v_dup d_Lw_law_11 rfl rfl ?_
  refine v_callI (as := []) d_Lw_law_12 cs_Lw_58 (c_Md_init hC (d := 9) h3 (by omega)) rfl rfl (by decide) (Nat.le_of_ble_eq_true rfl) ⟨Nat.le_of_ble_eq_true rfl, Nat.le_of_ble_eq_true rfl⟩ rfl (fun v9 S8 I9 J9 hP => ?_) (fun _ _ _ _ _ hP => False.elim hP)
  obtain ⟨rfl, h4, rfl, rfl⟩ := hP
  refine v_ue (u' := (148, 5343)) rfl ?_
  refine v_astore_n (L' := [(2, .ref 124), (1, .ref 0), (0, .retAddr 0)]) d_Lw_law_15 rfl (by decide) rfl rfl ?_
  refine v_iconst (v := 1) d_Lw_law_16 (by decide) rfl ?_
  refine v_newa (t := 34) (N := 1) d_Lw_law_17 (Or.inr (Or.inr ⟨rfl, rfl⟩)) wa_long rfl (by decide) ⟨Nat.le_of_ble_eq_true rfl, Nat.le_of_ble_eq_true rfl⟩ rfl ?_
  rw [h4.1, mA_zf (α := Int32) (by decide), mA_zf (α := Int64) (by intro p hp; cases hp)]
  have h5 : PS 149 146 (ad1 S8 (34, 1)) := by have h9 := h4.al (k := (34, 1)) (by decide) (by decide +kernel); exact h9
  generalize ad1 S8 (34, 1) = S5 at h5 ⊢
  refine v_ue (u' := (149, 5344)) rfl ?_
  refine v_astore_n (L' := [(3, .ref 148), (2, .ref 124), (1, .ref 0), (0, .retAddr 0)]) d_Lw_law_19 rfl (by decide) rfl rfl ?_
  refine v_iconst (v := 0) d_Lw_law_20 (by decide) rfl ?_
  refine v_istore (L' := [(4, .int 0), (3, .ref 148), (2, .ref 124), (1, .ref 0), (0, .retAddr 0)]) d_Lw_law_21 (by decide) rfl rfl ?_
  exact law_loop hC hN 513 0 S5 _ _ 0 (149, 5344) nI_0.symm (by omega) (by omega) (h5.shp (by decide)) rel_init (Nat.le_refl _) (Nat.le_refl _)
