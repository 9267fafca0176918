/-! ===== THE MODEL, 3 ===== -/
theorem mst_0 {I : DI} {j : Nat} : mst I j = 0 ↔ I 125 j = 0 := by
  unfold mst
  by_cases h : I 125 j = 0
  · rw [if_pos h]; simp [h]
  · rw [if_neg h]
    by_cases h1 : I 126 j = 0
    · rw [if_pos h1]; simp [h]
    · rw [if_neg h1]; simp [h]
theorem mdS_ex {I : DI} {x y : Int32} (h : mdS I x = y) (hy : ¬ y = 0) : ∃ j : Nat, j < 16 ∧ x = nI j ∧ mst I j = y := by
  cases hx : isNd x with
  | false => rw [mdS_n hx] at h; exact absurd h.symm hy
  | true =>
    obtain ⟨j, h1, rfl⟩ := isNd_j hx
    exact ⟨j, h1, rfl, by rw [← h, mdS_j h1]⟩
def mk1M (I : DI) (j k : Nat) (p : Bool) : DI := u2 (u2 (u2 (u2 I 125 j 1) 126 j (bI p)) 127 j (nI k)) 129 j 0
def MkM (I : DI) (a b : Int32) (p : Bool) (x : Int32) (I' : DI) : Prop :=
  ((isNb a = false ∨ isNd b = false) ∧ x = 0 ∧ I' = u2 I 124 0 1) ∨
  (isNb a = true ∧ isNd b = true ∧ (¬ mdS I a = 0 ∨ ¬ mdS I b = 1) ∧ x = 0 ∧ I' = u2 I 124 0 2) ∨
  (∃ j k, a = nI j ∧ 1 ≤ j ∧ j < 16 ∧ b = nI k ∧ k < 16 ∧ mst I j = 0 ∧ mst I k = 1 ∧ x = 1 ∧ ((p = true ∧ I' = mk1M I j k p) ∨ (p = false ∧ TlM (mk1M I j k p) (nI j) 1 I')))
set_option maxHeartbeats 4000000 in
set_option maxRecDepth 100000 in
theorem b_Md_make {C : CT} {l : Launch} {S : ShT} {I : DI} {J : DJ} {d : Nat} (hC : OKC C l) (hS : SHP S) {m : Nat} {a b : Int32} {p : Bool} (hm : m ≤ 8) (h2 : I 124 9 = nI m) (hd : 2 ≤ d) : V C l k_Md_make (d, 0, 0) (PI S J (MkM I a b p)) 5 [(0, .ref 124), (1, .int a), (2, .int b), (3, .int (bI p))] [] S I J (0, 0) := by
  refine v_iload_n 1 d_Md_make_5 rfl rfl rfl ?_
  refine v_iconst (v := 1) d_Md_make_6 (by decide) rfl ?_
  refine v_bipush (v := 15) d_Md_make_7 (by decide) rfl ?_
  refine v_cSp (as := [.int a, .int 1, .int 15]) d_Md_make_9 cs_Md_88 (c_Md_in hC (d := d - 1) a 1 15 (by omega)) rfl rfl (by decide) (by omega) rfl ?_
  refine v_if_eq (tgt := 25) d_Md_make_12 (by decide) rfl (fun c1 => ?_) (fun c1 => ?_)
  · refine v_aload_n 0 d_Md_make_25 rfl rfl rfl ?_
    refine v_iconst (v := 1) d_Md_make_26 (by decide) rfl ?_
    refine v_cVi (as := [.int 1]) d_Md_make_27 cs_Md_107 (c_Md_raise hC hS (d := d - 1) 1 (by omega)) (hS.o (by decide) rfl) (by decide) rfl rfl rfl (by decide) (by omega) rfl (fun xr Ir hr => ?_)
    refine v_iret d_Md_make_30 rfl ?_
    exact ⟨rfl, rfl, _, rfl, Or.inl ⟨Or.inl (by rw [← inB_nb]; exact bI_f c1), hr.1, hr.2⟩⟩
  · refine v_iload_n 2 d_Md_make_15 rfl rfl rfl ?_
    refine v_iconst (v := 0) d_Md_make_16 (by decide) rfl ?_
    refine v_bipush (v := 15) d_Md_make_17 (by decide) rfl ?_
    refine v_cSp (as := [.int b, .int 0, .int 15]) d_Md_make_19 cs_Md_88 (c_Md_in hC (d := d - 1) b 0 15 (by omega)) rfl rfl (by decide) (by omega) rfl ?_
    refine v_if_ne (tgt := 31) d_Md_make_22 (by decide) rfl (fun c2 => ?_) (fun c2 => ?_)
    · have hnb : isNb a = true := by rw [← inB_nb]; exact bI_t c1
      have hnd : isNd b = true := by rw [← inB_nd]; exact bI_t c2
      obtain ⟨j, hj1, hj, ea⟩ := isNb_j hnb
      obtain ⟨k, hk, eb⟩ := isNd_j hnd
      refine v_aload_n 0 d_Md_make_31 rfl rfl rfl ?_
      refine v_getr (r := 125) d_Md_make_32 fl_Md_7 (hS.o (by decide) rfl) rfl (hS.r (by decide) rfl) rfl ?_
      refine v_iload_n 1 d_Md_make_35 rfl rfl rfl ?_
      refine v_zald (j := j) d_Md_make_36 (hS.a (t := 33) (n := 16) (by decide) rfl) ea (by omega) (by decide) rfl ?_
      refine v_if_ne (tgt := 48) d_Md_make_37 (by decide) rfl (fun c3 => ?_) (fun c3 => ?_)
      · refine v_aload_n 0 d_Md_make_48 rfl rfl rfl ?_
        refine v_iconst (v := 2) d_Md_make_49 (by decide) rfl ?_
        refine v_cVi (as := [.int 2]) d_Md_make_50 cs_Md_107 (c_Md_raise hC hS (d := d - 1) 2 (by omega)) (hS.o (by decide) rfl) (by decide) rfl rfl rfl (by decide) (by omega) rfl (fun xr Ir hr => ?_)
        refine v_iret d_Md_make_53 rfl ?_
        exact ⟨rfl, rfl, _, rfl, Or.inr (Or.inl ⟨hnb, hnd, Or.inl (by rw [ea, mdS_j hj]; exact fun h9 => c3 (mst_0.mp h9)), hr.1, hr.2⟩)⟩
      · refine v_aload_n 0 d_Md_make_40 rfl rfl rfl ?_
        refine v_iload_n 2 d_Md_make_41 rfl rfl rfl ?_
        refine v_cVp (as := [.int b]) d_Md_make_42 cs_Md_111 (c_Md_isFolder hC hS (d := d - 1) b (by omega)) (hS.o (by decide) rfl) (by decide) rfl rfl rfl (by decide) (by omega) rfl ?_
        refine v_if_ne (tgt := 54) d_Md_make_45 (by decide) rfl (fun c4 => ?_) (fun c4 => ?_)
        · have hj0 : mst I j = 0 := mst_0.mpr c3
          have hk1 : mst I k = 1 := by have h9 := bd_t c4; rw [eb, mdS_j hk] at h9; exact h9
          refine v_aload_n 0 d_Md_make_54 rfl rfl rfl ?_
          refine v_getr (r := 125) d_Md_make_55 fl_Md_7 (hS.o (by decide) rfl) rfl (hS.r (by decide) rfl) rfl ?_
          refine v_iload_n 1 d_Md_make_58 rfl rfl rfl ?_
          refine v_iconst (v := 1) d_Md_make_59 (by decide) rfl ?_
          refine v_zast (j := j) d_Md_make_60 (hS.a (t := 33) (n := 16) (by decide) rfl) ea (by omega) (by decide) (Or.inr rfl) rfl ?_
          generalize hI5 : u2 I 125 j 1 = I5
          refine v_aload_n 0 d_Md_make_61 rfl rfl rfl ?_
          refine v_getr (r := 126) d_Md_make_62 fl_Md_13 (hS.o (by decide) rfl) rfl (hS.r (by decide) rfl) rfl ?_
          refine v_iload_n 1 d_Md_make_65 rfl rfl rfl ?_
          refine v_iload_n 3 d_Md_make_66 rfl rfl rfl ?_
          refine v_zast (j := j) d_Md_make_67 (hS.a (t := 33) (n := 16) (by decide) rfl) ea (by omega) (by decide) (bI01 _) rfl ?_
          generalize hI6 : u2 I5 126 j (bI p) = I6
          refine v_aload_n 0 d_Md_make_68 rfl rfl rfl ?_
          refine v_getr (r := 127) d_Md_make_69 fl_Md_16 (hS.o (by decide) rfl) rfl (hS.r (by decide) rfl) rfl ?_
          refine v_iload_n 1 d_Md_make_72 rfl rfl rfl ?_
          refine v_iload_n 2 d_Md_make_73 rfl rfl rfl ?_
          refine v_iast (j := j) d_Md_make_74 (hS.a (t := 32) (n := 16) (by decide) rfl) ea (by omega) (by decide) rfl ?_
          generalize hI7 : u2 I6 127 j b = I7
          refine v_aload_n 0 d_Md_make_75 rfl rfl rfl ?_
          refine v_getr (r := 129) d_Md_make_76 fl_Md_23 (hS.o (by decide) rfl) rfl (hS.r (by decide) rfl) rfl ?_
          refine v_iload_n 1 d_Md_make_79 rfl rfl rfl ?_
          refine v_iconst (v := 0) d_Md_make_80 (by decide) rfl ?_
          refine v_iast (j := j) d_Md_make_81 (hS.a (t := 32) (n := 16) (by decide) rfl) ea (by omega) (by decide) rfl ?_
          generalize hI8 : u2 I7 129 j 0 = I8
          have hmk : I8 = mk1M I j k p := by subst_vars; rfl
          refine v_iload_n 3 d_Md_make_82 rfl rfl rfl ?_
          refine v_if_ne (tgt := 92) d_Md_make_83 (by decide) rfl (fun c9 => ?_) (fun c9 => ?_)
          · refine v_iconst (v := 1) d_Md_make_92 (by decide) rfl ?_
            refine v_iret d_Md_make_93 rfl ?_
            exact ⟨rfl, rfl, _, rfl, Or.inr (Or.inr ⟨j, k, ea, hj1, hj, eb, hk, hj0, hk1, rfl, Or.inl ⟨bI_t c9, hmk⟩⟩)⟩
          · refine v_aload_n 0 d_Md_make_86 rfl rfl rfl ?_
            refine v_iconst (v := 1) d_Md_make_87 (by decide) rfl ?_
            refine v_iload_n 1 d_Md_make_88 rfl rfl rfl ?_
            refine v_cVu (as := [.int 1, .int a]) d_Md_make_89 cs_Md_115 (by rw [ea]; exact c_Md_tell hC hS (d := d - 1) hm (by rw [hmk, mk1M, u2_o (by decide), u2_o (by decide), u2_o (by decide), u2_o (by decide)]; exact h2) 1 (nI j) (by omega)) (hS.o (by decide) rfl) (by decide) rfl rfl rfl (by decide) (by omega) rfl (fun I9 ht => ?_)
            refine v_iconst (v := 1) d_Md_make_92 (by decide) rfl ?_
            refine v_iret d_Md_make_93 rfl ?_
            exact ⟨rfl, rfl, _, rfl, Or.inr (Or.inr ⟨j, k, ea, hj1, hj, eb, hk, hj0, hk1, rfl, Or.inr ⟨bI_f c9, hmk ▸ ht⟩⟩)⟩
        · refine v_aload_n 0 d_Md_make_48 rfl rfl rfl ?_
          refine v_iconst (v := 2) d_Md_make_49 (by decide) rfl ?_
          refine v_cVi (as := [.int 2]) d_Md_make_50 cs_Md_107 (c_Md_raise hC hS (d := d - 1) 2 (by omega)) (hS.o (by decide) rfl) (by decide) rfl rfl rfl (by decide) (by omega) rfl (fun xr Ir hr => ?_)
          refine v_iret d_Md_make_53 rfl ?_
          exact ⟨rfl, rfl, _, rfl, Or.inr (Or.inl ⟨hnb, hnd, Or.inr (bd_f c4), hr.1, hr.2⟩)⟩
    · refine v_aload_n 0 d_Md_make_25 rfl rfl rfl ?_
      refine v_iconst (v := 1) d_Md_make_26 (by decide) rfl ?_
      refine v_cVi (as := [.int 1]) d_Md_make_27 cs_Md_107 (c_Md_raise hC hS (d := d - 1) 1 (by omega)) (hS.o (by decide) rfl) (by decide) rfl rfl rfl (by decide) (by omega) rfl (fun xr Ir hr => ?_)
      refine v_iret d_Md_make_30 rfl ?_
      exact ⟨rfl, rfl, _, rfl, Or.inl ⟨Or.inr (by rw [← inB_nd]; exact bI_f c2), hr.1, hr.2⟩⟩
set_option maxHeartbeats 4000000 in
set_option maxRecDepth 100000 in
theorem c_Md_make {C : CT} {l : Launch} {S : ShT} {I0 I : DI} {J : DJ} {d : Nat} (hC : OKC C l) (hS : SHP S) (hI0 : I = u2 I0 124 0 0) {m : Nat} {a b : Int32} {p : Bool} (hm : m ≤ 8) (h2 : I 124 9 = nI m) (hd : 2 ≤ d) : Sp C l k_Md_make y_Md_make (d, 0, 0) [.ref 124, .int a, .int b, .int (bI p)] S I0 J (PI S J (MkM I a b p)) := by
  refine Sp.of hC cd_Md_make (Nat.le_of_ble_eq_true rfl) ?_
  show V C l k_Md_make (d, 0, 0) _ 0 [(0, .ref 124), (1, .int a), (2, .int b), (3, .int (bI p))] [] S I0 J (0, 0)
  refine v_aload_n 0 d_Md_make_0 rfl rfl rfl ?_
  refine v_iconst (v := 0) d_Md_make_1 (by decide) rfl ?_
  refine v_puti d_Md_make_2 fl_Md_85 (hS.o (by decide) rfl) rfl rfl rfl ?_
  rw [← hI0]
  exact b_Md_make hC hS hm h2 hd
def CtM (I : DI) (a n : Int32) (x : Int32) (I' : DI) : Prop :=
  (¬ mdS I a = 2 ∧ x = 0 ∧ I' = u2 I 124 0 1) ∨
  (∃ j m, a = nI j ∧ j < 16 ∧ mst I j = 2 ∧ I 129 j = nI m ∧ m ≤ 60 ∧ (((n < 0 ∨ ¬ n ≤ nI m) ∧ x = 0 ∧ I' = u2 I 124 0 2) ∨
    (∃ k, n = nI k ∧ k ≤ m ∧ x = nI (m - k) ∧ ((k = m ∧ I' = u2 I 129 j (nI k)) ∨ (k < m ∧ TlM (u2 I 129 j (nI k)) (nI j) 2 I')))))
set_option maxHeartbeats 4000000 in
set_option maxRecDepth 100000 in
theorem b_Md_cut {C : CT} {l : Launch} {S : ShT} {I : DI} {J : DJ} {d : Nat} (hC : OKC C l) (hS : SHP S) {m : Nat} {a n : Int32} (hm : m ≤ 8) (h2 : I 124 9 = nI m) (hL : ∀ i, i < 16 → ∃ q, q ≤ 60 ∧ I 129 i = nI q) (hd : 2 ≤ d) : V C l k_Md_cut (d, 0, 0) (PI S J (CtM I a n)) 5 [(0, .ref 124), (1, .int a), (2, .int n)] [] S I J (0, 0) := by
  refine v_aload_n 0 d_Md_cut_5 rfl rfl rfl ?_
  refine v_iload_n 1 d_Md_cut_6 rfl rfl rfl ?_
  refine v_cVp (as := [.int a]) d_Md_cut_7 cs_Md_119 (c_Md_isFile hC hS (d := d - 1) a (by omega)) (hS.o (by decide) rfl) (by decide) rfl rfl rfl (by decide) (by omega) rfl ?_
  refine v_if_ne (tgt := 19) d_Md_cut_10 (by decide) rfl (fun c1 => ?_) (fun c1 => ?_)
  · obtain ⟨j, hj, ea, hj2⟩ := mdS_ex (bd_t c1) (by decide)
    obtain ⟨q, hq6, hlj⟩ := hL j hj
    refine v_iload_n 2 d_Md_cut_19 rfl rfl rfl ?_
    refine v_iconst (v := 0) d_Md_cut_20 (by decide) rfl ?_
    refine v_aload_n 0 d_Md_cut_21 rfl rfl rfl ?_
    refine v_getr (r := 129) d_Md_cut_22 fl_Md_23 (hS.o (by decide) rfl) rfl (hS.r (by decide) rfl) rfl ?_
    refine v_iload_n 1 d_Md_cut_25 rfl rfl rfl ?_
    refine v_iald (j := j) d_Md_cut_26 (hS.a (t := 32) (n := 16) (by decide) rfl) ea (by omega) (by decide) rfl ?_
    refine v_cSp (as := [.int n, .int 0, .int (I 129 j)]) d_Md_cut_27 cs_Md_88 (c_Md_in hC (d := d - 1) n 0 (I 129 j) (by omega)) rfl rfl (by decide) (by omega) rfl ?_
    refine v_if_ne (tgt := 39) d_Md_cut_30 (by decide) rfl (fun c2 => ?_) (fun c2 => ?_)
    · have hin := bI_t c2
      simp only [inB, hlj, Bool.and_eq_true, Bool.not_eq_true', decide_eq_false_iff_not] at hin
      obtain ⟨k, hkq, en⟩ := i_0le hin.1 (Int32.not_lt.mp hin.2) (by omega)
      refine v_aload_n 0 d_Md_cut_39 rfl rfl rfl ?_
      refine v_getr (r := 129) d_Md_cut_40 fl_Md_23 (hS.o (by decide) rfl) rfl (hS.r (by decide) rfl) rfl ?_
      refine v_iload_n 1 d_Md_cut_43 rfl rfl rfl ?_
      refine v_iald (j := j) d_Md_cut_44 (hS.a (t := 32) (n := 16) (by decide) rfl) ea (by omega) (by decide) rfl ?_
      refine v_iload_n 2 d_Md_cut_45 rfl rfl rfl ?_
      refine v_isub d_Md_cut_46 rfl ?_
      refine v_nmi (fun z3 ez3 => ?_)
      have nz3 : z3 = nI (q - k) := by rw [ez3, show I 129 j = nI q from hlj, show n = nI k from en]; exact pk_sub (by omega)
      refine v_istore_n (L' := [(3, .int z3), (0, .ref 124), (1, .int a), (2, .int n)]) d_Md_cut_47 rfl (by decide) rfl rfl ?_
      refine v_aload_n 1 d_Md_cut_48 rfl rfl rfl ?_
      refine v_getr (r := 129) d_Md_cut_49 fl_Md_23 (hS.o (by decide) rfl) rfl (hS.r (by decide) rfl) rfl ?_
      refine v_iload_n 2 d_Md_cut_52 rfl rfl rfl ?_
      refine v_iload_n 3 d_Md_cut_53 rfl rfl rfl ?_
      refine v_iast (j := j) d_Md_cut_54 (hS.a (t := 32) (n := 16) (by decide) rfl) ea (by omega) (by decide) rfl ?_
      generalize hI4 : u2 I 129 j n = I4
      refine v_iload_n 0 d_Md_cut_55 rfl rfl rfl ?_
      refine v_if_le (tgt := 65) d_Md_cut_56 (by decide) rfl (fun c5 => ?_) (fun c5 => ?_)
      · refine v_iload_n 0 d_Md_cut_65 rfl rfl rfl ?_
        refine v_iret d_Md_cut_66 rfl ?_
        exact ⟨rfl, rfl, _, rfl, Or.inr ⟨j, q, ea, hj, hj2, hlj, hq6, Or.inr ⟨k, en, hkq, nz3, Or.inl ⟨by rcases Nat.lt_or_ge k q with h9 | h9; exact absurd c5 (by rw [nz3]; exact nI_ge (b := q - k) (a := 0) (by omega) (by omega)); omega, by rw [← en, hI4]⟩⟩⟩⟩
      · refine v_aload_n 1 d_Md_cut_59 rfl rfl rfl ?_
        refine v_iconst (v := 2) d_Md_cut_60 (by decide) rfl ?_
        refine v_iload_n 2 d_Md_cut_61 rfl rfl rfl ?_
        refine v_cVu (as := [.int 2, .int a]) d_Md_cut_62 cs_Md_115 (by rw [ea]; exact c_Md_tell hC hS (d := d - 1) hm (by rw [← hI4, u2_o (by decide)]; exact h2) 2 (nI j) (by omega)) (hS.o (by decide) rfl) (by decide) rfl rfl rfl (by decide) (by omega) rfl (fun I9 ht => ?_)
        refine v_iload_n 0 d_Md_cut_65 rfl rfl rfl ?_
        refine v_iret d_Md_cut_66 rfl ?_
        exact ⟨rfl, rfl, _, rfl, Or.inr ⟨j, q, ea, hj, hj2, hlj, hq6, Or.inr ⟨k, en, hkq, nz3, Or.inr ⟨by rcases Nat.lt_or_ge k q with h9 | h9; exact h9; exact absurd (by rw [nz3, show q - k = 0 by omega]; decide) c5, by rw [← en, hI4]; exact ht⟩⟩⟩⟩
    · refine v_aload_n 0 d_Md_cut_33 rfl rfl rfl ?_
      refine v_iconst (v := 2) d_Md_cut_34 (by decide) rfl ?_
      refine v_cVi (as := [.int 2]) d_Md_cut_35 cs_Md_107 (c_Md_raise hC hS (d := d - 1) 2 (by omega)) (hS.o (by decide) rfl) (by decide) rfl rfl rfl (by decide) (by omega) rfl (fun xr Ir hr => ?_)
      refine v_iret d_Md_cut_38 rfl ?_
      have hin := bI_f c2
      simp only [inB, hlj, Bool.and_eq_false_iff, Bool.not_eq_false', decide_eq_true_eq] at hin
      exact ⟨rfl, rfl, _, rfl, Or.inr ⟨j, q, ea, hj, hj2, hlj, hq6, Or.inl ⟨hin.imp id (fun h9 => Int32.not_le.mpr h9), hr.1, hr.2⟩⟩⟩
  · refine v_aload_n 0 d_Md_cut_13 rfl rfl rfl ?_
    refine v_iconst (v := 1) d_Md_cut_14 (by decide) rfl ?_
    refine v_cVi (as := [.int 1]) d_Md_cut_15 cs_Md_107 (c_Md_raise hC hS (d := d - 1) 1 (by omega)) (hS.o (by decide) rfl) (by decide) rfl rfl rfl (by decide) (by omega) rfl (fun xr Ir hr => ?_)
    refine v_iret d_Md_cut_18 rfl ?_
    exact ⟨rfl, rfl, _, rfl, Or.inl ⟨bd_f c1, hr.1, hr.2⟩⟩
set_option maxHeartbeats 4000000 in
set_option maxRecDepth 100000 in
theorem c_Md_cut {C : CT} {l : Launch} {S : ShT} {I0 I : DI} {J : DJ} {d : Nat} (hC : OKC C l) (hS : SHP S) (hI0 : I = u2 I0 124 0 0) {m : Nat} {a n : Int32} (hm : m ≤ 8) (h2 : I 124 9 = nI m) (hL : ∀ i, i < 16 → ∃ q, q ≤ 60 ∧ I 129 i = nI q) (hd : 2 ≤ d) : Sp C l k_Md_cut y_Md_cut (d, 0, 0) [.ref 124, .int a, .int n] S I0 J (PI S J (CtM I a n)) := by
  refine Sp.of hC cd_Md_cut (Nat.le_of_ble_eq_true rfl) ?_
  show V C l k_Md_cut (d, 0, 0) _ 0 [(0, .ref 124), (1, .int a), (2, .int n)] [] S I0 J (0, 0)
  refine v_aload_n 0 d_Md_cut_0 rfl rfl rfl ?_
  refine v_iconst (v := 0) d_Md_cut_1 (by decide) rfl ?_
  refine v_puti d_Md_cut_2 fl_Md_85 (hS.o (by decide) rfl) rfl rfl rfl ?_
  rw [← hI0]
  exact b_Md_cut hC hS hm h2 hL hd
def MvM (I : DI) (a b : Int32) (x : Int32) (I' : DI) : Prop :=
  ((isNb a = false ∨ isNd b = false) ∧ x = 0 ∧ I' = u2 I 124 0 1) ∨
  (isNb a = true ∧ isNd b = true ∧ (mdS I a = 0 ∨ ¬ mdS I b = 1) ∧ x = 0 ∧ I' = u2 I 124 0 2) ∨
  (∃ j k, a = nI j ∧ 1 ≤ j ∧ j < 16 ∧ b = nI k ∧ k < 16 ∧ ¬ mst I j = 0 ∧ mst I k = 1 ∧ (
    ((b = a ∨ wup (I 127) (nI j) 16 k = true) ∧ x = 0 ∧ I' = u2 I 124 0 3) ∨
    (¬ b = a ∧ wup (I 127) (nI j) 16 k = false ∧ ((I 127 j = nI k ∧ x = 0) ∨ (¬ I 127 j = nI k ∧ x = 1)) ∧ I' = u2 I 127 j (nI k))))
set_option maxHeartbeats 4000000 in
set_option maxRecDepth 100000 in
theorem b_Md_move {C : CT} {l : Launch} {S : ShT} {I : DI} {J : DJ} {d : Nat} (hC : OKC C l) (hS : SHP S) {a b : Int32} (hP0 : I 127 0 = -1) (hP : ∀ i, 1 ≤ i → i < 16 → ∃ j, j < 16 ∧ I 127 i = nI j) (hz : ∀ i, i < 16 → ¬ I 125 i = 0 → zro (I 127) 16 i) (hd : 2 ≤ d) : V C l k_Md_move (d, 0, 0) (PI S J (MvM I a b)) 5 [(0, .ref 124), (1, .int a), (2, .int b)] [] S I J (0, 0) := by
  refine v_iload_n 1 d_Md_move_5 rfl rfl rfl ?_
  refine v_iconst (v := 1) d_Md_move_6 (by decide) rfl ?_
  refine v_bipush (v := 15) d_Md_move_7 (by decide) rfl ?_
  refine v_cSp (as := [.int a, .int 1, .int 15]) d_Md_move_9 cs_Md_88 (c_Md_in hC (d := d - 1) a 1 15 (by omega)) rfl rfl (by decide) (by omega) rfl ?_
  refine v_if_eq (tgt := 25) d_Md_move_12 (by decide) rfl (fun c1 => ?_) (fun c1 => ?_)
  · refine v_aload_n 0 d_Md_move_25 rfl rfl rfl ?_
    refine v_iconst (v := 1) d_Md_move_26 (by decide) rfl ?_
    refine v_cVi (as := [.int 1]) d_Md_move_27 cs_Md_107 (c_Md_raise hC hS (d := d - 1) 1 (by omega)) (hS.o (by decide) rfl) (by decide) rfl rfl rfl (by decide) (by omega) rfl (fun xr Ir hr => ?_)
    refine v_iret d_Md_move_30 rfl ?_
    exact ⟨rfl, rfl, _, rfl, Or.inl ⟨Or.inl (by rw [← inB_nb]; exact bI_f c1), hr.1, hr.2⟩⟩
  · refine v_iload_n 2 d_Md_move_15 rfl rfl rfl ?_
    refine v_iconst (v := 0) d_Md_move_16 (by decide) rfl ?_
    refine v_bipush (v := 15) d_Md_move_17 (by decide) rfl ?_
    refine v_cSp (as := [.int b, .int 0, .int 15]) d_Md_move_19 cs_Md_88 (c_Md_in hC (d := d - 1) b 0 15 (by omega)) rfl rfl (by decide) (by omega) rfl ?_
    refine v_if_ne (tgt := 31) d_Md_move_22 (by decide) rfl (fun c2 => ?_) (fun c2 => ?_)
    · have hnb : isNb a = true := by rw [← inB_nb]; exact bI_t c1
      have hnd : isNd b = true := by rw [← inB_nd]; exact bI_t c2
      obtain ⟨j, hj1, hj, ea⟩ := isNb_j hnb
      obtain ⟨k, hk, eb⟩ := isNd_j hnd
      refine v_aload_n 0 d_Md_move_31 rfl rfl rfl ?_
      refine v_getr (r := 125) d_Md_move_32 fl_Md_7 (hS.o (by decide) rfl) rfl (hS.r (by decide) rfl) rfl ?_
      refine v_iload_n 1 d_Md_move_35 rfl rfl rfl ?_
      refine v_zald (j := j) d_Md_move_36 (hS.a (t := 33) (n := 16) (by decide) rfl) ea (by omega) (by decide) rfl ?_
      refine v_if_eq (tgt := 48) d_Md_move_37 (by decide) rfl (fun c3 => ?_) (fun c3 => ?_)
      · refine v_aload_n 0 d_Md_move_48 rfl rfl rfl ?_
        refine v_iconst (v := 2) d_Md_move_49 (by decide) rfl ?_
        refine v_cVi (as := [.int 2]) d_Md_move_50 cs_Md_107 (c_Md_raise hC hS (d := d - 1) 2 (by omega)) (hS.o (by decide) rfl) (by decide) rfl rfl rfl (by decide) (by omega) rfl (fun xr Ir hr => ?_)
        refine v_iret d_Md_move_53 rfl ?_
        exact ⟨rfl, rfl, _, rfl, Or.inr (Or.inl ⟨hnb, hnd, Or.inl (by rw [ea, mdS_j hj]; exact mst_0.mpr c3), hr.1, hr.2⟩)⟩
      · refine v_aload_n 0 d_Md_move_40 rfl rfl rfl ?_
        refine v_iload_n 2 d_Md_move_41 rfl rfl rfl ?_
        refine v_cVp (as := [.int b]) d_Md_move_42 cs_Md_111 (c_Md_isFolder hC hS (d := d - 1) b (by omega)) (hS.o (by decide) rfl) (by decide) rfl rfl rfl (by decide) (by omega) rfl ?_
        refine v_if_ne (tgt := 54) d_Md_move_45 (by decide) rfl (fun c4 => ?_) (fun c4 => ?_)
        · have hj0 : ¬ mst I j = 0 := fun h9 => c3 (mst_0.mp h9)
          have hk1 : mst I k = 1 := by have h9 := bd_t c4; rw [eb, mdS_j hk] at h9; exact h9
          refine v_iload_n 2 d_Md_move_54 rfl rfl rfl ?_
          refine v_iload_n 1 d_Md_move_55 rfl rfl rfl ?_
          refine v_icmp_eq (tgt := 68) d_Md_move_56 (by decide) rfl (fun c5 => ?_) (fun c5 => ?_)
          · refine v_aload_n 0 d_Md_move_68 rfl rfl rfl ?_
            refine v_iconst (v := 3) d_Md_move_69 (by decide) rfl ?_
            refine v_cVi (as := [.int 3]) d_Md_move_70 cs_Md_107 (c_Md_raise hC hS (d := d - 1) 3 (by omega)) (hS.o (by decide) rfl) (by decide) rfl rfl rfl (by decide) (by omega) rfl (fun xr Ir hr => ?_)
            refine v_iret d_Md_move_73 rfl ?_
            exact ⟨rfl, rfl, _, rfl, Or.inr (Or.inr ⟨j, k, ea, hj1, hj, eb, hk, hj0, hk1, Or.inl ⟨Or.inl c5, hr.1, hr.2⟩⟩)⟩
          · refine v_aload_n 0 d_Md_move_59 rfl rfl rfl ?_
            refine v_iload_n 2 d_Md_move_60 rfl rfl rfl ?_
            refine v_iload_n 1 d_Md_move_61 rfl rfl rfl ?_
            refine v_cVp (as := [.int b, .int a]) d_Md_move_62 cs_Md_125 (by rw [ea, eb]; exact c_Md_within hC hS (d := d - 1) (j := k) (f := nI j) hk hP0 hP (fun h9 => hz k hk h9) (by omega)) (hS.o (by decide) rfl) (by decide) rfl rfl rfl (by decide) (by omega) rfl ?_
            rw [show (!decide (I 125 k = 0) && wup (I 127) (nI j) 16 k) = wup (I 127) (nI j) 16 k from by rw [decide_eq_false (fun h9 => by rw [mst_0.mpr h9] at hk1; exact absurd hk1 (by decide))]; rfl]
            refine v_if_eq (tgt := 74) d_Md_move_65 (by decide) rfl (fun c6 => ?_) (fun c6 => ?_)
            · refine v_aload_n 0 d_Md_move_74 rfl rfl rfl ?_
              refine v_getr (r := 127) d_Md_move_75 fl_Md_16 (hS.o (by decide) rfl) rfl (hS.r (by decide) rfl) rfl ?_
              refine v_iload_n 1 d_Md_move_78 rfl rfl rfl ?_
              refine v_iald (j := j) d_Md_move_79 (hS.a (t := 32) (n := 16) (by decide) rfl) ea (by omega) (by decide) rfl ?_
              refine v_istore_n (L' := [(3, .int (I 127 j)), (0, .ref 124), (1, .int a), (2, .int b)]) d_Md_move_80 rfl (by decide) rfl rfl ?_
              refine v_aload_n 1 d_Md_move_81 rfl rfl rfl ?_
              refine v_getr (r := 127) d_Md_move_82 fl_Md_16 (hS.o (by decide) rfl) rfl (hS.r (by decide) rfl) rfl ?_
              refine v_iload_n 2 d_Md_move_85 rfl rfl rfl ?_
              refine v_iload_n 3 d_Md_move_86 rfl rfl rfl ?_
              refine v_iast (j := j) d_Md_move_87 (hS.a (t := 32) (n := 16) (by decide) rfl) ea (by omega) (by decide) rfl ?_
              generalize hI7 : u2 I 127 j b = I7
              refine v_iload_n 0 d_Md_move_88 rfl rfl rfl ?_
              refine v_iload_n 3 d_Md_move_89 rfl rfl rfl ?_
              refine v_icmp_eq (tgt := 97) d_Md_move_90 (by decide) rfl (fun c8 => ?_) (fun c8 => ?_)
              · refine v_iconst (v := 0) d_Md_move_97 (by decide) rfl ?_
                refine v_iret d_Md_move_98 rfl ?_
                exact ⟨rfl, rfl, _, rfl, Or.inr (Or.inr ⟨j, k, ea, hj1, hj, eb, hk, hj0, hk1, Or.inr ⟨c5, bI_f c6, Or.inl ⟨by have h9 := c8; rw [eb] at h9; exact h9, rfl⟩, by rw [← eb, hI7]⟩⟩)⟩
              · refine v_iconst (v := 1) d_Md_move_93 (by decide) rfl ?_
                refine v_goto (tgt := 98) d_Md_move_94 (by decide) ?_
                refine v_iret d_Md_move_98 rfl ?_
                exact ⟨rfl, rfl, _, rfl, Or.inr (Or.inr ⟨j, k, ea, hj1, hj, eb, hk, hj0, hk1, Or.inr ⟨c5, bI_f c6, Or.inr ⟨by have h9 := c8; rw [eb] at h9; exact h9, rfl⟩, by rw [← eb, hI7]⟩⟩)⟩
            · refine v_aload_n 0 d_Md_move_68 rfl rfl rfl ?_
              refine v_iconst (v := 3) d_Md_move_69 (by decide) rfl ?_
              refine v_cVi (as := [.int 3]) d_Md_move_70 cs_Md_107 (c_Md_raise hC hS (d := d - 1) 3 (by omega)) (hS.o (by decide) rfl) (by decide) rfl rfl rfl (by decide) (by omega) rfl (fun xr Ir hr => ?_)
              refine v_iret d_Md_move_73 rfl ?_
              exact ⟨rfl, rfl, _, rfl, Or.inr (Or.inr ⟨j, k, ea, hj1, hj, eb, hk, hj0, hk1, Or.inl ⟨Or.inr (bI_t c6), hr.1, hr.2⟩⟩)⟩
        · refine v_aload_n 0 d_Md_move_48 rfl rfl rfl ?_
          refine v_iconst (v := 2) d_Md_move_49 (by decide) rfl ?_
          refine v_cVi (as := [.int 2]) d_Md_move_50 cs_Md_107 (c_Md_raise hC hS (d := d - 1) 2 (by omega)) (hS.o (by decide) rfl) (by decide) rfl rfl rfl (by decide) (by omega) rfl (fun xr Ir hr => ?_)
          refine v_iret d_Md_move_53 rfl ?_
          exact ⟨rfl, rfl, _, rfl, Or.inr (Or.inl ⟨hnb, hnd, Or.inr (bd_f c4), hr.1, hr.2⟩)⟩
    · refine v_aload_n 0 d_Md_move_25 rfl rfl rfl ?_
      refine v_iconst (v := 1) d_Md_move_26 (by decide) rfl ?_
      refine v_cVi (as := [.int 1]) d_Md_move_27 cs_Md_107 (c_Md_raise hC hS (d := d - 1) 1 (by omega)) (hS.o (by decide) rfl) (by decide) rfl rfl rfl (by decide) (by omega) rfl (fun xr Ir hr => ?_)
      refine v_iret d_Md_move_30 rfl ?_
      exact ⟨rfl, rfl, _, rfl, Or.inl ⟨Or.inr (by rw [← inB_nd]; exact bI_f c2), hr.1, hr.2⟩⟩
set_option maxHeartbeats 4000000 in
set_option maxRecDepth 100000 in
theorem c_Md_move {C : CT} {l : Launch} {S : ShT} {I0 I : DI} {J : DJ} {d : Nat} (hC : OKC C l) (hS : SHP S) (hI0 : I = u2 I0 124 0 0) {a b : Int32} (hP0 : I 127 0 = -1) (hP : ∀ i, 1 ≤ i → i < 16 → ∃ j, j < 16 ∧ I 127 i = nI j) (hz : ∀ i, i < 16 → ¬ I 125 i = 0 → zro (I 127) 16 i) (hd : 2 ≤ d) : Sp C l k_Md_move y_Md_move (d, 0, 0) [.ref 124, .int a, .int b] S I0 J (PI S J (MvM I a b)) := by
  refine Sp.of hC cd_Md_move (Nat.le_of_ble_eq_true rfl) ?_
  show V C l k_Md_move (d, 0, 0) _ 0 [(0, .ref 124), (1, .int a), (2, .int b)] [] S I0 J (0, 0)
  refine v_aload_n 0 d_Md_move_0 rfl rfl rfl ?_
  refine v_iconst (v := 0) d_Md_move_1 (by decide) rfl ?_
  refine v_puti d_Md_move_2 fl_Md_85 (hS.o (by decide) rfl) rfl rfl rfl ?_
  rw [← hI0]
  exact b_Md_move hC hS hP0 hP hz hd
def mkd (I : DI) (j i : Nat) : Bool := decide (i = j) || (!decide (I 125 i = 0) && wup (I 127) (nI j) 16 i)
set_option maxHeartbeats 4000000 in
set_option maxRecDepth 100000 in
theorem lp_Md_mark {C : CT} {l : Launch} {S : ShT} {d : Nat} (hC : OKC C l) (hS : SHP S) (hd : 1 ≤ d) {I0 : DI} {J : DJ} {a : Int32} {j : Nat} (hj : j < 16) (ea : a = nI j) (hP0 : I0 127 0 = -1) (hP : ∀ i, 1 ≤ i → i < 16 → ∃ j, j < 16 ∧ I0 127 i = nI j) (hz : ∀ i, i < 16 → ¬ I0 125 i = 0 → zro (I0 127) 16 i)  : ∀ (n0 : Nat) (t : Nat) (I : DI) (x : Int32), x = nI t → t ≤ 16 → 16 < t + n0 → (∀ i, i < t → I 130 i = bI (mkd I0 j i)) → (∀ b, b ≠ 130 → I b = I0 b) → V C l k_Md_mark (d, 0, 0) (PU S J (fun I' => (∀ i, i < 16 → I' 130 i = bI (mkd I0 j i)) ∧ ∀ b, b ≠ 130 → I' b = I0 b)) 2 [(2, .int x), (0, .ref 124), (1, .int a)] [] S I J (0, 0) := by
  intro n0
  induction n0 with
  | zero =>
    intro t I x ex ht0 hf hmk hfr
    omega
  | succ n0 ih =>
    intro t I x ex ht0 hf hmk hfr
    have f127 : I 127 = I0 127 := hfr 127 (by decide)
    have f125 : I 125 = I0 125 := hfr 125 (by decide)
    refine v_iload_n 0 d_Md_mark_2 rfl rfl rfl ?_
    refine v_bipush (v := 16) d_Md_mark_3 (by decide) rfl ?_
    refine v_icmp_ge (tgt := 39) d_Md_mark_5 (by decide) rfl (fun c1 => ?_) (fun c1 => ?_)
    · refine v_vret d_Md_mark_39 rfl ?_
      have ht16 : 16 ≤ t := by rcases Nat.lt_or_ge (t) (16) with h9 | h9; exact absurd c1 (by rw [ex]; exact nI_ge (b := 16) h9 (by omega)); exact h9
      exact ⟨rfl, rfl, rfl, fun i hi => hmk i (by omega), hfr⟩
    · have ht16 : t < 16 := by rcases Nat.lt_or_ge (t) (16) with h9 | h9; exact h9; exact absurd (by rw [ex]; exact nI_le (a := 16) h9 (by omega)) c1
      refine v_aload_n 1 d_Md_mark_8 rfl rfl rfl ?_
      refine v_getr (r := 130) d_Md_mark_9 fl_Md_26 (hS.o (by decide) rfl) rfl (hS.r (by decide) rfl) rfl ?_
      refine v_iload_n 0 d_Md_mark_12 rfl rfl rfl ?_
      refine v_iload_n 0 d_Md_mark_13 rfl rfl rfl ?_
      refine v_iload_n 2 d_Md_mark_14 rfl rfl rfl ?_
      refine v_icmp_eq (tgt := 27) d_Md_mark_15 (by decide) rfl (fun c2 => ?_) (fun c2 => ?_)
      · refine v_iconst (v := 1) d_Md_mark_27 (by decide) rfl ?_
        refine v_goto (tgt := 32) d_Md_mark_28 (by decide) ?_
        refine v_zast (j := t) d_Md_mark_32 (hS.a (t := 33) (n := 16) (by decide) rfl) ex (by omega) (by decide) (Or.inr rfl) rfl ?_
        generalize hI3 : u2 I 130 t 1 = I3
        obtain ⟨x4, ex4⟩ : ∃ y : Int32, y = x + 1 := ⟨_, rfl⟩
        have nx4 : x4 = nI (t + 1) := by rw [ex4, show x = nI t from ex]; exact nI_1 _
        refine v_iinc (n := 0) (v := x4) (L' := [(2, .int x4), (0, .ref 124), (1, .int a)]) d_Md_mark_33 rfl (by rw [ex4]; rfl) (by decide) rfl rfl ?_
        refine v_goto (tgt := 2) d_Md_mark_36 (by decide) ?_
        refine ih (t + 1) _ _ nx4 (by omega) (by omega) (fun i hi => ?_) (fun b hb => by rw [← hI3, u2_o hb]; exact hfr b hb)
        rw [← hI3, u2_row]
        show (if i = t then _ else _) = _
        by_cases h9 : i = t
        · rw [if_pos h9, h9]; exact (show _ = bI (mkd I0 j t) from by unfold mkd; rw [decide_eq_true (nI_inj (by omega) (by omega) (show nI t = nI j by rw [← ex, ← ea]; exact c2))]; rfl)
        · rw [if_neg h9]; exact hmk i (by omega)
      · refine v_aload_n 1 d_Md_mark_18 rfl rfl rfl ?_
        refine v_iload_n 0 d_Md_mark_19 rfl rfl rfl ?_
        refine v_iload_n 2 d_Md_mark_20 rfl rfl rfl ?_
        refine v_cVp (as := [.int x, .int a]) d_Md_mark_21 cs_Md_125 (by rw [ea, ex]; exact c_Md_within hC hS (d := d - 1) (j := t) (f := nI j) ht16 (by rw [f127]; exact hP0) (by rw [f127]; exact hP) (by rw [f127, f125]; exact hz t ht16) (by omega)) (hS.o (by decide) rfl) (by decide) rfl rfl rfl (by simp [Value.category]) (by omega) rfl ?_
        refine v_if_eq (tgt := 31) d_Md_mark_24 (by decide) rfl (fun c5 => ?_) (fun c5 => ?_)
        · refine v_iconst (v := 0) d_Md_mark_31 (by decide) rfl ?_
          refine v_zast (j := t) d_Md_mark_32 (hS.a (t := 33) (n := 16) (by decide) rfl) ex (by omega) (by decide) (Or.inl rfl) rfl ?_
          generalize hI6 : u2 I 130 t 0 = I6
          obtain ⟨x7, ex7⟩ : ∃ y : Int32, y = x + 1 := ⟨_, rfl⟩
          have nx7 : x7 = nI (t + 1) := by rw [ex7, show x = nI t from ex]; exact nI_1 _
          refine v_iinc (n := 0) (v := x7) (L' := [(2, .int x7), (0, .ref 124), (1, .int a)]) d_Md_mark_33 rfl (by rw [ex7]; rfl) (by decide) rfl rfl ?_
          refine v_goto (tgt := 2) d_Md_mark_36 (by decide) ?_
          refine ih (t + 1) _ _ nx7 (by omega) (by omega) (fun i hi => ?_) (fun b hb => by rw [← hI6, u2_o hb]; exact hfr b hb)
          rw [← hI6, u2_row]
          show (if i = t then _ else _) = _
          by_cases h9 : i = t
          · rw [if_pos h9, h9]; exact (show _ = bI (mkd I0 j t) from by unfold mkd; rw [← f125, ← f127, bI_f c5, decide_eq_false (fun h9 => c2 (by rw [ex, ea, h9]))]; rfl)
          · rw [if_neg h9]; exact hmk i (by omega)
        · refine v_iconst (v := 1) d_Md_mark_27 (by decide) rfl ?_
          refine v_goto (tgt := 32) d_Md_mark_28 (by decide) ?_
          refine v_zast (j := t) d_Md_mark_32 (hS.a (t := 33) (n := 16) (by decide) rfl) ex (by omega) (by decide) (Or.inr rfl) rfl ?_
          generalize hI8 : u2 I 130 t 1 = I8
          obtain ⟨x9, ex9⟩ : ∃ y : Int32, y = x + 1 := ⟨_, rfl⟩
          have nx9 : x9 = nI (t + 1) := by rw [ex9, show x = nI t from ex]; exact nI_1 _
          refine v_iinc (n := 0) (v := x9) (L' := [(2, .int x9), (0, .ref 124), (1, .int a)]) d_Md_mark_33 rfl (by rw [ex9]; rfl) (by decide) rfl rfl ?_
          refine v_goto (tgt := 2) d_Md_mark_36 (by decide) ?_
          refine ih (t + 1) _ _ nx9 (by omega) (by omega) (fun i hi => ?_) (fun b hb => by rw [← hI8, u2_o hb]; exact hfr b hb)
          rw [← hI8, u2_row]
          show (if i = t then _ else _) = _
          by_cases h9 : i = t
          · rw [if_pos h9, h9]; exact (show _ = bI (mkd I0 j t) from by unfold mkd; rw [← f125, ← f127, bI_t c5, Bool.or_true]; rfl)
          · rw [if_neg h9]; exact hmk i (by omega)
set_option maxHeartbeats 4000000 in
set_option maxRecDepth 100000 in
theorem c_Md_mark {C : CT} {l : Launch} {S : ShT} {I : DI} {J : DJ} {d : Nat} (hC : OKC C l) (hS : SHP S) {a : Int32} {j : Nat} (hj : j < 16) (ea : a = nI j) (hP0 : I 127 0 = -1) (hP : ∀ i, 1 ≤ i → i < 16 → ∃ j, j < 16 ∧ I 127 i = nI j) (hz : ∀ i, i < 16 → ¬ I 125 i = 0 → zro (I 127) 16 i) (hd : 1 ≤ d) : Sp C l k_Md_mark y_Md_mark (d, 0, 0) [.ref 124, .int a] S I J (PU S J (fun I' => (∀ i, i < 16 → I' 130 i = bI (mkd I j i)) ∧ ∀ b, b ≠ 130 → I' b = I b)) := by
  refine Sp.of hC cd_Md_mark (Nat.le_of_ble_eq_true rfl) ?_
  show V C l k_Md_mark (d, 0, 0) _ 0 [(0, .ref 124), (1, .int a)] [] S I J (0, 0)
  refine v_iconst (v := 0) d_Md_mark_0 (by decide) rfl ?_
  refine v_istore_n (L' := [(2, .int 0), (0, .ref 124), (1, .int a)]) d_Md_mark_1 rfl (by decide) rfl rfl ?_
  exact lp_Md_mark hC hS hd hj ea hP0 hP hz 17 0 I _ rfl (by omega) (by omega) (fun i hi => by omega) (fun _ _ => rfl)
def RmM (I : DI) (t : Nat) (I' : DI) : Prop := if I 126 t = 0 then TlM (u2 I 125 t 0) (nI t) 3 I' else I' = u2 I 125 t 0
def RvMC (I0 : DI) (mk : Nat → Bool) : Nat → Nat → DI → Prop
  | 0, c, I => c = 0 ∧ I = I0
  | t + 1, c, I => ∃ c0 I1, RvMC I0 mk t c0 I1 ∧ ((mk t = true ∧ RmM I1 t I ∧ c = c0 + 1) ∨ (mk t = false ∧ I = I1 ∧ c = c0))
theorem RmM.inv {I I' : DI} {t m : Nat} (h : RmM I t I') (hm : m ≤ 8) (h2 : I 124 9 = nI m) : (∀ b, b ≠ 124 → b ≠ 125 → b ≠ 131 → b ≠ 132 → I' b = I b) ∧ (∀ j, j ≠ 9 → j ≠ 10 → I' 124 j = I 124 j) ∧ ∃ m', m' ≤ 8 ∧ I' 124 9 = nI m' := by
  unfold RmM at h
  by_cases h1 : I 126 t = 0
  · rw [if_pos h1] at h
    obtain ⟨m1, m2, g1, g2, g3, g4, g5, g6, g7⟩ := h
    exact ⟨fun b b1 b2 b3 b4 => by rw [g7 b b1 b3 b4, u2_o b2], fun j j1 j2 => by rw [g6 j j1 j2, u2_o (by decide)], m2, g4, g3⟩
  · rw [if_neg h1] at h
    rw [h]
    exact ⟨fun b _ b1 _ _ => by rw [u2_o b1], fun j _ _ => by rw [u2_o (by decide)], m, hm, by rw [u2_o (by decide)]; exact h2⟩
theorem RvMC.inv {I0 : DI} {mk : Nat → Bool} {m : Nat} (hm : m ≤ 8) (h2 : I0 124 9 = nI m) : ∀ (t c : Nat) (I : DI), RvMC I0 mk t c I → c ≤ t ∧ (∀ b, b ≠ 124 → b ≠ 125 → b ≠ 131 → b ≠ 132 → I b = I0 b) ∧ (∀ j, j ≠ 9 → j ≠ 10 → I 124 j = I0 124 j) ∧ ∃ m', m' ≤ 8 ∧ I 124 9 = nI m' := by
  intro t
  induction t with
  | zero => intro c I h; obtain ⟨rfl, rfl⟩ := h; exact ⟨Nat.le_refl _, fun _ _ _ _ _ => rfl, fun _ _ _ => rfl, m, hm, h2⟩
  | succ t ih =>
    intro c I h
    obtain ⟨c0, I1, h1, h3⟩ := h
    obtain ⟨g1, g2, g5, m', g3, g4⟩ := ih c0 I1 h1
    rcases h3 with ⟨_, q2, q3⟩ | ⟨_, q2, q3⟩
    · obtain ⟨k1, k3, k2⟩ := q2.inv g3 g4
      exact ⟨by omega, fun b b1 b2 b3 b4 => by rw [k1 b b1 b2 b3 b4, g2 b b1 b2 b3 b4], fun j j1 j2 => by rw [k3 j j1 j2, g5 j j1 j2], k2⟩
    · rw [q2]; exact ⟨by omega, g2, g5, m', g3, g4⟩
def RvM (I : DI) (a : Int32) (x : Int32) (I' : DI) : Prop :=
  (isNb a = false ∧ x = 0 ∧ I' = u2 I 124 0 1) ∨ (isNb a = true ∧ mdS I a = 0 ∧ x = 0 ∧ I' = u2 I 124 0 2) ∨
  (∃ j c I1, a = nI j ∧ 1 ≤ j ∧ j < 16 ∧ ¬ mst I j = 0 ∧ (∀ b, b ≠ 130 → I1 b = I b) ∧ RvMC I1 (mkd I j) 16 c I' ∧ c ≤ 16 ∧ x = nI c)
set_option maxHeartbeats 4000000 in
set_option maxRecDepth 100000 in
theorem lp_Md_remove {C : CT} {l : Launch} {S : ShT} {d : Nat} (hC : OKC C l) (hS : SHP S) (hd : 2 ≤ d) {II I0 : DI} {J : DJ} {a : Int32} {j m : Nat} (hm : m ≤ 8) (h2 : I0 124 9 = nI m) (ea : a = nI j) (hj1 : 1 ≤ j) (hj : j < 16) (hj0 : ¬ mst II j = 0) (hmk : ∀ i, i < 16 → I0 130 i = bI (mkd II j i)) (hfr0 : ∀ b, b ≠ 130 → I0 b = II b) : ∀ (n0 : Nat) (t c : Nat) (I : DI) (x z : Int32), x = nI t → z = nI c → t ≤ 16 → 16 < t + n0 → RvMC I0 (mkd II j) t c I → V C l k_Md_remove (d, 0, 0) (PI S J (RvM II a)) 45 [(3, .int x), (2, .int z), (0, .ref 124), (1, .int a)] [] S I J (0, 0) := by
  intro n0
  induction n0 with
  | zero =>
    intro t c I x z ex ez ht0 hf hC0
    omega
  | succ n0 ih =>
    intro t c I x z ex ez ht0 hf hC0
    obtain ⟨hct, hfr, hfr2, m1, hm1, h21⟩ := RvMC.inv hm h2 t c I hC0
    refine v_iload_n 0 d_Md_remove_45 rfl rfl rfl ?_
    refine v_bipush (v := 16) d_Md_remove_46 (by decide) rfl ?_
    refine v_icmp_ge (tgt := 94) d_Md_remove_48 (by decide) rfl (fun c1 => ?_) (fun c1 => ?_)
    · refine v_iload_n 1 d_Md_remove_94 rfl rfl rfl ?_
      refine v_iret d_Md_remove_95 rfl ?_
      have ht16 : 16 ≤ t := by rcases Nat.lt_or_ge (t) (16) with h9 | h9; exact absurd c1 (by rw [ex]; exact nI_ge (b := 16) h9 (by omega)); exact h9
      have : t = 16 := by omega
      subst this
      exact ⟨rfl, rfl, _, rfl, Or.inr (Or.inr ⟨j, c, I0, ea, hj1, hj, hj0, hfr0, hC0, hct, ez⟩)⟩
    · have ht16 : t < 16 := by rcases Nat.lt_or_ge (t) (16) with h9 | h9; exact h9; exact absurd (by rw [ex]; exact nI_le (a := 16) h9 (by omega)) c1
      have hmt : I 130 t = bI (mkd II j t) := by rw [hfr 130 (by decide) (by decide) (by decide) (by decide)]; exact hmk t ht16
      refine v_aload_n 2 d_Md_remove_51 rfl rfl rfl ?_
      refine v_getr (r := 130) d_Md_remove_52 fl_Md_26 (hS.o (by decide) rfl) rfl (hS.r (by decide) rfl) rfl ?_
      refine v_iload_n 0 d_Md_remove_55 rfl rfl rfl ?_
      refine v_zald (j := t) d_Md_remove_56 (hS.a (t := 33) (n := 16) (by decide) rfl) ex (by omega) (by decide) rfl ?_
      refine v_if_ne (tgt := 63) d_Md_remove_57 (by decide) rfl (fun c2 => ?_) (fun c2 => ?_)
      · refine v_aload_n 2 d_Md_remove_63 rfl rfl rfl ?_
        refine v_getr (r := 125) d_Md_remove_64 fl_Md_7 (hS.o (by decide) rfl) rfl (hS.r (by decide) rfl) rfl ?_
        refine v_iload_n 0 d_Md_remove_67 rfl rfl rfl ?_
        refine v_iconst (v := 0) d_Md_remove_68 (by decide) rfl ?_
        refine v_zast (j := t) d_Md_remove_69 (hS.a (t := 33) (n := 16) (by decide) rfl) ex (by omega) (by decide) (Or.inl rfl) rfl ?_
        generalize hI3 : u2 I 125 t 0 = I3
        obtain ⟨x4, ex4⟩ : ∃ y : Int32, y = z + 1 := ⟨_, rfl⟩
        have nx4 : x4 = nI (c + 1) := by rw [ex4, show z = nI c from ez]; exact nI_1 _
        refine v_iinc (n := 1) (v := x4) (L' := [(2, .int x4), (3, .int x), (0, .ref 124), (1, .int a)]) d_Md_remove_70 rfl (by rw [ex4]; rfl) (by decide) rfl rfl ?_
        refine v_aload_n 2 d_Md_remove_73 rfl rfl rfl ?_
        refine v_getr (r := 126) d_Md_remove_74 fl_Md_13 (hS.o (by decide) rfl) rfl (hS.r (by decide) rfl) rfl ?_
        refine v_iload_n 1 d_Md_remove_77 rfl rfl rfl ?_
        refine v_zald (j := t) d_Md_remove_78 (hS.a (t := 33) (n := 16) (by decide) rfl) ex (by omega) (by decide) rfl ?_
        refine v_if_ne (tgt := 88) d_Md_remove_79 (by decide) rfl (fun c5 => ?_) (fun c5 => ?_)
        · obtain ⟨x6, ex6⟩ : ∃ y : Int32, y = x + 1 := ⟨_, rfl⟩
          have nx6 : x6 = nI (t + 1) := by rw [ex6, show x = nI t from ex]; exact nI_1 _
          refine v_iinc (n := 1) (v := x6) (L' := [(3, .int x6), (2, .int x4), (0, .ref 124), (1, .int a)]) d_Md_remove_88 rfl (by rw [ex6]; rfl) (by decide) rfl rfl ?_
          refine v_goto (tgt := 45) d_Md_remove_91 (by decide) ?_
          exact ih (t + 1) (c + 1) _ _ _ nx6 nx4 (by omega) (by omega) ⟨c, I, hC0, Or.inl ⟨bI_t (by rw [← hmt]; exact c2), by unfold RmM; rw [if_neg (by have h9 := c5; rw [← hI3, u2_o (by decide)] at h9; exact h9), hI3], rfl⟩⟩
        · refine v_aload_n 2 d_Md_remove_82 rfl rfl rfl ?_
          refine v_iconst (v := 3) d_Md_remove_83 (by decide) rfl ?_
          refine v_iload_n 1 d_Md_remove_84 rfl rfl rfl ?_
          refine v_cVu (as := [.int 3, .int x]) d_Md_remove_85 cs_Md_115 (by rw [ex]; exact c_Md_tell hC hS (d := d - 1) hm1 (by rw [← hI3, u2_o (by decide)]; exact h21) 3 (nI t) (by omega)) (hS.o (by decide) rfl) (by decide) rfl rfl rfl (by decide) (by omega) rfl (fun I9 ht => ?_)
          obtain ⟨x7, ex7⟩ : ∃ y : Int32, y = x + 1 := ⟨_, rfl⟩
          have nx7 : x7 = nI (t + 1) := by rw [ex7, show x = nI t from ex]; exact nI_1 _
          refine v_iinc (n := 1) (v := x7) (L' := [(3, .int x7), (2, .int x4), (0, .ref 124), (1, .int a)]) d_Md_remove_88 rfl (by rw [ex7]; rfl) (by decide) rfl rfl ?_
          refine v_goto (tgt := 45) d_Md_remove_91 (by decide) ?_
          exact ih (t + 1) (c + 1) _ _ _ nx7 nx4 (by omega) (by omega) ⟨c, I, hC0, Or.inl ⟨bI_t (by rw [← hmt]; exact c2), by unfold RmM; rw [if_pos (by have h9 := c5; rw [← hI3, u2_o (by decide)] at h9; exact h9), hI3]; exact ht, rfl⟩⟩
      · refine v_goto (tgt := 88) d_Md_remove_60 (by decide) ?_
        obtain ⟨x8, ex8⟩ : ∃ y : Int32, y = x + 1 := ⟨_, rfl⟩
        have nx8 : x8 = nI (t + 1) := by rw [ex8, show x = nI t from ex]; exact nI_1 _
        refine v_iinc (n := 0) (v := x8) (L' := [(3, .int x8), (2, .int z), (0, .ref 124), (1, .int a)]) d_Md_remove_88 rfl (by rw [ex8]; rfl) (by decide) rfl rfl ?_
        refine v_goto (tgt := 45) d_Md_remove_91 (by decide) ?_
        exact ih (t + 1) c _ _ _ nx8 ez (by omega) (by omega) ⟨c, I, hC0, Or.inr ⟨bI_f (by rw [← hmt]; exact c2), rfl, rfl⟩⟩
set_option maxHeartbeats 4000000 in
set_option maxRecDepth 100000 in
theorem b_Md_remove {C : CT} {l : Launch} {S : ShT} {I : DI} {J : DJ} {d : Nat} (hC : OKC C l) (hS : SHP S) {m : Nat} {a : Int32} (hm : m ≤ 8) (h2 : I 124 9 = nI m) (hP0 : I 127 0 = -1) (hP : ∀ i, 1 ≤ i → i < 16 → ∃ j, j < 16 ∧ I 127 i = nI j) (hz : ∀ i, i < 16 → ¬ I 125 i = 0 → zro (I 127) 16 i) (hd : 2 ≤ d) : V C l k_Md_remove (d, 0, 0) (PI S J (RvM I a)) 5 [(0, .ref 124), (1, .int a)] [] S I J (0, 0) := by
  refine v_iload_n 1 d_Md_remove_5 rfl rfl rfl ?_
  refine v_iconst (v := 1) d_Md_remove_6 (by decide) rfl ?_
  refine v_bipush (v := 15) d_Md_remove_7 (by decide) rfl ?_
  refine v_cSp (as := [.int a, .int 1, .int 15]) d_Md_remove_9 cs_Md_88 (c_Md_in hC (d := d - 1) a 1 15 (by omega)) rfl rfl (by decide) (by omega) rfl ?_
  refine v_if_ne (tgt := 21) d_Md_remove_12 (by decide) rfl (fun c1 => ?_) (fun c1 => ?_)
  · have hnb : isNb a = true := by rw [← inB_nb]; exact bI_t c1
    obtain ⟨j, hj1, hj, ea⟩ := isNb_j hnb
    refine v_aload_n 0 d_Md_remove_21 rfl rfl rfl ?_
    refine v_getr (r := 125) d_Md_remove_22 fl_Md_7 (hS.o (by decide) rfl) rfl (hS.r (by decide) rfl) rfl ?_
    refine v_iload_n 1 d_Md_remove_25 rfl rfl rfl ?_
    refine v_zald (j := j) d_Md_remove_26 (hS.a (t := 33) (n := 16) (by decide) rfl) ea (by omega) (by decide) rfl ?_
    refine v_if_ne (tgt := 36) d_Md_remove_27 (by decide) rfl (fun c2 => ?_) (fun c2 => ?_)
    · refine v_aload_n 0 d_Md_remove_36 rfl rfl rfl ?_
      refine v_iload_n 1 d_Md_remove_37 rfl rfl rfl ?_
      refine v_cVu (as := [.int a]) d_Md_remove_38 cs_Md_122 (c_Md_mark hC hS (d := d - 1) hj ea hP0 hP hz (by omega)) (hS.o (by decide) rfl) (by decide) rfl rfl rfl (by decide) (by omega) rfl (fun I9 hmk => ?_)
      refine v_iconst (v := 0) d_Md_remove_41 (by decide) rfl ?_
      refine v_istore_n (L' := [(2, .int 0), (0, .ref 124), (1, .int a)]) d_Md_remove_42 rfl (by decide) rfl rfl ?_
      refine v_iconst (v := 0) d_Md_remove_43 (by decide) rfl ?_
      refine v_istore_n (L' := [(3, .int 0), (2, .int 0), (0, .ref 124), (1, .int a)]) d_Md_remove_44 rfl (by decide) rfl rfl ?_
      exact lp_Md_remove hC hS hd hm (by rw [hmk.2 124 (by decide)]; exact h2) ea hj1 hj (fun h9 => c2 (mst_0.mp h9)) hmk.1 hmk.2 17 0 0 I9 _ _ rfl rfl (by omega) (by omega) ⟨rfl, rfl⟩
    · refine v_aload_n 0 d_Md_remove_30 rfl rfl rfl ?_
      refine v_iconst (v := 2) d_Md_remove_31 (by decide) rfl ?_
      refine v_cVi (as := [.int 2]) d_Md_remove_32 cs_Md_107 (c_Md_raise hC hS (d := d - 1) 2 (by omega)) (hS.o (by decide) rfl) (by decide) rfl rfl rfl (by decide) (by omega) rfl (fun xr Ir hr => ?_)
      refine v_iret d_Md_remove_35 rfl ?_
      exact ⟨rfl, rfl, _, rfl, Or.inr (Or.inl ⟨hnb, by rw [ea, mdS_j hj]; exact mst_0.mpr c2, hr.1, hr.2⟩)⟩
  · refine v_aload_n 0 d_Md_remove_15 rfl rfl rfl ?_
    refine v_iconst (v := 1) d_Md_remove_16 (by decide) rfl ?_
    refine v_cVi (as := [.int 1]) d_Md_remove_17 cs_Md_107 (c_Md_raise hC hS (d := d - 1) 1 (by omega)) (hS.o (by decide) rfl) (by decide) rfl rfl rfl (by decide) (by omega) rfl (fun xr Ir hr => ?_)
    refine v_iret d_Md_remove_20 rfl ?_
    exact ⟨rfl, rfl, _, rfl, Or.inl ⟨by rw [← inB_nb]; exact bI_f c1, hr.1, hr.2⟩⟩
set_option maxHeartbeats 4000000 in
set_option maxRecDepth 100000 in
theorem c_Md_remove {C : CT} {l : Launch} {S : ShT} {I0 I : DI} {J : DJ} {d : Nat} (hC : OKC C l) (hS : SHP S) (hI0 : I = u2 I0 124 0 0) {m : Nat} {a : Int32} (hm : m ≤ 8) (h2 : I 124 9 = nI m) (hP0 : I 127 0 = -1) (hP : ∀ i, 1 ≤ i → i < 16 → ∃ j, j < 16 ∧ I 127 i = nI j) (hz : ∀ i, i < 16 → ¬ I 125 i = 0 → zro (I 127) 16 i) (hd : 2 ≤ d) : Sp C l k_Md_remove y_Md_remove (d, 0, 0) [.ref 124, .int a] S I0 J (PI S J (RvM I a)) := by
  refine Sp.of hC cd_Md_remove (Nat.le_of_ble_eq_true rfl) ?_
  show V C l k_Md_remove (d, 0, 0) _ 0 [(0, .ref 124), (1, .int a)] [] S I0 J (0, 0)
  refine v_aload_n 0 d_Md_remove_0 rfl rfl rfl ?_
  refine v_iconst (v := 0) d_Md_remove_1 (by decide) rfl ?_
  refine v_puti d_Md_remove_2 fl_Md_85 (hS.o (by decide) rfl) rfl rfl rfl ?_
  rw [← hI0]
  exact b_Md_remove hC hS hm h2 hP0 hP hz hd
