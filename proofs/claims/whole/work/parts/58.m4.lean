/-! ===== THE MODEL, 4 ===== -/
def TyM (I : DI) (n : Nat) (x : Int32) (r : Int32) (I' : DI) : Prop :=
  (isCd x = false ∧ r = 0 ∧ I' = u2 I 124 0 1) ∨ (isCd x = true ∧ n = 40 ∧ r = 0 ∧ I' = u2 I 124 0 2) ∨
  (isCd x = true ∧ n < 40 ∧ r = nI (n + 1) ∧ I' = u2 (u2 I 138 n x) 124 18 (nI (n + 1)))
set_option maxHeartbeats 4000000 in
set_option maxRecDepth 100000 in
theorem b_Md_type {C : CT} {l : Launch} {S : ShT} {I : DI} {J : DJ} {d : Nat} (hC : OKC C l) (hS : SHP S) {n : Nat} {x : Int32} (hn : I 124 18 = nI n) (hn40 : n ≤ 40) (hd : 1 ≤ d) : V C l k_Md_type (d, 0, 0) (PI S J (TyM I n x)) 5 [(0, .ref 124), (1, .int x)] [] S I J (0, 0) := by
  refine v_iload_n 1 d_Md_type_5 rfl rfl rfl ?_
  refine v_bipush (v := 32) d_Md_type_6 (by decide) rfl ?_
  refine v_bipush (v := 126) d_Md_type_8 (by decide) rfl ?_
  refine v_cSp (as := [.int x, .int 32, .int 126]) d_Md_type_10 cs_Md_88 (c_Md_in hC (d := d - 1) x 32 126 (by omega)) rfl rfl (by decide) (by omega) rfl ?_
  refine v_if_ne (tgt := 22) d_Md_type_13 (by decide) rfl (fun c1 => ?_) (fun c1 => ?_)
  · refine v_aload_n 0 d_Md_type_22 rfl rfl rfl ?_
    refine v_geti d_Md_type_23 fl_Md_138 (hS.o (by decide) rfl) rfl rfl ?_
    refine v_bipush (v := 40) d_Md_type_26 (by decide) rfl ?_
    refine v_icmp_ne (tgt := 37) d_Md_type_28 (by decide) rfl (fun c2 => ?_) (fun c2 => ?_)
    · have hn4 : n < 40 := by rcases Nat.lt_or_ge n 40 with h9 | h9; exact h9; exact absurd (by rw [hn, show n = 40 by omega]; rfl) c2
      refine v_aload_n 0 d_Md_type_37 rfl rfl rfl ?_
      refine v_getr (r := 138) d_Md_type_38 fl_Md_51 (hS.o (by decide) rfl) rfl (hS.r (by decide) rfl) rfl ?_
      refine v_aload_n 0 d_Md_type_41 rfl rfl rfl ?_
      refine v_geti d_Md_type_42 fl_Md_138 (hS.o (by decide) rfl) rfl rfl ?_
      refine v_iload_n 1 d_Md_type_45 rfl rfl rfl ?_
      refine v_iast (j := n) d_Md_type_46 (hS.a (t := 32) (n := 40) (by decide) rfl) hn (by omega) (by decide) rfl ?_
      generalize hI3 : u2 I 138 n x = I3
      have hn1 : I3 124 18 = nI n := by rw [← hI3, u2_o (by decide)]; exact hn
      refine v_aload_n 0 d_Md_type_47 rfl rfl rfl ?_
      refine v_dup d_Md_type_48 rfl rfl ?_
      refine v_geti d_Md_type_49 fl_Md_138 (hS.o (by decide) rfl) rfl rfl ?_
      refine v_iconst (v := 1) d_Md_type_52 (by decide) rfl ?_
      refine v_iadd d_Md_type_53 rfl ?_
      refine v_nmi (fun z4 ez4 => ?_)
      have nz4 : z4 = nI (n + 1) := by rw [ez4, show I3 124 18 = nI n from hn1, show 1 = nI 1 from rfl]; exact nI_add _ _
      refine v_puti d_Md_type_54 fl_Md_138 (hS.o (by decide) rfl) rfl rfl rfl ?_
      generalize hI5 : u2 I3 124 18 z4 = I5
      refine v_aload_n 0 d_Md_type_57 rfl rfl rfl ?_
      refine v_geti d_Md_type_58 fl_Md_138 (hS.o (by decide) rfl) rfl rfl ?_
      refine v_iret d_Md_type_61 rfl ?_
      have hv : I5 = u2 (u2 I 138 n x) 124 18 (nI (n + 1)) := by rw [← hI5, nz4, ← hI3]
      exact ⟨rfl, rfl, _, rfl, Or.inr (Or.inr ⟨bI_t c1, hn4, by rw [hv, u2_s], hv⟩)⟩
    · refine v_aload_n 0 d_Md_type_31 rfl rfl rfl ?_
      refine v_iconst (v := 2) d_Md_type_32 (by decide) rfl ?_
      refine v_cVi (as := [.int 2]) d_Md_type_33 cs_Md_107 (c_Md_raise hC hS (d := d - 1) 2 (by omega)) (hS.o (by decide) rfl) (by decide) rfl rfl rfl (by decide) (by omega) rfl (fun xr Ir hr => ?_)
      refine v_iret d_Md_type_36 rfl ?_
      exact ⟨rfl, rfl, _, rfl, Or.inr (Or.inl ⟨bI_t c1, (nI_eq (b := 40) (by omega) (by decide)).mp (by rw [← hn]; exact c2), hr.1, hr.2⟩)⟩
  · refine v_aload_n 0 d_Md_type_16 rfl rfl rfl ?_
    refine v_iconst (v := 1) d_Md_type_17 (by decide) rfl ?_
    refine v_cVi (as := [.int 1]) d_Md_type_18 cs_Md_107 (c_Md_raise hC hS (d := d - 1) 1 (by omega)) (hS.o (by decide) rfl) (by decide) rfl rfl rfl (by decide) (by omega) rfl (fun xr Ir hr => ?_)
    refine v_iret d_Md_type_21 rfl ?_
    exact ⟨rfl, rfl, _, rfl, Or.inl ⟨bI_f c1, hr.1, hr.2⟩⟩
set_option maxHeartbeats 4000000 in
set_option maxRecDepth 100000 in
theorem c_Md_type {C : CT} {l : Launch} {S : ShT} {I0 I : DI} {J : DJ} {d : Nat} (hC : OKC C l) (hS : SHP S) (hI0 : I = u2 I0 124 0 0) {n : Nat} {x : Int32} (hn : I 124 18 = nI n) (hn40 : n ≤ 40) (hd : 1 ≤ d) : Sp C l k_Md_type y_Md_type (d, 0, 0) [.ref 124, .int x] S I0 J (PI S J (TyM I n x)) := by
  refine Sp.of hC cd_Md_type (Nat.le_of_ble_eq_true rfl) ?_
  show V C l k_Md_type (d, 0, 0) _ 0 [(0, .ref 124), (1, .int x)] [] S I0 J (0, 0)
  refine v_aload_n 0 d_Md_type_0 rfl rfl rfl ?_
  refine v_iconst (v := 0) d_Md_type_1 (by decide) rfl ?_
  refine v_puti d_Md_type_2 fl_Md_85 (hS.o (by decide) rfl) rfl rfl rfl ?_
  rw [← hI0]
  exact b_Md_type hC hS hn hn40 hd
set_option maxHeartbeats 4000000 in
set_option maxRecDepth 100000 in
theorem b_Md_fault {C : CT} {l : Launch} {S : ShT} {I : DI} {J : DJ} {d : Nat} (hC : OKC C l) (hS : SHP S) (hd : 0 ≤ d) : V C l k_Md_fault (d, 0, 0) (PI S J (fun r I' => r = I 124 30 ∧ I' = I)) 5 [(0, .ref 124)] [] S I J (0, 0) := by
  refine v_aload_n 0 d_Md_fault_5 rfl rfl rfl ?_
  refine v_geti d_Md_fault_6 fl_Md_75 (hS.o (by decide) rfl) rfl rfl ?_
  refine v_iret d_Md_fault_9 rfl ?_
  exact ⟨rfl, rfl, _, rfl, rfl, rfl⟩
set_option maxHeartbeats 4000000 in
set_option maxRecDepth 100000 in
theorem c_Md_fault {C : CT} {l : Launch} {S : ShT} {I0 I : DI} {J : DJ} {d : Nat} (hC : OKC C l) (hS : SHP S) (hI0 : I = u2 I0 124 0 0) (hd : 0 ≤ d) : Sp C l k_Md_fault y_Md_fault (d, 0, 0) [.ref 124] S I0 J (PI S J (fun r I' => r = I 124 30 ∧ I' = I)) := by
  refine Sp.of hC cd_Md_fault (Nat.le_of_ble_eq_true rfl) ?_
  show V C l k_Md_fault (d, 0, 0) _ 0 [(0, .ref 124)] [] S I0 J (0, 0)
  refine v_aload_n 0 d_Md_fault_0 rfl rfl rfl ?_
  refine v_iconst (v := 0) d_Md_fault_1 (by decide) rfl ?_
  refine v_puti d_Md_fault_2 fl_Md_85 (hS.o (by decide) rfl) rfl rfl rfl ?_
  rw [← hI0]
  exact b_Md_fault hC hS  hd
theorem inB_ix {x : Int32} {q : Nat} (hq : q < 1000) : inB x 0 (nI q - 1) = (!decide (x < 0) && !decide (nI q ≤ x)) := by
  unfold inB
  rw [decide_eq_decide.mpr (show nI q - 1 < x ↔ nI q ≤ x by
    rw [Int32.lt_iff_toInt_lt, Int32.le_iff_toInt_le, show (1 : Int32) = nI 1 from rfl, pk_sub_toInt (by omega) (by omega), nI_toInt (by omega)]
    omega)]
theorem inB_ixT {x : Int32} {q : Nat} (hq : q < 1000) (h : inB x 0 (nI q - 1) = true) : ∃ j : Nat, x = nI j ∧ j < q := by
  rw [inB_ix hq, Bool.and_eq_true, Bool.not_eq_true', Bool.not_eq_true', decide_eq_false_iff_not, decide_eq_false_iff_not] at h
  exact i_ix h.1 (Int32.not_le.mp h.2) hq
theorem inB_ixF {x : Int32} {q : Nat} (hq : q < 1000) (h : inB x 0 (nI q - 1) = false) : x < 0 ∨ nI q ≤ x := by
  rw [inB_ix hq, Bool.and_eq_false_iff, Bool.not_eq_false', Bool.not_eq_false', decide_eq_true_eq, decide_eq_true_eq] at h
  exact h
theorem inB_01 {y : Int32} : inB y 0 1 = true ↔ y = 0 ∨ y = 1 := by
  have h1 : (0 : Int32).toInt = 0 := rfl
  have h2 : (1 : Int32).toInt = 1 := rfl
  unfold inB
  rw [Bool.and_eq_true, Bool.not_eq_true', Bool.not_eq_true', decide_eq_false_iff_not, decide_eq_false_iff_not, Int32.lt_iff_toInt_lt, Int32.lt_iff_toInt_lt, ← Int32.toInt_inj, ← Int32.toInt_inj, h1, h2]
  omega
def RsM (I : DI) (q : Nat) (x y : Int32) (r : Int32) (I' : DI) : Prop :=
  ((x < 0 ∨ nI q ≤ x) ∧ r = 0 ∧ I' = u2 I 124 0 1) ∨ (∃ j, x = nI j ∧ j < q ∧ ((¬ y = 0 ∧ ¬ y = 1 ∧ r = 0 ∧ I' = u2 I 124 0 2) ∨ (y = 0 ∧ r = I 146 j ∧ I' = I) ∨ (y = 1 ∧ r = I 147 j ∧ I' = I)))
set_option maxHeartbeats 4000000 in
set_option maxRecDepth 100000 in
theorem b_Md_result {C : CT} {l : Launch} {S : ShT} {I : DI} {J : DJ} {d : Nat} (hC : OKC C l) (hS : SHP S) {q : Nat} {x y : Int32} (hq : I 124 33 = nI q) (hq16 : q ≤ 16) (hd : 1 ≤ d) : V C l k_Md_result (d, 0, 0) (PI S J (RsM I q x y)) 5 [(0, .ref 124), (1, .int x), (2, .int y)] [] S I J (0, 0) := by
  refine v_iload_n 1 d_Md_result_5 rfl rfl rfl ?_
  refine v_iconst (v := 0) d_Md_result_6 (by decide) rfl ?_
  refine v_aload_n 0 d_Md_result_7 rfl rfl rfl ?_
  refine v_geti d_Md_result_8 fl_Md_178 (hS.o (by decide) rfl) rfl rfl ?_
  refine v_iconst (v := 1) d_Md_result_11 (by decide) rfl ?_
  refine v_isub d_Md_result_12 rfl ?_
  refine v_nmi (fun z1 ez1 => ?_)
  refine v_cSp (as := [.int x, .int 0, .int z1]) d_Md_result_13 cs_Md_88 (c_Md_in hC (d := d - 1) x 0 z1 (by omega)) rfl rfl (by decide) (by omega) rfl ?_
  refine v_if_ne (tgt := 25) d_Md_result_16 (by decide) rfl (fun c2 => ?_) (fun c2 => ?_)
  · obtain ⟨j, ex, hjq⟩ := inB_ixT (q := q) (by omega) (by have h9 := bI_t c2; rw [ez1, hq] at h9; exact h9)
    refine v_iload_n 2 d_Md_result_25 rfl rfl rfl ?_
    refine v_iconst (v := 0) d_Md_result_26 (by decide) rfl ?_
    refine v_iconst (v := 1) d_Md_result_27 (by decide) rfl ?_
    refine v_cSp (as := [.int y, .int 0, .int 1]) d_Md_result_28 cs_Md_88 (c_Md_in hC (d := d - 1) y 0 1 (by omega)) rfl rfl (by decide) (by omega) rfl ?_
    refine v_if_ne (tgt := 40) d_Md_result_31 (by decide) rfl (fun c3 => ?_) (fun c3 => ?_)
    · refine v_iload_n 2 d_Md_result_40 rfl rfl rfl ?_
      refine v_if_ne (tgt := 53) d_Md_result_41 (by decide) rfl (fun c4 => ?_) (fun c4 => ?_)
      · refine v_aload_n 0 d_Md_result_53 rfl rfl rfl ?_
        refine v_getr (r := 147) d_Md_result_54 fl_Md_82 (hS.o (by decide) rfl) rfl (hS.r (by decide) rfl) rfl ?_
        refine v_iload_n 1 d_Md_result_57 rfl rfl rfl ?_
        refine v_iald (j := j) d_Md_result_58 (hS.a (t := 32) (n := 16) (by decide) rfl) ex (by omega) (by decide) rfl ?_
        refine v_iret d_Md_result_59 rfl ?_
        exact ⟨rfl, rfl, _, rfl, Or.inr ⟨j, ex, hjq, Or.inr (Or.inr ⟨(inB_01.mp (bI_t c3)).resolve_left c4, rfl, rfl⟩)⟩⟩
      · refine v_aload_n 0 d_Md_result_44 rfl rfl rfl ?_
        refine v_getr (r := 146) d_Md_result_45 fl_Md_79 (hS.o (by decide) rfl) rfl (hS.r (by decide) rfl) rfl ?_
        refine v_iload_n 1 d_Md_result_48 rfl rfl rfl ?_
        refine v_iald (j := j) d_Md_result_49 (hS.a (t := 32) (n := 16) (by decide) rfl) ex (by omega) (by decide) rfl ?_
        refine v_goto (tgt := 59) d_Md_result_50 (by decide) ?_
        refine v_iret d_Md_result_59 rfl ?_
        exact ⟨rfl, rfl, _, rfl, Or.inr ⟨j, ex, hjq, Or.inr (Or.inl ⟨c4, rfl, rfl⟩)⟩⟩
    · refine v_aload_n 0 d_Md_result_34 rfl rfl rfl ?_
      refine v_iconst (v := 2) d_Md_result_35 (by decide) rfl ?_
      refine v_cVi (as := [.int 2]) d_Md_result_36 cs_Md_107 (c_Md_raise hC hS (d := d - 1) 2 (by omega)) (hS.o (by decide) rfl) (by decide) rfl rfl rfl (by decide) (by omega) rfl (fun xr Ir hr => ?_)
      refine v_iret d_Md_result_39 rfl ?_
      have hno : ¬ (y = 0 ∨ y = 1) := fun h9 => by have h8 := bI_f c3; rw [inB_01.mpr h9] at h8; cases h8
      exact ⟨rfl, rfl, _, rfl, Or.inr ⟨j, ex, hjq, Or.inl ⟨fun h9 => hno (Or.inl h9), fun h9 => hno (Or.inr h9), hr.1, hr.2⟩⟩⟩
  · refine v_aload_n 0 d_Md_result_19 rfl rfl rfl ?_
    refine v_iconst (v := 1) d_Md_result_20 (by decide) rfl ?_
    refine v_cVi (as := [.int 1]) d_Md_result_21 cs_Md_107 (c_Md_raise hC hS (d := d - 1) 1 (by omega)) (hS.o (by decide) rfl) (by decide) rfl rfl rfl (by decide) (by omega) rfl (fun xr Ir hr => ?_)
    refine v_iret d_Md_result_24 rfl ?_
    exact ⟨rfl, rfl, _, rfl, Or.inl ⟨inB_ixF (q := q) (by omega) (by have h9 := bI_f c2; rw [ez1, hq] at h9; exact h9), hr.1, hr.2⟩⟩
set_option maxHeartbeats 4000000 in
set_option maxRecDepth 100000 in
theorem c_Md_result {C : CT} {l : Launch} {S : ShT} {I0 I : DI} {J : DJ} {d : Nat} (hC : OKC C l) (hS : SHP S) (hI0 : I = u2 I0 124 0 0) {q : Nat} {x y : Int32} (hq : I 124 33 = nI q) (hq16 : q ≤ 16) (hd : 1 ≤ d) : Sp C l k_Md_result y_Md_result (d, 0, 0) [.ref 124, .int x, .int y] S I0 J (PI S J (RsM I q x y)) := by
  refine Sp.of hC cd_Md_result (Nat.le_of_ble_eq_true rfl) ?_
  show V C l k_Md_result (d, 0, 0) _ 0 [(0, .ref 124), (1, .int x), (2, .int y)] [] S I0 J (0, 0)
  refine v_aload_n 0 d_Md_result_0 rfl rfl rfl ?_
  refine v_iconst (v := 0) d_Md_result_1 (by decide) rfl ?_
  refine v_puti d_Md_result_2 fl_Md_85 (hS.o (by decide) rfl) rfl rfl rfl ?_
  rw [← hI0]
  exact b_Md_result hC hS hq hq16 hd
def ixM (I : DI) (x : Int32) : Bool := isNd x && !decide (I 133 x.toNatClampNeg = 0)
def WoM (I : DI) (x : Int32) (r : Int32) (I' : DI) : Prop := (ixM I x = false ∧ r = 0 ∧ I' = u2 I 124 0 1) ∨ (∃ j, x = nI j ∧ j < 16 ∧ ¬ I 133 j = 0 ∧ r = I 134 j ∧ I' = I)
def EvM (I : DI) (m : Nat) (x : Int32) (r : Int32) (I' : DI) : Prop := ((x < 0 ∨ nI m ≤ x) ∧ r = 0 ∧ I' = u2 I 124 0 1) ∨ (∃ j, x = nI j ∧ j < m ∧ r = 16 * I 131 j + I 132 j ∧ I' = I)
set_option maxHeartbeats 4000000 in
set_option maxRecDepth 100000 in
theorem b_Md_words {C : CT} {l : Launch} {S : ShT} {I : DI} {J : DJ} {d : Nat} (hC : OKC C l) (hS : SHP S) {x : Int32} (hd : 1 ≤ d) : V C l k_Md_words (d, 0, 0) (PI S J (WoM I x)) 5 [(0, .ref 124), (1, .int x)] [] S I J (0, 0) := by
  refine v_iload_n 1 d_Md_words_5 rfl rfl rfl ?_
  refine v_iconst (v := 0) d_Md_words_6 (by decide) rfl ?_
  refine v_bipush (v := 15) d_Md_words_7 (by decide) rfl ?_
  refine v_cSp (as := [.int x, .int 0, .int 15]) d_Md_words_9 cs_Md_88 (c_Md_in hC (d := d - 1) x 0 15 (by omega)) rfl rfl (by decide) (by omega) rfl ?_
  refine v_if_eq (tgt := 33) d_Md_words_12 (by decide) rfl (fun c1 => ?_) (fun c1 => ?_)
  · refine v_aload_n 0 d_Md_words_33 rfl rfl rfl ?_
    refine v_iconst (v := 1) d_Md_words_34 (by decide) rfl ?_
    refine v_cVi (as := [.int 1]) d_Md_words_35 cs_Md_107 (c_Md_raise hC hS (d := d - 1) 1 (by omega)) (hS.o (by decide) rfl) (by decide) rfl rfl rfl (by decide) (by omega) rfl (fun xr Ir hr => ?_)
    refine v_iret d_Md_words_38 rfl ?_
    exact ⟨rfl, rfl, _, rfl, Or.inl ⟨by unfold ixM; rw [show isNd x = false by rw [← inB_nd]; exact bI_f c1]; rfl, hr.1, hr.2⟩⟩
  · have hnd : isNd x = true := by rw [← inB_nd]; exact bI_t c1
    obtain ⟨j, hj, ex⟩ := isNd_j hnd
    refine v_aload_n 0 d_Md_words_15 rfl rfl rfl ?_
    refine v_getr (r := 133) d_Md_words_16 fl_Md_35 (hS.o (by decide) rfl) rfl (hS.r (by decide) rfl) rfl ?_
    refine v_iload_n 1 d_Md_words_19 rfl rfl rfl ?_
    refine v_zald (j := j) d_Md_words_20 (hS.a (t := 33) (n := 16) (by decide) rfl) ex (by omega) (by decide) rfl ?_
    refine v_if_eq (tgt := 33) d_Md_words_21 (by decide) rfl (fun c2 => ?_) (fun c2 => ?_)
    · refine v_aload_n 0 d_Md_words_33 rfl rfl rfl ?_
      refine v_iconst (v := 1) d_Md_words_34 (by decide) rfl ?_
      refine v_cVi (as := [.int 1]) d_Md_words_35 cs_Md_107 (c_Md_raise hC hS (d := d - 1) 1 (by omega)) (hS.o (by decide) rfl) (by decide) rfl rfl rfl (by decide) (by omega) rfl (fun xr Ir hr => ?_)
      refine v_iret d_Md_words_38 rfl ?_
      exact ⟨rfl, rfl, _, rfl, Or.inl ⟨by unfold ixM; rw [ex, nI_clamp (by omega), decide_eq_true c2, Bool.not_true, Bool.and_false], hr.1, hr.2⟩⟩
    · refine v_aload_n 0 d_Md_words_24 rfl rfl rfl ?_
      refine v_getr (r := 134) d_Md_words_25 fl_Md_38 (hS.o (by decide) rfl) rfl (hS.r (by decide) rfl) rfl ?_
      refine v_iload_n 1 d_Md_words_28 rfl rfl rfl ?_
      refine v_iald (j := j) d_Md_words_29 (hS.a (t := 32) (n := 16) (by decide) rfl) ex (by omega) (by decide) rfl ?_
      refine v_goto (tgt := 38) d_Md_words_30 (by decide) ?_
      refine v_iret d_Md_words_38 rfl ?_
      exact ⟨rfl, rfl, _, rfl, Or.inr ⟨j, ex, hj, c2, rfl, rfl⟩⟩
set_option maxHeartbeats 4000000 in
set_option maxRecDepth 100000 in
theorem c_Md_words {C : CT} {l : Launch} {S : ShT} {I0 I : DI} {J : DJ} {d : Nat} (hC : OKC C l) (hS : SHP S) (hI0 : I = u2 I0 124 0 0) {x : Int32} (hd : 1 ≤ d) : Sp C l k_Md_words y_Md_words (d, 0, 0) [.ref 124, .int x] S I0 J (PI S J (WoM I x)) := by
  refine Sp.of hC cd_Md_words (Nat.le_of_ble_eq_true rfl) ?_
  show V C l k_Md_words (d, 0, 0) _ 0 [(0, .ref 124), (1, .int x)] [] S I0 J (0, 0)
  refine v_aload_n 0 d_Md_words_0 rfl rfl rfl ?_
  refine v_iconst (v := 0) d_Md_words_1 (by decide) rfl ?_
  refine v_puti d_Md_words_2 fl_Md_85 (hS.o (by decide) rfl) rfl rfl rfl ?_
  rw [← hI0]
  exact b_Md_words hC hS  hd
set_option maxHeartbeats 4000000 in
set_option maxRecDepth 100000 in
theorem b_Md_event {C : CT} {l : Launch} {S : ShT} {I : DI} {J : DJ} {d : Nat} (hC : OKC C l) (hS : SHP S) {m : Nat} {x : Int32} (hm : m ≤ 8) (h2 : I 124 9 = nI m) (hd : 1 ≤ d) : V C l k_Md_event (d, 0, 0) (PI S J (EvM I m x)) 5 [(0, .ref 124), (1, .int x)] [] S I J (0, 0) := by
  refine v_iload_n 1 d_Md_event_5 rfl rfl rfl ?_
  refine v_iconst (v := 0) d_Md_event_6 (by decide) rfl ?_
  refine v_aload_n 0 d_Md_event_7 rfl rfl rfl ?_
  refine v_geti d_Md_event_8 fl_Md_92 (hS.o (by decide) rfl) rfl rfl ?_
  refine v_iconst (v := 1) d_Md_event_11 (by decide) rfl ?_
  refine v_isub d_Md_event_12 rfl ?_
  refine v_nmi (fun z1 ez1 => ?_)
  refine v_cSp (as := [.int x, .int 0, .int z1]) d_Md_event_13 cs_Md_88 (c_Md_in hC (d := d - 1) x 0 z1 (by omega)) rfl rfl (by decide) (by omega) rfl ?_
  refine v_if_eq (tgt := 38) d_Md_event_16 (by decide) rfl (fun c2 => ?_) (fun c2 => ?_)
  · refine v_aload_n 0 d_Md_event_38 rfl rfl rfl ?_
    refine v_iconst (v := 1) d_Md_event_39 (by decide) rfl ?_
    refine v_cVi (as := [.int 1]) d_Md_event_40 cs_Md_107 (c_Md_raise hC hS (d := d - 1) 1 (by omega)) (hS.o (by decide) rfl) (by decide) rfl rfl rfl (by decide) (by omega) rfl (fun xr Ir hr => ?_)
    refine v_iret d_Md_event_43 rfl ?_
    exact ⟨rfl, rfl, _, rfl, Or.inl ⟨inB_ixF (q := m) (by omega) (by have h9 := bI_f c2; rw [ez1, h2] at h9; exact h9), hr.1, hr.2⟩⟩
  · obtain ⟨j, ex, hjm⟩ := inB_ixT (q := m) (by omega) (by have h9 := bI_t c2; rw [ez1, h2] at h9; exact h9)
    refine v_bipush (v := 16) d_Md_event_19 (by decide) rfl ?_
    refine v_aload_n 0 d_Md_event_21 rfl rfl rfl ?_
    refine v_getr (r := 131) d_Md_event_22 fl_Md_29 (hS.o (by decide) rfl) rfl (hS.r (by decide) rfl) rfl ?_
    refine v_iload_n 1 d_Md_event_25 rfl rfl rfl ?_
    refine v_iald (j := j) d_Md_event_26 (hS.a (t := 32) (n := 8) (by decide) rfl) ex (by omega) (by decide) rfl ?_
    refine v_imul d_Md_event_27 rfl ?_
    refine v_nmi (fun z3 ez3 => ?_)
    refine v_aload_n 0 d_Md_event_28 rfl rfl rfl ?_
    refine v_getr (r := 132) d_Md_event_29 fl_Md_32 (hS.o (by decide) rfl) rfl (hS.r (by decide) rfl) rfl ?_
    refine v_iload_n 1 d_Md_event_32 rfl rfl rfl ?_
    refine v_iald (j := j) d_Md_event_33 (hS.a (t := 32) (n := 8) (by decide) rfl) ex (by omega) (by decide) rfl ?_
    refine v_iadd d_Md_event_34 rfl ?_
    refine v_nmi (fun z4 ez4 => ?_)
    refine v_goto (tgt := 43) d_Md_event_35 (by decide) ?_
    refine v_iret d_Md_event_43 rfl ?_
    exact ⟨rfl, rfl, _, rfl, Or.inr ⟨j, ex, hjm, by subst_vars; rfl, rfl⟩⟩
set_option maxHeartbeats 4000000 in
set_option maxRecDepth 100000 in
theorem c_Md_event {C : CT} {l : Launch} {S : ShT} {I0 I : DI} {J : DJ} {d : Nat} (hC : OKC C l) (hS : SHP S) (hI0 : I = u2 I0 124 0 0) {m : Nat} {x : Int32} (hm : m ≤ 8) (h2 : I 124 9 = nI m) (hd : 1 ≤ d) : Sp C l k_Md_event y_Md_event (d, 0, 0) [.ref 124, .int x] S I0 J (PI S J (EvM I m x)) := by
  refine Sp.of hC cd_Md_event (Nat.le_of_ble_eq_true rfl) ?_
  show V C l k_Md_event (d, 0, 0) _ 0 [(0, .ref 124), (1, .int x)] [] S I0 J (0, 0)
  refine v_aload_n 0 d_Md_event_0 rfl rfl rfl ?_
  refine v_iconst (v := 0) d_Md_event_1 (by decide) rfl ?_
  refine v_puti d_Md_event_2 fl_Md_85 (hS.o (by decide) rfl) rfl rfl rfl ?_
  rw [← hI0]
  exact b_Md_event hC hS hm h2 hd
theorem cnt_s (p : Nat → Bool) (k : Nat) : cnt p (k + 1) = cnt p k + if p k then 1 else 0 := rfl
def cfM (I : DI) (x : Int32) (j : Nat) : Bool := if x = 0 then !decide (I 125 j = 0) else if x = 1 then decide (mst I j = 2) else !decide (I 133 j = 0)
def CnM (I : DI) (x : Int32) (r : Int32) (I' : DI) : Prop :=
  ((x = 0 ∨ x = 1 ∨ x = 2) ∧ r = nI (cnt (cfM I x) 16) ∧ I' = I) ∨ (x = 3 ∧ r = I 124 9 ∧ I' = I) ∨ (x = 4 ∧ r = (if I 124 10 = 0 then 0 else 1) ∧ I' = I) ∨ (x = 5 ∧ r = I 124 18 ∧ I' = I) ∨ (x = 6 ∧ r = I 124 11 ∧ I' = I) ∨ ((x.toInt < 0 ∨ 6 < x.toInt) ∧ r = 0 ∧ I' = u2 I 124 0 1)
set_option maxHeartbeats 4000000 in
set_option maxRecDepth 100000 in
theorem lp_Md_count {C : CT} {l : Launch} {S : ShT} {d : Nat} (hC : OKC C l) (hS : SHP S) (hd : 2 ≤ d) {I : DI} {J : DJ} {y : Int32} (hy : y = 0 ∨ y = 1 ∨ y = 2) : ∀ (n0 : Nat) (t : Nat) (x z : Int32), x = nI t → z = nI (cnt (cfM I y) t) → t ≤ 16 → 16 < t + n0 → V C l k_Md_count (d, 0, 0) (PI S J (CnM I y)) 54 [(3, .int x), (2, .int z), (0, .ref 124), (1, .int y)] [] S I J (0, 0) := by
  intro n0
  induction n0 with
  | zero =>
    intro t x z ex ez ht0 hf
    omega
  | succ n0 ih =>
    intro t x z ex ez ht0 hf
    refine v_iload_n 0 d_Md_count_54 rfl rfl rfl ?_
    refine v_bipush (v := 16) d_Md_count_55 (by decide) rfl ?_
    refine v_icmp_ge (tgt := 110) d_Md_count_57 (by decide) rfl (fun c1 => ?_) (fun c1 => ?_)
    · refine v_iload_n 1 d_Md_count_110 rfl rfl rfl ?_
      refine v_iret d_Md_count_111 rfl ?_
      have ht16 : 16 ≤ t := by rcases Nat.lt_or_ge (t) (16) with h9 | h9; exact absurd c1 (by rw [ex]; exact nI_ge (b := 16) h9 (by omega)); exact h9
      have : t = 16 := by omega
      subst this
      exact ⟨rfl, rfl, _, rfl, Or.inl ⟨hy, ez, rfl⟩⟩
    · have ht16 : t < 16 := by rcases Nat.lt_or_ge (t) (16) with h9 | h9; exact h9; exact absurd (by rw [ex]; exact nI_le (a := 16) h9 (by omega)) c1
      refine v_iload_n 3 d_Md_count_60 rfl rfl rfl ?_
      refine v_if_ne (tgt := 76) d_Md_count_61 (by decide) rfl (fun c2 => ?_) (fun c2 => ?_)
      · refine v_iload_n 3 d_Md_count_76 rfl rfl rfl ?_
        refine v_iconst (v := 1) d_Md_count_77 (by decide) rfl ?_
        refine v_icmp_ne (tgt := 92) d_Md_count_78 (by decide) rfl (fun c3 => ?_) (fun c3 => ?_)
        · refine v_aload_n 2 d_Md_count_92 rfl rfl rfl ?_
          refine v_getr (r := 133) d_Md_count_93 fl_Md_35 (hS.o (by decide) rfl) rfl (hS.r (by decide) rfl) rfl ?_
          refine v_iload_n 0 d_Md_count_96 rfl rfl rfl ?_
          refine v_zald (j := t) d_Md_count_97 (hS.a (t := 33) (n := 16) (by decide) rfl) ex (by omega) (by decide) rfl ?_
          refine v_if_eq (tgt := 104) d_Md_count_98 (by decide) rfl (fun c4 => ?_) (fun c4 => ?_)
          · obtain ⟨x5, ex5⟩ : ∃ y : Int32, y = x + 1 := ⟨_, rfl⟩
            have nx5 : x5 = nI (t + 1) := by rw [ex5, show x = nI t from ex]; exact nI_1 _
            refine v_iinc (n := 0) (v := x5) (L' := [(3, .int x5), (2, .int z), (0, .ref 124), (1, .int y)]) d_Md_count_104 rfl (by rw [ex5]; rfl) (by decide) rfl rfl ?_
            refine v_goto (tgt := 54) d_Md_count_107 (by decide) ?_
            have hcf : cfM I y t = false := by unfold cfM; rw [if_neg c2, if_neg c3, decide_eq_true c4]; rfl
            exact ih (t + 1) _ _ nx5 (by rw [cnt_s, hcf]; exact ez) (by omega) (by omega)
          · obtain ⟨x6, ex6⟩ : ∃ y : Int32, y = z + 1 := ⟨_, rfl⟩
            have nx6 : x6 = nI ((cnt (cfM I y) t) + 1) := by rw [ex6, show z = nI (cnt (cfM I y) t) from ez]; exact nI_1 _
            refine v_iinc (n := 1) (v := x6) (L' := [(2, .int x6), (3, .int x), (0, .ref 124), (1, .int y)]) d_Md_count_101 rfl (by rw [ex6]; rfl) (by decide) rfl rfl ?_
            obtain ⟨x7, ex7⟩ : ∃ y : Int32, y = x + 1 := ⟨_, rfl⟩
            have nx7 : x7 = nI (t + 1) := by rw [ex7, show x = nI t from ex]; exact nI_1 _
            refine v_iinc (n := 1) (v := x7) (L' := [(3, .int x7), (2, .int x6), (0, .ref 124), (1, .int y)]) d_Md_count_104 rfl (by rw [ex7]; rfl) (by decide) rfl rfl ?_
            refine v_goto (tgt := 54) d_Md_count_107 (by decide) ?_
            have hcf : cfM I y t = true := by unfold cfM; rw [if_neg c2, if_neg c3, decide_eq_false c4]; rfl
            exact ih (t + 1) _ _ nx7 (by rw [cnt_s, hcf]; exact nx6) (by omega) (by omega)
        · refine v_aload_n 2 d_Md_count_81 rfl rfl rfl ?_
          refine v_iload_n 0 d_Md_count_82 rfl rfl rfl ?_
          refine v_cVp (as := [.int x]) d_Md_count_83 cs_Md_119 (by rw [ex]; exact c_Md_isFile hC hS (d := d - 1) (nI t) (by omega)) (hS.o (by decide) rfl) (by decide) rfl rfl rfl (by decide) (by omega) rfl ?_
          rw [mdS_j ht16]
          refine v_if_eq (tgt := 104) d_Md_count_86 (by decide) rfl (fun c8 => ?_) (fun c8 => ?_)
          · obtain ⟨x9, ex9⟩ : ∃ y : Int32, y = x + 1 := ⟨_, rfl⟩
            have nx9 : x9 = nI (t + 1) := by rw [ex9, show x = nI t from ex]; exact nI_1 _
            refine v_iinc (n := 0) (v := x9) (L' := [(3, .int x9), (2, .int z), (0, .ref 124), (1, .int y)]) d_Md_count_104 rfl (by rw [ex9]; rfl) (by decide) rfl rfl ?_
            refine v_goto (tgt := 54) d_Md_count_107 (by decide) ?_
            have hcf : cfM I y t = false := by unfold cfM; rw [if_neg c2, if_pos c3]; exact bI_f c8
            exact ih (t + 1) _ _ nx9 (by rw [cnt_s, hcf]; exact ez) (by omega) (by omega)
          · refine v_goto (tgt := 101) d_Md_count_89 (by decide) ?_
            obtain ⟨x10, ex10⟩ : ∃ y : Int32, y = z + 1 := ⟨_, rfl⟩
            have nx10 : x10 = nI ((cnt (cfM I y) t) + 1) := by rw [ex10, show z = nI (cnt (cfM I y) t) from ez]; exact nI_1 _
            refine v_iinc (n := 1) (v := x10) (L' := [(2, .int x10), (3, .int x), (0, .ref 124), (1, .int y)]) d_Md_count_101 rfl (by rw [ex10]; rfl) (by decide) rfl rfl ?_
            obtain ⟨x11, ex11⟩ : ∃ y : Int32, y = x + 1 := ⟨_, rfl⟩
            have nx11 : x11 = nI (t + 1) := by rw [ex11, show x = nI t from ex]; exact nI_1 _
            refine v_iinc (n := 1) (v := x11) (L' := [(3, .int x11), (2, .int x10), (0, .ref 124), (1, .int y)]) d_Md_count_104 rfl (by rw [ex11]; rfl) (by decide) rfl rfl ?_
            refine v_goto (tgt := 54) d_Md_count_107 (by decide) ?_
            have hcf : cfM I y t = true := by unfold cfM; rw [if_neg c2, if_pos c3]; exact bI_t c8
            exact ih (t + 1) _ _ nx11 (by rw [cnt_s, hcf]; exact nx10) (by omega) (by omega)
      · refine v_aload_n 2 d_Md_count_64 rfl rfl rfl ?_
        refine v_getr (r := 125) d_Md_count_65 fl_Md_7 (hS.o (by decide) rfl) rfl (hS.r (by decide) rfl) rfl ?_
        refine v_iload_n 0 d_Md_count_68 rfl rfl rfl ?_
        refine v_zald (j := t) d_Md_count_69 (hS.a (t := 33) (n := 16) (by decide) rfl) ex (by omega) (by decide) rfl ?_
        refine v_if_eq (tgt := 104) d_Md_count_70 (by decide) rfl (fun c12 => ?_) (fun c12 => ?_)
        · obtain ⟨x13, ex13⟩ : ∃ y : Int32, y = x + 1 := ⟨_, rfl⟩
          have nx13 : x13 = nI (t + 1) := by rw [ex13, show x = nI t from ex]; exact nI_1 _
          refine v_iinc (n := 0) (v := x13) (L' := [(3, .int x13), (2, .int z), (0, .ref 124), (1, .int y)]) d_Md_count_104 rfl (by rw [ex13]; rfl) (by decide) rfl rfl ?_
          refine v_goto (tgt := 54) d_Md_count_107 (by decide) ?_
          have hcf : cfM I y t = false := by unfold cfM; rw [if_pos c2, decide_eq_true c12]; rfl
          exact ih (t + 1) _ _ nx13 (by rw [cnt_s, hcf]; exact ez) (by omega) (by omega)
        · refine v_goto (tgt := 101) d_Md_count_73 (by decide) ?_
          obtain ⟨x14, ex14⟩ : ∃ y : Int32, y = z + 1 := ⟨_, rfl⟩
          have nx14 : x14 = nI ((cnt (cfM I y) t) + 1) := by rw [ex14, show z = nI (cnt (cfM I y) t) from ez]; exact nI_1 _
          refine v_iinc (n := 1) (v := x14) (L' := [(2, .int x14), (3, .int x), (0, .ref 124), (1, .int y)]) d_Md_count_101 rfl (by rw [ex14]; rfl) (by decide) rfl rfl ?_
          obtain ⟨x15, ex15⟩ : ∃ y : Int32, y = x + 1 := ⟨_, rfl⟩
          have nx15 : x15 = nI (t + 1) := by rw [ex15, show x = nI t from ex]; exact nI_1 _
          refine v_iinc (n := 1) (v := x15) (L' := [(3, .int x15), (2, .int x14), (0, .ref 124), (1, .int y)]) d_Md_count_104 rfl (by rw [ex15]; rfl) (by decide) rfl rfl ?_
          refine v_goto (tgt := 54) d_Md_count_107 (by decide) ?_
          have hcf : cfM I y t = true := by unfold cfM; rw [if_pos c2, decide_eq_false c12]; rfl
          exact ih (t + 1) _ _ nx15 (by rw [cnt_s, hcf]; exact nx14) (by omega) (by omega)
set_option maxHeartbeats 4000000 in
set_option maxRecDepth 100000 in
theorem b_Md_count {C : CT} {l : Launch} {S : ShT} {I : DI} {J : DJ} {d : Nat} (hC : OKC C l) (hS : SHP S) {y : Int32} (hd : 2 ≤ d) : V C l k_Md_count (d, 0, 0) (PI S J (CnM I y)) 5 [(0, .ref 124), (1, .int y)] [] S I J (0, 0) := by
  refine v_iconst (v := 0) d_Md_count_5 (by decide) rfl ?_
  refine v_istore_n (L' := [(2, .int 0), (0, .ref 124), (1, .int y)]) d_Md_count_6 rfl (by decide) rfl rfl ?_
  refine v_iload_n 2 d_Md_count_7 rfl rfl rfl ?_
  rcases i_tab6 y with rfl | rfl | rfl | rfl | rfl | rfl | rfl | htab
  · refine v_tabI (x := 0) (tgt := 52) d_Md_count_8 (by decide) (by decide) rfl (by decide) ?_
    refine v_iconst (v := 0) d_Md_count_52 (by decide) rfl ?_
    refine v_istore_n (L' := [(3, .int 0), (2, .int 0), (0, .ref 124), (1, .int 0)]) d_Md_count_53 rfl (by decide) rfl rfl ?_
    exact lp_Md_count hC hS hd (by decide) 17 0 _ _ rfl rfl (by omega) (by omega)
  · refine v_tabI (x := 1) (tgt := 52) d_Md_count_8 (by decide) (by decide) rfl (by decide) ?_
    refine v_iconst (v := 0) d_Md_count_52 (by decide) rfl ?_
    refine v_istore_n (L' := [(3, .int 0), (2, .int 0), (0, .ref 124), (1, .int 1)]) d_Md_count_53 rfl (by decide) rfl rfl ?_
    exact lp_Md_count hC hS hd (by decide) 17 0 _ _ rfl rfl (by omega) (by omega)
  · refine v_tabI (x := 2) (tgt := 52) d_Md_count_8 (by decide) (by decide) rfl (by decide) ?_
    refine v_iconst (v := 0) d_Md_count_52 (by decide) rfl ?_
    refine v_istore_n (L' := [(3, .int 0), (2, .int 0), (0, .ref 124), (1, .int 2)]) d_Md_count_53 rfl (by decide) rfl rfl ?_
    exact lp_Md_count hC hS hd (by decide) 17 0 _ _ rfl rfl (by omega) (by omega)
  · refine v_tabI (x := 3) (tgt := 112) d_Md_count_8 (by decide) (by decide) rfl (by decide) ?_
    refine v_aload_n 1 d_Md_count_112 rfl rfl rfl ?_
    refine v_geti d_Md_count_113 fl_Md_92 (hS.o (by decide) rfl) rfl rfl ?_
    refine v_iret d_Md_count_116 rfl ?_
    exact ⟨rfl, rfl, _, rfl, Or.inr (Or.inl ⟨rfl, rfl, rfl⟩)⟩
  · refine v_tabI (x := 4) (tgt := 117) d_Md_count_8 (by decide) (by decide) rfl (by decide) ?_
    refine v_aload_n 1 d_Md_count_117 rfl rfl rfl ?_
    refine v_geti d_Md_count_118 fl_Md_95 (hS.o (by decide) rfl) rfl rfl ?_
    refine v_if_eq (tgt := 128) d_Md_count_121 (by decide) rfl (fun c1 => ?_) (fun c1 => ?_)
    · refine v_iconst (v := 0) d_Md_count_128 (by decide) rfl ?_
      refine v_iret d_Md_count_129 rfl ?_
      exact ⟨rfl, rfl, _, rfl, Or.inr (Or.inr (Or.inl ⟨rfl, (if_pos c1).symm, rfl⟩))⟩
    · refine v_iconst (v := 1) d_Md_count_124 (by decide) rfl ?_
      refine v_goto (tgt := 129) d_Md_count_125 (by decide) ?_
      refine v_iret d_Md_count_129 rfl ?_
      exact ⟨rfl, rfl, _, rfl, Or.inr (Or.inr (Or.inl ⟨rfl, (if_neg c1).symm, rfl⟩))⟩
  · refine v_tabI (x := 5) (tgt := 130) d_Md_count_8 (by decide) (by decide) rfl (by decide) ?_
    refine v_aload_n 1 d_Md_count_130 rfl rfl rfl ?_
    refine v_geti d_Md_count_131 fl_Md_138 (hS.o (by decide) rfl) rfl rfl ?_
    refine v_iret d_Md_count_134 rfl ?_
    exact ⟨rfl, rfl, _, rfl, Or.inr (Or.inr (Or.inr (Or.inl ⟨rfl, rfl, rfl⟩)))⟩
  · refine v_tabI (x := 6) (tgt := 135) d_Md_count_8 (by decide) (by decide) rfl (by decide) ?_
    refine v_aload_n 1 d_Md_count_135 rfl rfl rfl ?_
    refine v_geti d_Md_count_136 fl_Md_132 (hS.o (by decide) rfl) rfl rfl ?_
    refine v_iret d_Md_count_139 rfl ?_
    exact ⟨rfl, rfl, _, rfl, Or.inr (Or.inr (Or.inr (Or.inr (Or.inl ⟨rfl, rfl, rfl⟩))))⟩
  · refine v_tabO (tgt := 140) d_Md_count_8 htab (by decide) ?_
    refine v_aload_n 1 d_Md_count_140 rfl rfl rfl ?_
    refine v_iconst (v := 1) d_Md_count_141 (by decide) rfl ?_
    refine v_cVi (as := [.int 1]) d_Md_count_142 cs_Md_107 (c_Md_raise hC hS (d := d - 1) 1 (by omega)) (hS.o (by decide) rfl) (by decide) rfl rfl rfl (by decide) (by omega) rfl (fun xr Ir hr => ?_)
    refine v_iret d_Md_count_145 rfl ?_
    exact ⟨rfl, rfl, _, rfl, Or.inr (Or.inr (Or.inr (Or.inr (Or.inr ⟨htab, hr.1, hr.2⟩))))⟩
set_option maxHeartbeats 4000000 in
set_option maxRecDepth 100000 in
theorem c_Md_count {C : CT} {l : Launch} {S : ShT} {I0 I : DI} {J : DJ} {d : Nat} (hC : OKC C l) (hS : SHP S) (hI0 : I = u2 I0 124 0 0) {y : Int32} (hd : 2 ≤ d) : Sp C l k_Md_count y_Md_count (d, 0, 0) [.ref 124, .int y] S I0 J (PI S J (CnM I y)) := by
  refine Sp.of hC cd_Md_count (Nat.le_of_ble_eq_true rfl) ?_
  show V C l k_Md_count (d, 0, 0) _ 0 [(0, .ref 124), (1, .int y)] [] S I0 J (0, 0)
  refine v_aload_n 0 d_Md_count_0 rfl rfl rfl ?_
  refine v_iconst (v := 0) d_Md_count_1 (by decide) rfl ?_
  refine v_puti d_Md_count_2 fl_Md_85 (hS.o (by decide) rfl) rfl rfl rfl ?_
  rw [← hI0]
  exact b_Md_count hC hS  hd
def byM (v : Int64) (i : Nat) : Int32 := (v >>> ((nI (8 * i)).toInt64 &&& 63)).toInt32 &&& 255
def arM (v : Int64) (i : Nat) : Bool := isCd (byM v i)
def wrM (I : DI) (j m : Nat) (v : Int64) (k : Nat) : Nat → DI
  | 0 => I
  | t + 1 => u2 (u2 (wrM I j m v k t) 128 (60 * j + (m + t)) (byM v (k - 1 - t))) 129 j (nI (m + t + 1))
theorem wrM_s (I : DI) (j m : Nat) (v : Int64) (k t : Nat) : wrM I j m v k (t + 1) = u2 (u2 (wrM I j m v k t) 128 (60 * j + (m + t)) (byM v (k - 1 - t))) 129 j (nI (m + t + 1)) := rfl
theorem wrM_l {I : DI} {j m : Nat} (h : I 129 j = nI m) (v : Int64) (k t : Nat) : wrM I j m v k t 129 j = nI (m + t) := by
  cases t with
  | zero => exact h
  | succ t => rw [wrM_s, u2_s]; rfl
theorem wrM_o (I : DI) {j : Nat} (m : Nat) (v : Int64) (k t : Nat) {b : Nat} (h1 : b ≠ 128) (h2 : b ≠ 129) : wrM I j m v k t b = I b := by
  induction t with
  | zero => rfl
  | succ t ih => rw [wrM_s, u2_o h2, u2_o h1, ih]
def WrM (I : DI) (a : Int32) (v : Int64) (n : Int32) (r : Int32) (I' : DI) : Prop :=
  (¬ mdS I a = 2 ∧ r = 0 ∧ I' = u2 I 124 0 1) ∨
  (∃ j m, a = nI j ∧ j < 16 ∧ mst I j = 2 ∧ I 129 j = nI m ∧ m ≤ 60 ∧ (
    ((∀ k, 1 ≤ k → k ≤ 8 → n = nI k → alF (arM v) 0 k = false) ∧ r = 0 ∧ I' = u2 I 124 0 2) ∨
    (∃ k, n = nI k ∧ 1 ≤ k ∧ k ≤ 8 ∧ alF (arM v) 0 k = true ∧ ((60 < m + k ∧ r = 0 ∧ I' = u2 I 124 0 3) ∨ (m + k ≤ 60 ∧ r = nI (m + k) ∧ TlM (wrM I j m v k k) (nI j) 2 I')))))
set_option maxHeartbeats 4000000 in
set_option maxRecDepth 100000 in
theorem lp2_Md_write {C : CT} {l : Launch} {S : ShT} {d : Nat} (hC : OKC C l) (hS : SHP S) (hd : 2 ≤ d) {I : DI} {J : DJ} {a n : Int32} {v : Int64} {j m k q : Nat} (hm : m ≤ 8) (h2 : I 124 9 = nI m) (ea : a = nI j) (hj : j < 16) (hj2 : mst I j = 2) (hlj : I 129 j = nI q) (hq6 : q ≤ 60) (en : n = nI k) (hk1 : 1 ≤ k) (hk8 : k ≤ 8) (hac : alF (arM v) 0 k = true) (hqk : q + k ≤ 60) : ∀ (n0 : Nat) (t : Nat) (x : Int32), x = nI (k - t) - 1 → t ≤ k → k < t + n0 → V C l k_Md_write (d, 0, 0) (PI S J (WrM I a v n)) 106 [(5, .int x), (0, .ref 124), (1, .int a), (2, .long v), (4, .int n)] [] S (wrM I j q v k t) J (0, 0) := by
  intro n0
  induction n0 with
  | zero =>
    intro t x ex ht0 hf
    omega
  | succ n0 ih =>
    intro t x ex ht0 hf
    refine v_iload 0 d_Md_write_106 rfl rfl ?_
    refine v_if_lt (tgt := 155) d_Md_write_108 (by decide) rfl (fun c1 => ?_) (fun c1 => ?_)
    · have htk : t = k := by rcases Nat.lt_or_ge t k with h9 | h9; exact absurd c1 (by rw [ex, show (1 : Int32) = nI 1 from rfl, pk_sub (by omega)]; exact nI_pos (by omega)); omega
      subst htk
      refine v_aload_n 1 d_Md_write_155 rfl rfl rfl ?_
      refine v_iconst (v := 2) d_Md_write_156 (by decide) rfl ?_
      refine v_iload_n 2 d_Md_write_157 rfl rfl rfl ?_
      refine v_cVu (as := [.int 2, .int a]) d_Md_write_158 cs_Md_115 (by rw [ea]; exact c_Md_tell hC hS (d := d - 1) hm (by rw [wrM_o _ _ _ _ _ (by decide) (by decide)]; exact h2) 2 (nI j) (by omega)) (hS.o (by decide) rfl) (by decide) rfl rfl rfl (by decide) (by omega) rfl (fun I2 ht => ?_)
      refine v_aload_n 1 d_Md_write_161 rfl rfl rfl ?_
      refine v_getr (r := 129) d_Md_write_162 fl_Md_23 (hS.o (by decide) rfl) rfl (hS.r (by decide) rfl) rfl ?_
      refine v_iload_n 2 d_Md_write_165 rfl rfl rfl ?_
      refine v_iald (j := j) d_Md_write_166 (hS.a (t := 32) (n := 16) (by decide) rfl) ea (by omega) (by decide) rfl ?_
      refine v_iret d_Md_write_167 rfl ?_
      obtain ⟨m1, m2, g1, g2, g3, g4, g5, g6, g7⟩ := id ht
      refine ⟨rfl, rfl, _, rfl, Or.inr ⟨j, q, ea, hj, hj2, hlj, hq6, Or.inr ⟨t, en, hk1, hk8, hac, Or.inr ⟨hqk, ?_, ht⟩⟩⟩⟩
      rw [g7 129 (by decide) (by decide) (by decide)]
      exact wrM_l hlj v t t
    · have htk : t < k := by rcases Nat.lt_or_ge t k with h9 | h9; exact h9; exact absurd (show x < 0 by rw [ex, show k - t = 0 by omega]; decide) c1
      have exk : x = nI (k - 1 - t) := by rw [ex, show (1 : Int32) = nI 1 from rfl, pk_sub (by omega), show k - t - 1 = k - 1 - t by omega]
      have hl9 := wrM_l hlj v k t
      refine v_aload_n 1 d_Md_write_111 rfl rfl rfl ?_
      refine v_getr (r := 128) d_Md_write_112 fl_Md_20 (hS.o (by decide) rfl) rfl (hS.r (by decide) rfl) rfl ?_
      refine v_bipush (v := 60) d_Md_write_115 (by decide) rfl ?_
      refine v_iload_n 2 d_Md_write_117 rfl rfl rfl ?_
      refine v_imul d_Md_write_118 rfl ?_
      refine v_nmi (fun z2 ez2 => ?_)
      have nz2 : z2 = nI (60 * j) := by rw [ez2, show 60 = nI 60 from rfl, show a = nI j from ea]; exact pk_mul _ _
      refine v_aload_n 1 d_Md_write_119 rfl rfl rfl ?_
      refine v_getr (r := 129) d_Md_write_120 fl_Md_23 (hS.o (by decide) rfl) rfl (hS.r (by decide) rfl) rfl ?_
      refine v_iload_n 2 d_Md_write_123 rfl rfl rfl ?_
      refine v_iald (j := j) d_Md_write_124 (hS.a (t := 32) (n := 16) (by decide) rfl) ea (by omega) (by decide) rfl ?_
      refine v_iadd d_Md_write_125 rfl ?_
      refine v_nmi (fun z3 ez3 => ?_)
      have nz3 : z3 = nI ((60 * j) + (q + t)) := by rw [ez3, show z2 = nI (60 * j) from nz2, show (wrM I j q v k t) 129 j = nI (q + t) from hl9]; exact nI_add _ _
      refine v_lload_n 3 d_Md_write_126 rfl rfl rfl ?_
      refine v_bipush (v := 8) d_Md_write_127 (by decide) rfl ?_
      refine v_iload 0 d_Md_write_129 rfl rfl ?_
      refine v_imul d_Md_write_131 rfl ?_
      refine v_nmi (fun z4 ez4 => ?_)
      refine v_lshr d_Md_write_132 rfl rfl ?_
      refine v_nml (fun z5 ez5 => ?_)
      refine v_l2i d_Md_write_133 rfl rfl ?_
      refine v_nmi (fun z6 ez6 => ?_)
      refine v_sipush (v := 255) d_Md_write_134 (by decide) rfl ?_
      refine v_iand d_Md_write_137 rfl ?_
      refine v_nmi (fun z7 ez7 => ?_)
      refine v_iast (j := ((60 * j) + (q + t))) d_Md_write_138 (hS.a (t := 32) (n := 960) (by decide) rfl) nz3 (by omega) (by decide) rfl ?_
      generalize hI8 : u2 (wrM I j q v k t) 128 ((60 * j) + (q + t)) z7 = I8
      have g9 : I8 129 j = nI (q + t) := by rw [← hI8, u2_o (by decide)]; exact hl9
      refine v_aload_n 1 d_Md_write_139 rfl rfl rfl ?_
      refine v_getr (r := 129) d_Md_write_140 fl_Md_23 (hS.o (by decide) rfl) rfl (hS.r (by decide) rfl) rfl ?_
      refine v_iload_n 2 d_Md_write_143 rfl rfl rfl ?_
      refine v_dup2 d_Md_write_144 rfl rfl rfl ?_
      refine v_iald (j := j) d_Md_write_145 (hS.a (t := 32) (n := 16) (by decide) rfl) ea (by omega) (by decide) rfl ?_
      refine v_iconst (v := 1) d_Md_write_146 (by decide) rfl ?_
      refine v_iadd d_Md_write_147 rfl ?_
      refine v_nmi (fun z9 ez9 => ?_)
      have nz9 : z9 = nI ((q + t) + 1) := by rw [ez9, show I8 129 j = nI (q + t) from g9, show 1 = nI 1 from rfl]; exact nI_add _ _
      refine v_iast (j := j) d_Md_write_148 (hS.a (t := 32) (n := 16) (by decide) rfl) ea (by omega) (by decide) rfl ?_
      generalize hI10 : u2 I8 129 j z9 = I10
      obtain ⟨x11, ex11⟩ : ∃ y : Int32, y = x + (-1) := ⟨_, rfl⟩
      refine v_iinc (n := 0) (v := x11) (L' := [(5, .int x11), (0, .ref 124), (1, .int a), (2, .long v), (4, .int n)]) d_Md_write_149 rfl (by rw [ex11]; rfl) (by decide) rfl rfl ?_
      refine v_goto (tgt := 106) d_Md_write_152 (by decide) ?_
      have hby : z7 = byM v (k - 1 - t) := by rw [ez7, ez6, ez5, ez4, exk]; unfold byM; rw [show (8 : Int32) * nI (k - 1 - t) = nI (8 * (k - 1 - t)) from pk_mul 8 _]
      have hst : I10 = wrM I j q v k (t + 1) := by rw [wrM_s, ← hI10, ← hI8, nz9, hby]
      rw [hst]
      exact ih (t + 1) _ (by rw [ex11, exk]; exact i_m1 htk) (by omega) (by omega)
set_option maxHeartbeats 4000000 in
set_option maxRecDepth 100000 in
theorem lp1_Md_write {C : CT} {l : Launch} {S : ShT} {d : Nat} (hC : OKC C l) (hS : SHP S) (hd : 2 ≤ d) {I : DI} {J : DJ} {a n : Int32} {v : Int64} {j m k q : Nat} (hm : m ≤ 8) (h2 : I 124 9 = nI m) (ea : a = nI j) (hj : j < 16) (hj2 : mst I j = 2) (hlj : I 129 j = nI q) (hq6 : q ≤ 60) (en : n = nI k) (hk1 : 1 ≤ k) (hk8 : k ≤ 8) : ∀ (n0 : Nat) (i : Nat) (x : Int32), x = nI i → i ≤ k → k < i + n0 → alF (arM v) 0 k = alF (arM v) i (k - i) → V C l k_Md_write (d, 0, 0) (PI S J (WrM I a v n)) 39 [(5, .int x), (0, .ref 124), (1, .int a), (2, .long v), (4, .int n)] [] S I J (0, 0) := by
  intro n0
  induction n0 with
  | zero =>
    intro i x ex hi0 hf hr0
    omega
  | succ n0 ih =>
    intro i x ex hi0 hf hr0
    refine v_iload 0 d_Md_write_39 rfl rfl ?_
    refine v_iload 4 d_Md_write_41 rfl rfl ?_
    refine v_icmp_ge (tgt := 80) d_Md_write_43 (by decide) rfl (fun c1 => ?_) (fun c1 => ?_)
    · have hik : i = k := by rcases Nat.lt_or_ge i k with h9 | h9; exact absurd c1 (by rw [ex, en]; exact nI_ge h9 (by omega)); omega
      rw [hik, Nat.sub_self] at hr0
      have hac : alF (arM v) 0 k = true := hr0
      refine v_aload_n 1 d_Md_write_80 rfl rfl rfl ?_
      refine v_getr (r := 129) d_Md_write_81 fl_Md_23 (hS.o (by decide) rfl) rfl (hS.r (by decide) rfl) rfl ?_
      refine v_iload_n 2 d_Md_write_84 rfl rfl rfl ?_
      refine v_iald (j := j) d_Md_write_85 (hS.a (t := 32) (n := 16) (by decide) rfl) ea (by omega) (by decide) rfl ?_
      refine v_iload 4 d_Md_write_86 rfl rfl ?_
      refine v_iadd d_Md_write_88 rfl ?_
      refine v_nmi (fun z2 ez2 => ?_)
      have nz2 : z2 = nI (q + k) := by rw [ez2, show I 129 j = nI q from hlj, show n = nI k from en]; exact nI_add _ _
      refine v_bipush (v := 60) d_Md_write_89 (by decide) rfl ?_
      refine v_icmp_le (tgt := 100) d_Md_write_91 (by decide) rfl (fun c3 => ?_) (fun c3 => ?_)
      · refine v_iload 4 d_Md_write_100 rfl rfl ?_
        refine v_iconst (v := 1) d_Md_write_102 (by decide) rfl ?_
        refine v_isub d_Md_write_103 rfl ?_
        refine v_nmi (fun z4 ez4 => ?_)
        have nz4 : z4 = nI (k - 1) := by rw [ez4, show n = nI k from en, show 1 = nI 1 from rfl]; exact pk_sub (by omega)
        refine v_istore (L' := [(5, .int z4), (0, .ref 124), (1, .int a), (2, .long v), (4, .int n)]) d_Md_write_104 (by decide) rfl rfl ?_
        have hqk : q + k ≤ 60 := by rcases Nat.lt_or_ge 60 (q + k) with h9 | h9; exact absurd c3 (by rw [nz2]; exact nI_ge (a := 60) h9 (by omega)); exact h9
        exact lp2_Md_write hC hS hd hm h2 ea hj hj2 hlj hq6 en hk1 hk8 hac hqk (k + 1) 0 _ (by rw [nz4, Nat.sub_zero]; exact (pk_sub (b := 1) hk1).symm) (by omega) (by omega)
      · refine v_aload_n 1 d_Md_write_94 rfl rfl rfl ?_
        refine v_iconst (v := 3) d_Md_write_95 (by decide) rfl ?_
        refine v_cVi (as := [.int 3]) d_Md_write_96 cs_Md_107 (c_Md_raise hC hS (d := d - 1) 3 (by omega)) (hS.o (by decide) rfl) (by decide) rfl rfl rfl (by decide) (by omega) rfl (fun xr Ir hr => ?_)
        refine v_iret d_Md_write_99 rfl ?_
        exact ⟨rfl, rfl, _, rfl, Or.inr ⟨j, q, ea, hj, hj2, hlj, hq6, Or.inr ⟨k, en, hk1, hk8, hac, Or.inl ⟨by rcases Nat.lt_or_ge 60 (q + k) with h9 | h9; exact h9; exact absurd (by rw [nz2]; exact nI_le (b := 60) h9 (by decide)) c3, hr.1, hr.2⟩⟩⟩⟩
    · have hik : i < k := by rcases Nat.lt_or_ge i k with h9 | h9; exact h9; exact absurd (by rw [ex, en]; exact nI_le h9 (by omega)) c1
      refine v_lload_n 3 d_Md_write_46 rfl rfl rfl ?_
      refine v_bipush (v := 8) d_Md_write_47 (by decide) rfl ?_
      refine v_iload 0 d_Md_write_49 rfl rfl ?_
      refine v_imul d_Md_write_51 rfl ?_
      refine v_nmi (fun z5 ez5 => ?_)
      have nz5 : z5 = nI (8 * i) := by rw [ez5, show 8 = nI 8 from rfl, show x = nI i from ex]; exact pk_mul _ _
      refine v_lshr d_Md_write_52 rfl rfl ?_
      refine v_nml (fun z6 ez6 => ?_)
      refine v_l2i d_Md_write_53 rfl rfl ?_
      refine v_nmi (fun z7 ez7 => ?_)
      refine v_sipush (v := 255) d_Md_write_54 (by decide) rfl ?_
      refine v_iand d_Md_write_57 rfl ?_
      refine v_nmi (fun z8 ez8 => ?_)
      refine v_bipush (v := 32) d_Md_write_58 (by decide) rfl ?_
      refine v_bipush (v := 126) d_Md_write_60 (by decide) rfl ?_
      refine v_cSp (as := [.int z8, .int 32, .int 126]) d_Md_write_62 cs_Md_88 (c_Md_in hC (d := d - 1) z8 32 126 (by omega)) rfl rfl (by decide) (by omega) rfl ?_
      refine v_if_ne (tgt := 74) d_Md_write_65 (by decide) rfl (fun c9 => ?_) (fun c9 => ?_)
      · obtain ⟨x10, ex10⟩ : ∃ y : Int32, y = x + 1 := ⟨_, rfl⟩
        have nx10 : x10 = nI (i + 1) := by rw [ex10, show x = nI i from ex]; exact nI_1 _
        refine v_iinc (n := 0) (v := x10) (L' := [(5, .int x10), (0, .ref 124), (1, .int a), (2, .long v), (4, .int n)]) d_Md_write_74 rfl (by rw [ex10]; rfl) (by decide) rfl rfl ?_
        refine v_goto (tgt := 39) d_Md_write_77 (by decide) ?_
        have har : arM v i = true := bI_t (by subst_vars; exact c9)
        exact ih (i + 1) _ nx10 (by omega) (by omega) (by rw [hr0, show k - i = (k - (i + 1)) + 1 by omega, alF_s, har, Bool.true_and])
      · refine v_aload_n 1 d_Md_write_68 rfl rfl rfl ?_
        refine v_iconst (v := 2) d_Md_write_69 (by decide) rfl ?_
        refine v_cVi (as := [.int 2]) d_Md_write_70 cs_Md_107 (c_Md_raise hC hS (d := d - 1) 2 (by omega)) (hS.o (by decide) rfl) (by decide) rfl rfl rfl (by decide) (by omega) rfl (fun xr Ir hr => ?_)
        refine v_iret d_Md_write_73 rfl ?_
        rw [show k - i = (k - (i + 1)) + 1 by omega, alF_s, show arM v i = false from bI_f (by subst_vars; exact c9), Bool.false_and] at hr0
        exact ⟨rfl, rfl, _, rfl, Or.inr ⟨j, q, ea, hj, hj2, hlj, hq6, Or.inl ⟨fun k9 _ _ e9 => by rw [en] at e9; rw [← nI_inj (by omega) (by omega) e9]; exact hr0, hr.1, hr.2⟩⟩⟩
set_option maxHeartbeats 4000000 in
set_option maxRecDepth 100000 in
theorem b_Md_write {C : CT} {l : Launch} {S : ShT} {I : DI} {J : DJ} {d : Nat} (hC : OKC C l) (hS : SHP S) {m : Nat} {a n : Int32} {v : Int64} (hm : m ≤ 8) (h2 : I 124 9 = nI m) (hL : ∀ i, i < 16 → ∃ q, q ≤ 60 ∧ I 129 i = nI q) (hd : 2 ≤ d) : V C l k_Md_write (d, 0, 0) (PI S J (WrM I a v n)) 5 [(0, .ref 124), (1, .int a), (2, .long v), (4, .int n)] [] S I J (0, 0) := by
  refine v_aload_n 0 d_Md_write_5 rfl rfl rfl ?_
  refine v_iload_n 1 d_Md_write_6 rfl rfl rfl ?_
  refine v_cVp (as := [.int a]) d_Md_write_7 cs_Md_119 (c_Md_isFile hC hS (d := d - 1) a (by omega)) (hS.o (by decide) rfl) (by decide) rfl rfl rfl (by decide) (by omega) rfl ?_
  refine v_if_ne (tgt := 19) d_Md_write_10 (by decide) rfl (fun c1 => ?_) (fun c1 => ?_)
  · obtain ⟨j, hj, ea, hj2⟩ := mdS_ex (bd_t c1) (by decide)
    obtain ⟨q, hq6, hlj⟩ := hL j hj
    refine v_iload 3 d_Md_write_19 rfl rfl ?_
    refine v_iconst (v := 1) d_Md_write_21 (by decide) rfl ?_
    refine v_bipush (v := 8) d_Md_write_22 (by decide) rfl ?_
    refine v_cSp (as := [.int n, .int 1, .int 8]) d_Md_write_24 cs_Md_88 (c_Md_in hC (d := d - 1) n 1 8 (by omega)) rfl rfl (by decide) (by omega) rfl ?_
    refine v_if_ne (tgt := 36) d_Md_write_27 (by decide) rfl (fun c2 => ?_) (fun c2 => ?_)
    · refine v_iconst (v := 0) d_Md_write_36 (by decide) rfl ?_
      refine v_istore (L' := [(5, .int 0), (0, .ref 124), (1, .int a), (2, .long v), (4, .int n)]) d_Md_write_37 (by decide) rfl rfl ?_
      have hin := bI_t c2
      simp only [inB, Bool.and_eq_true, Bool.not_eq_true', decide_eq_false_iff_not] at hin
      obtain ⟨k, hk1, hk8, en⟩ := i_1to (m := 8) hin.1 hin.2 (by omega)
      exact lp1_Md_write hC hS hd hm h2 ea hj hj2 hlj hq6 en hk1 hk8 (k + 1) 0 _ rfl (by omega) (by omega) rfl
    · refine v_aload_n 0 d_Md_write_30 rfl rfl rfl ?_
      refine v_iconst (v := 2) d_Md_write_31 (by decide) rfl ?_
      refine v_cVi (as := [.int 2]) d_Md_write_32 cs_Md_107 (c_Md_raise hC hS (d := d - 1) 2 (by omega)) (hS.o (by decide) rfl) (by decide) rfl rfl rfl (by decide) (by omega) rfl (fun xr Ir hr => ?_)
      refine v_iret d_Md_write_35 rfl ?_
      have hin := bI_f c2
      simp only [inB, Bool.and_eq_false_iff, Bool.not_eq_false', decide_eq_true_eq] at hin
      exact ⟨rfl, rfl, _, rfl, Or.inr ⟨j, q, ea, hj, hj2, hlj, hq6, Or.inl ⟨fun k9 h8 h7 e9 => by rw [e9] at hin; rcases hin with h9 | h9; exact absurd h9 (Int32.not_lt.mpr (nI_le (a := 1) h8 (by omega))); exact absurd h9 (Int32.not_lt.mpr (nI_le (b := 8) h7 (by decide))), hr.1, hr.2⟩⟩⟩
  · refine v_aload_n 0 d_Md_write_13 rfl rfl rfl ?_
    refine v_iconst (v := 1) d_Md_write_14 (by decide) rfl ?_
    refine v_cVi (as := [.int 1]) d_Md_write_15 cs_Md_107 (c_Md_raise hC hS (d := d - 1) 1 (by omega)) (hS.o (by decide) rfl) (by decide) rfl rfl rfl (by decide) (by omega) rfl (fun xr Ir hr => ?_)
    refine v_iret d_Md_write_18 rfl ?_
    exact ⟨rfl, rfl, _, rfl, Or.inl ⟨bd_f c1, hr.1, hr.2⟩⟩
set_option maxHeartbeats 4000000 in
set_option maxRecDepth 100000 in
theorem c_Md_write {C : CT} {l : Launch} {S : ShT} {I0 I : DI} {J : DJ} {d : Nat} (hC : OKC C l) (hS : SHP S) (hI0 : I = u2 I0 124 0 0) {m : Nat} {a n : Int32} {v : Int64} (hm : m ≤ 8) (h2 : I 124 9 = nI m) (hL : ∀ i, i < 16 → ∃ q, q ≤ 60 ∧ I 129 i = nI q) (hd : 2 ≤ d) : Sp C l k_Md_write y_Md_write (d, 0, 0) [.ref 124, .int a, .long v, .int n] S I0 J (PI S J (WrM I a v n)) := by
  refine Sp.of hC cd_Md_write (Nat.le_of_ble_eq_true rfl) ?_
  show V C l k_Md_write (d, 0, 0) _ 0 [(0, .ref 124), (1, .int a), (2, .long v), (4, .int n)] [] S I0 J (0, 0)
  refine v_aload_n 0 d_Md_write_0 rfl rfl rfl ?_
  refine v_iconst (v := 0) d_Md_write_1 (by decide) rfl ?_
  refine v_puti d_Md_write_2 fl_Md_85 (hS.o (by decide) rfl) rfl rfl rfl ?_
  rw [← hI0]
  exact b_Md_write hC hS hm h2 hL hd
