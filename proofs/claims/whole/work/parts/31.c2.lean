def ixH (I : DI) (x : Int32) : Bool := isNd x && decide (I 27 x.toNatClampNeg = 1)
theorem ixH_j {I : DI} {j : Nat} (h : j < 16) : ixH I (nI j) = decide (I 27 j = 1) := by
  unfold ixH
  rw [isNd_nI h, nI_clamp (by omega), Bool.true_and]
theorem ixH_n {I : DI} {x : Int32} (h : isNd x = false) : ixH I x = false := by
  unfold ixH
  rw [h, Bool.false_and]
set_option maxHeartbeats 4000000 in
set_option maxRecDepth 100000 in
theorem c_Tr_put {C : CT} {l : Launch} {S : ShT} {I : DI} {J : DJ} {d : Nat} (hC : OKC C l) (hS : SHP S) {j k : Nat} (hj : j < 16) (p : Bool) (hd : 0 ≤ d) : Sp C l k_Tr_put y_Tr_put (d, 0, 0) [.ref 1, .int (nI j), .int (nI k), .int (bI p)] S I J (PU S J (fun I' => I' = u2 (u2 (u2 I 2 j (if p then 1 else 2)) 3 j (nI k)) 21 j 0)) := by
  refine Sp.of hC cd_Tr_put (Nat.le_of_ble_eq_true rfl) ?_
  show V C l k_Tr_put (d, 0, 0) _ 0 [(0, .ref 1), (1, .int (nI j)), (2, .int (nI k)), (3, .int (bI p))] [] S I J (0, 0)
  refine v_aload_n 0 d_Tr_put_0 rfl rfl rfl ?_
  refine v_getr (r := 2) d_Tr_put_1 fl_Tr_9 (hS.o (by decide) rfl) rfl (hS.r (by decide) rfl) rfl ?_
  refine v_iload_n 1 d_Tr_put_4 rfl rfl rfl ?_
  refine v_iload_n 3 d_Tr_put_5 rfl rfl rfl ?_
  refine v_if_eq (tgt := 13) d_Tr_put_6 (by decide) rfl (fun c1 => ?_) (fun c1 => ?_)
  · refine v_iconst (v := 2) d_Tr_put_13 (by decide) rfl ?_
    refine v_iast (j := j) d_Tr_put_14 (hS.a (t := 32) (n := 16) (by decide) rfl) rfl (by omega) (by decide) rfl ?_
    generalize hI2 : u2 I 2 j 2 = I2
    refine v_aload_n 0 d_Tr_put_15 rfl rfl rfl ?_
    refine v_getr (r := 3) d_Tr_put_16 fl_Tr_15 (hS.o (by decide) rfl) rfl (hS.r (by decide) rfl) rfl ?_
    refine v_iload_n 1 d_Tr_put_19 rfl rfl rfl ?_
    refine v_iload_n 2 d_Tr_put_20 rfl rfl rfl ?_
    refine v_iast (j := j) d_Tr_put_21 (hS.a (t := 32) (n := 16) (by decide) rfl) rfl (by omega) (by decide) rfl ?_
    generalize hI3 : u2 I2 3 j (nI k) = I3
    refine v_aload_n 0 d_Tr_put_22 rfl rfl rfl ?_
    refine v_getr (r := 21) d_Tr_put_23 fl_Tr_23 (hS.o (by decide) rfl) rfl (hS.r (by decide) rfl) rfl ?_
    refine v_iload_n 1 d_Tr_put_26 rfl rfl rfl ?_
    refine v_iconst (v := 0) d_Tr_put_27 (by decide) rfl ?_
    refine v_iast (j := j) d_Tr_put_28 (hS.a (t := 32) (n := 16) (by decide) rfl) rfl (by omega) (by decide) rfl ?_
    generalize hI4 : u2 I3 21 j 0 = I4
    refine v_vret d_Tr_put_29 rfl ?_
    exact ⟨rfl, rfl, rfl, by subst_vars; cases p <;> simp_all [bI]⟩
  · refine v_iconst (v := 1) d_Tr_put_9 (by decide) rfl ?_
    refine v_goto (tgt := 14) d_Tr_put_10 (by decide) ?_
    refine v_iast (j := j) d_Tr_put_14 (hS.a (t := 32) (n := 16) (by decide) rfl) rfl (by omega) (by decide) rfl ?_
    generalize hI5 : u2 I 2 j 1 = I5
    refine v_aload_n 0 d_Tr_put_15 rfl rfl rfl ?_
    refine v_getr (r := 3) d_Tr_put_16 fl_Tr_15 (hS.o (by decide) rfl) rfl (hS.r (by decide) rfl) rfl ?_
    refine v_iload_n 1 d_Tr_put_19 rfl rfl rfl ?_
    refine v_iload_n 2 d_Tr_put_20 rfl rfl rfl ?_
    refine v_iast (j := j) d_Tr_put_21 (hS.a (t := 32) (n := 16) (by decide) rfl) rfl (by omega) (by decide) rfl ?_
    generalize hI6 : u2 I5 3 j (nI k) = I6
    refine v_aload_n 0 d_Tr_put_22 rfl rfl rfl ?_
    refine v_getr (r := 21) d_Tr_put_23 fl_Tr_23 (hS.o (by decide) rfl) rfl (hS.r (by decide) rfl) rfl ?_
    refine v_iload_n 1 d_Tr_put_26 rfl rfl rfl ?_
    refine v_iconst (v := 0) d_Tr_put_27 (by decide) rfl ?_
    refine v_iast (j := j) d_Tr_put_28 (hS.a (t := 32) (n := 16) (by decide) rfl) rfl (by omega) (by decide) rfl ?_
    generalize hI7 : u2 I6 21 j 0 = I7
    refine v_vret d_Tr_put_29 rfl ?_
    exact ⟨rfl, rfl, rfl, by subst_vars; cases p <;> simp_all [bI]⟩
set_option maxHeartbeats 4000000 in
set_option maxRecDepth 100000 in
theorem c_Tr_hang {C : CT} {l : Launch} {S : ShT} {I : DI} {J : DJ} {d : Nat} (hC : OKC C l) (hS : SHP S) {j k : Nat} (hj : j < 16) (hd : 0 ≤ d) : Sp C l k_Tr_hang y_Tr_hang (d, 0, 0) [.ref 1, .int (nI j), .int (nI k)] S I J (PU S J (fun I' => I' = u2 I 3 j (nI k))) := by
  refine Sp.of hC cd_Tr_hang (Nat.le_of_ble_eq_true rfl) ?_
  show V C l k_Tr_hang (d, 0, 0) _ 0 [(0, .ref 1), (1, .int (nI j)), (2, .int (nI k))] [] S I J (0, 0)
  refine v_aload_n 0 d_Tr_hang_0 rfl rfl rfl ?_
  refine v_getr (r := 3) d_Tr_hang_1 fl_Tr_15 (hS.o (by decide) rfl) rfl (hS.r (by decide) rfl) rfl ?_
  refine v_iload_n 1 d_Tr_hang_4 rfl rfl rfl ?_
  refine v_iload_n 2 d_Tr_hang_5 rfl rfl rfl ?_
  refine v_iast (j := j) d_Tr_hang_6 (hS.a (t := 32) (n := 16) (by decide) rfl) rfl (by omega) (by decide) rfl ?_
  generalize hI1 : u2 I 3 j (nI k) = I1
  refine v_vret d_Tr_hang_7 rfl ?_
  exact ⟨rfl, rfl, rfl, by subst_vars; rfl⟩
set_option maxHeartbeats 4000000 in
set_option maxRecDepth 100000 in
theorem c_Tr_drop {C : CT} {l : Launch} {S : ShT} {I : DI} {J : DJ} {d : Nat} (hC : OKC C l) (hS : SHP S) {j : Nat} (hj : j < 16) (hd : 0 ≤ d) : Sp C l k_Tr_drop y_Tr_drop (d, 0, 0) [.ref 1, .int (nI j)] S I J (PU S J (fun I' => I' = u2 I 2 j 0)) := by
  refine Sp.of hC cd_Tr_drop (Nat.le_of_ble_eq_true rfl) ?_
  show V C l k_Tr_drop (d, 0, 0) _ 0 [(0, .ref 1), (1, .int (nI j))] [] S I J (0, 0)
  refine v_aload_n 0 d_Tr_drop_0 rfl rfl rfl ?_
  refine v_getr (r := 2) d_Tr_drop_1 fl_Tr_9 (hS.o (by decide) rfl) rfl (hS.r (by decide) rfl) rfl ?_
  refine v_iload_n 1 d_Tr_drop_4 rfl rfl rfl ?_
  refine v_iconst (v := 0) d_Tr_drop_5 (by decide) rfl ?_
  refine v_iast (j := j) d_Tr_drop_6 (hS.a (t := 32) (n := 16) (by decide) rfl) rfl (by omega) (by decide) rfl ?_
  generalize hI1 : u2 I 2 j 0 = I1
  refine v_vret d_Tr_drop_7 rfl ?_
  exact ⟨rfl, rfl, rfl, by subst_vars; rfl⟩
set_option maxHeartbeats 4000000 in
set_option maxRecDepth 100000 in
theorem c_Tr_shorten {C : CT} {l : Launch} {S : ShT} {I : DI} {J : DJ} {d : Nat} (hC : OKC C l) (hS : SHP S) {j k : Nat} (hj : j < 16) (hd : 0 ≤ d) : Sp C l k_Tr_shorten y_Tr_shorten (d, 0, 0) [.ref 1, .int (nI j), .int (nI k)] S I J (PU S J (fun I' => I' = u2 I 21 j (nI k))) := by
  refine Sp.of hC cd_Tr_shorten (Nat.le_of_ble_eq_true rfl) ?_
  show V C l k_Tr_shorten (d, 0, 0) _ 0 [(0, .ref 1), (1, .int (nI j)), (2, .int (nI k))] [] S I J (0, 0)
  refine v_aload_n 0 d_Tr_shorten_0 rfl rfl rfl ?_
  refine v_getr (r := 21) d_Tr_shorten_1 fl_Tr_23 (hS.o (by decide) rfl) rfl (hS.r (by decide) rfl) rfl ?_
  refine v_iload_n 1 d_Tr_shorten_4 rfl rfl rfl ?_
  refine v_iload_n 2 d_Tr_shorten_5 rfl rfl rfl ?_
  refine v_iast (j := j) d_Tr_shorten_6 (hS.a (t := 32) (n := 16) (by decide) rfl) rfl (by omega) (by decide) rfl ?_
  generalize hI1 : u2 I 21 j (nI k) = I1
  refine v_vret d_Tr_shorten_7 rfl ?_
  exact ⟨rfl, rfl, rfl, by subst_vars; rfl⟩
set_option maxHeartbeats 4000000 in
set_option maxRecDepth 100000 in
theorem c_Tr_append {C : CT} {l : Launch} {S : ShT} {I : DI} {J : DJ} {d : Nat} (hC : OKC C l) (hS : SHP S) {j n : Nat} (hj : j < 16) (x : Int32) (hn : I 21 j = nI n) (hn6 : n < 60) (hd : 0 ≤ d) : Sp C l k_Tr_append y_Tr_append (d, 0, 0) [.ref 1, .int (nI j), .int x] S I J (PU S J (fun I' => I' = u2 (u2 I (5 + j) n x) 21 j (nI (n + 1)))) := by
  refine Sp.of hC cd_Tr_append (Nat.le_of_ble_eq_true rfl) ?_
  show V C l k_Tr_append (d, 0, 0) _ 0 [(0, .ref 1), (1, .int (nI j)), (2, .int x)] [] S I J (0, 0)
  refine v_aload_n 0 d_Tr_append_0 rfl rfl rfl ?_
  refine v_getr (r := 4) d_Tr_append_1 fl_Tr_20 (hS.o (by decide) rfl) rfl (hS.r (by decide) rfl) rfl ?_
  refine v_iload_n 1 d_Tr_append_4 rfl rfl rfl ?_
  refine v_aald (j := j) (r := (5 + j)) d_Tr_append_5 (hS.a (t := 37) (n := 16) (by decide) rfl) (by decide) rfl (by omega) (by decide) (hS.coR (by omega)) rfl ?_
  refine v_aload_n 0 d_Tr_append_6 rfl rfl rfl ?_
  refine v_getr (r := 21) d_Tr_append_7 fl_Tr_23 (hS.o (by decide) rfl) rfl (hS.r (by decide) rfl) rfl ?_
  refine v_iload_n 1 d_Tr_append_10 rfl rfl rfl ?_
  refine v_iald (j := j) d_Tr_append_11 (hS.a (t := 32) (n := 16) (by decide) rfl) rfl (by omega) (by decide) rfl ?_
  refine v_iload_n 2 d_Tr_append_12 rfl rfl rfl ?_
  refine v_iast (j := n) d_Tr_append_13 (hS.co hj) hn (by omega) (by decide) rfl ?_
  generalize hI1 : u2 I ((5 + j)) n x = I1
  refine v_aload_n 0 d_Tr_append_14 rfl rfl rfl ?_
  refine v_getr (r := 21) d_Tr_append_15 fl_Tr_23 (hS.o (by decide) rfl) rfl (hS.r (by decide) rfl) rfl ?_
  refine v_iload_n 1 d_Tr_append_18 rfl rfl rfl ?_
  refine v_dup2 d_Tr_append_19 rfl rfl rfl ?_
  refine v_iald (j := j) d_Tr_append_20 (hS.a (t := 32) (n := 16) (by decide) rfl) rfl (by omega) (by decide) rfl ?_
  refine v_iconst (v := 1) d_Tr_append_21 (by decide) rfl ?_
  refine v_iadd d_Tr_append_22 rfl ?_
  refine v_nmi (fun z2 ez2 => ?_)
  refine v_iast (j := j) d_Tr_append_23 (hS.a (t := 32) (n := 16) (by decide) rfl) rfl (by omega) (by decide) rfl ?_
  generalize hI3 : u2 I1 21 j z2 = I3
  refine v_vret d_Tr_append_24 rfl ?_
  exact ⟨rfl, rfl, rfl, by subst_vars; simp only [u2_n (show (21 : Nat) ≠ 5 + j ∨ j ≠ n by omega), hn, nI_1]⟩
set_option maxHeartbeats 4000000 in
set_option maxRecDepth 100000 in
theorem c_Qu_size {C : CT} {l : Launch} {S : ShT} {I : DI} {J : DJ} {d : Nat} (hC : OKC C l) (hS : SHP S) (hd : 0 ≤ d) : Sp C l k_Qu_size y_Qu_size (d, 0, 0) [.ref 22] S I J (PP (.int (I 22 2)) S I J) := by
  refine Sp.of hC cd_Qu_size (Nat.le_of_ble_eq_true rfl) ?_
  show V C l k_Qu_size (d, 0, 0) _ 0 [(0, .ref 22)] [] S I J (0, 0)
  refine v_aload_n 0 d_Qu_size_0 rfl rfl rfl ?_
  refine v_geti d_Qu_size_1 fl_Qu_18 (hS.o (by decide) rfl) rfl rfl ?_
  refine v_iret d_Qu_size_4 rfl ?_
  exact ⟨rfl, rfl, rfl, rfl⟩
set_option maxHeartbeats 4000000 in
set_option maxRecDepth 100000 in
theorem c_Qu_isLost {C : CT} {l : Launch} {S : ShT} {I : DI} {J : DJ} {d : Nat} (hC : OKC C l) (hS : SHP S) (hb : I 22 3 = 0 ∨ I 22 3 = 1) (hd : 0 ≤ d) : Sp C l k_Qu_isLost y_Qu_isLost (d, 0, 0) [.ref 22] S I J (PP (.int (I 22 3)) S I J) := by
  refine Sp.of hC cd_Qu_isLost (Nat.le_of_ble_eq_true rfl) ?_
  show V C l k_Qu_isLost (d, 0, 0) _ 0 [(0, .ref 22)] [] S I J (0, 0)
  refine v_aload_n 0 d_Qu_isLost_0 rfl rfl rfl ?_
  refine v_geti d_Qu_isLost_1 fl_Qu_22 (hS.o (by decide) rfl) rfl rfl ?_
  refine v_zret d_Qu_isLost_4 rfl (by first | exact bI01 _ | assumption) ?_
  exact ⟨rfl, rfl, rfl, rfl⟩
set_option maxHeartbeats 4000000 in
set_option maxRecDepth 100000 in
theorem c_Qu_kindAt {C : CT} {l : Launch} {S : ShT} {I : DI} {J : DJ} {d : Nat} (hC : OKC C l) (hS : SHP S) {j : Nat} (hj : j < 8) (hd : 0 ≤ d) : Sp C l k_Qu_kindAt y_Qu_kindAt (d, 0, 0) [.ref 22, .int (nI j)] S I J (PP (.int (I 23 j)) S I J) := by
  refine Sp.of hC cd_Qu_kindAt (Nat.le_of_ble_eq_true rfl) ?_
  show V C l k_Qu_kindAt (d, 0, 0) _ 0 [(0, .ref 22), (1, .int (nI j))] [] S I J (0, 0)
  refine v_aload_n 0 d_Qu_kindAt_0 rfl rfl rfl ?_
  refine v_getr (r := 23) d_Qu_kindAt_1 fl_Qu_9 (hS.o (by decide) rfl) rfl (hS.r (by decide) rfl) rfl ?_
  refine v_iload_n 1 d_Qu_kindAt_4 rfl rfl rfl ?_
  refine v_iald (j := j) d_Qu_kindAt_5 (hS.a (t := 32) (n := 8) (by decide) rfl) rfl (by omega) (by decide) rfl ?_
  refine v_iret d_Qu_kindAt_6 rfl ?_
  exact ⟨rfl, rfl, rfl, rfl⟩
set_option maxHeartbeats 4000000 in
set_option maxRecDepth 100000 in
theorem c_Qu_fileAt {C : CT} {l : Launch} {S : ShT} {I : DI} {J : DJ} {d : Nat} (hC : OKC C l) (hS : SHP S) {j : Nat} (hj : j < 8) (hd : 0 ≤ d) : Sp C l k_Qu_fileAt y_Qu_fileAt (d, 0, 0) [.ref 22, .int (nI j)] S I J (PP (.int (I 24 j)) S I J) := by
  refine Sp.of hC cd_Qu_fileAt (Nat.le_of_ble_eq_true rfl) ?_
  show V C l k_Qu_fileAt (d, 0, 0) _ 0 [(0, .ref 22), (1, .int (nI j))] [] S I J (0, 0)
  refine v_aload_n 0 d_Qu_fileAt_0 rfl rfl rfl ?_
  refine v_getr (r := 24) d_Qu_fileAt_1 fl_Qu_15 (hS.o (by decide) rfl) rfl (hS.r (by decide) rfl) rfl ?_
  refine v_iload_n 1 d_Qu_fileAt_4 rfl rfl rfl ?_
  refine v_iald (j := j) d_Qu_fileAt_5 (hS.a (t := 32) (n := 8) (by decide) rfl) rfl (by omega) (by decide) rfl ?_
  refine v_iret d_Qu_fileAt_6 rfl ?_
  exact ⟨rfl, rfl, rfl, rfl⟩
set_option maxHeartbeats 4000000 in
set_option maxRecDepth 100000 in
theorem c_Qu_startAnew {C : CT} {l : Launch} {S : ShT} {I : DI} {J : DJ} {d : Nat} (hC : OKC C l) (hS : SHP S) (hd : 0 ≤ d) : Sp C l k_Qu_startAnew y_Qu_startAnew (d, 0, 0) [.ref 22] S I J (PU S J (fun I' => I' = u2 (u2 I 22 2 0) 22 3 0)) := by
  refine Sp.of hC cd_Qu_startAnew (Nat.le_of_ble_eq_true rfl) ?_
  show V C l k_Qu_startAnew (d, 0, 0) _ 0 [(0, .ref 22)] [] S I J (0, 0)
  refine v_aload_n 0 d_Qu_startAnew_0 rfl rfl rfl ?_
  refine v_iconst (v := 0) d_Qu_startAnew_1 (by decide) rfl ?_
  refine v_puti d_Qu_startAnew_2 fl_Qu_18 (hS.o (by decide) rfl) rfl rfl rfl ?_
  generalize hI1 : u2 I 22 2 0 = I1
  refine v_aload_n 0 d_Qu_startAnew_5 rfl rfl rfl ?_
  refine v_iconst (v := 0) d_Qu_startAnew_6 (by decide) rfl ?_
  refine v_putz d_Qu_startAnew_7 fl_Qu_22 (hS.o (by decide) rfl) rfl rfl (Or.inl rfl) rfl ?_
  generalize hI2 : u2 I1 22 3 0 = I2
  refine v_vret d_Qu_startAnew_10 rfl ?_
  exact ⟨rfl, rfl, rfl, by subst_vars; rfl⟩
set_option maxHeartbeats 4000000 in
set_option maxRecDepth 100000 in
theorem c_Ix_has {C : CT} {l : Launch} {S : ShT} {I : DI} {J : DJ} {d : Nat} (hC : OKC C l) (hS : SHP S) (hb : ∀ i, i < 16 → I 27 i = 0 ∨ I 27 i = 1) (x : Int32) (hd : 1 ≤ d) : Sp C l k_Ix_has y_Ix_has (d, 0, 0) [.ref 25, .int x] S I J (PP (.int (bI (ixH I x))) S I J) := by
  refine Sp.of hC cd_Ix_has (Nat.le_of_ble_eq_true rfl) ?_
  show V C l k_Ix_has (d, 0, 0) _ 0 [(0, .ref 25), (1, .int x)] [] S I J (0, 0)
  refine v_iload_n 1 d_Ix_has_0 rfl rfl rfl ?_
  refine v_cNp (as := [.int x]) d_Ix_has_1 cs_Ix_22 (c_Fi_isNode hC (d := d - 1) x (by omega)) rfl rfl (by decide) (by omega) rfl ?_
  refine v_if_eq (tgt := 20) d_Ix_has_4 (by decide) rfl (fun c1 => ?_) (fun c1 => ?_)
  · refine v_iconst (v := 0) d_Ix_has_20 (by decide) rfl ?_
    refine v_zret d_Ix_has_21 rfl (Or.inl rfl) ?_
    exact ⟨by first | (rw [ixH_j hj]; rcases hb j hj with h9 | h9 <;> simp_all [bI]; done) | (rw [ixH_n (by simpa [bI] using c1)]; simp [bI]), rfl, rfl, rfl⟩
  · obtain ⟨j, hj, rfl⟩ := isNd_j (by simpa [bI] using c1)
    refine v_aload_n 0 d_Ix_has_7 rfl rfl rfl ?_
    refine v_getr (r := 27) d_Ix_has_8 fl_Ix_17 (hS.o (by decide) rfl) rfl (hS.r (by decide) rfl) rfl ?_
    refine v_iload_n 1 d_Ix_has_11 rfl rfl rfl ?_
    refine v_zald (j := j) d_Ix_has_12 (hS.a (t := 33) (n := 16) (by decide) rfl) rfl (by omega) (by decide) rfl ?_
    refine v_if_eq (tgt := 20) d_Ix_has_13 (by decide) rfl (fun c2 => ?_) (fun c2 => ?_)
    · refine v_iconst (v := 0) d_Ix_has_20 (by decide) rfl ?_
      refine v_zret d_Ix_has_21 rfl (Or.inl rfl) ?_
      exact ⟨by first | (rw [ixH_j hj]; rcases hb j hj with h9 | h9 <;> simp_all [bI]; done) | (rw [ixH_n (by simpa [bI] using c1)]; simp [bI]), rfl, rfl, rfl⟩
    · refine v_iconst (v := 1) d_Ix_has_16 (by decide) rfl ?_
      refine v_goto (tgt := 21) d_Ix_has_17 (by decide) ?_
      refine v_zret d_Ix_has_21 rfl (Or.inr rfl) ?_

      exact ⟨by first | (rw [ixH_j hj]; rcases hb j hj with h9 | h9 <;> simp_all [bI]; done) | (rw [ixH_n (by simpa [bI] using c1)]; simp [bI]), rfl, rfl, rfl⟩
set_option maxHeartbeats 4000000 in
set_option maxRecDepth 100000 in
theorem c_Ix_entryOf {C : CT} {l : Launch} {S : ShT} {I : DI} {J : DJ} {d : Nat} (hC : OKC C l) (hS : SHP S) {j : Nat} (hj : j < 16) (hd : 0 ≤ d) : Sp C l k_Ix_entryOf y_Ix_entryOf (d, 0, 0) [.ref 25, .int (nI j)] S I J (PP (.ref (28 + 3 * j)) S I J) := by
  refine Sp.of hC cd_Ix_entryOf (Nat.le_of_ble_eq_true rfl) ?_
  show V C l k_Ix_entryOf (d, 0, 0) _ 0 [(0, .ref 25), (1, .int (nI j))] [] S I J (0, 0)
  refine v_aload_n 0 d_Ix_entryOf_0 rfl rfl rfl ?_
  refine v_getr (r := 26) d_Ix_entryOf_1 fl_Ix_11 (hS.o (by decide) rfl) rfl (hS.r (by decide) rfl) rfl ?_
  refine v_iload_n 1 d_Ix_entryOf_4 rfl rfl rfl ?_
  refine v_aald (j := j) (r := (28 + 3 * j)) d_Ix_entryOf_5 (hS.a (t := 35) (n := 16) (by decide) rfl) (by decide) rfl (by omega) (by decide) (hS.enR (by omega)) rfl ?_
  refine v_aret d_Ix_entryOf_6 (Or.inl ⟨_, rfl⟩) ?_
  exact ⟨rfl, rfl, rfl, rfl⟩
set_option maxHeartbeats 4000000 in
set_option maxRecDepth 100000 in
theorem c_Ix_forget {C : CT} {l : Launch} {S : ShT} {I : DI} {J : DJ} {d : Nat} (hC : OKC C l) (hS : SHP S) {j : Nat} (hj : j < 16) (hd : 0 ≤ d) : Sp C l k_Ix_forget y_Ix_forget (d, 0, 0) [.ref 25, .int (nI j)] S I J (PU S J (fun I' => I' = u2 I 27 j 0)) := by
  refine Sp.of hC cd_Ix_forget (Nat.le_of_ble_eq_true rfl) ?_
  show V C l k_Ix_forget (d, 0, 0) _ 0 [(0, .ref 25), (1, .int (nI j))] [] S I J (0, 0)
  refine v_aload_n 0 d_Ix_forget_0 rfl rfl rfl ?_
  refine v_getr (r := 27) d_Ix_forget_1 fl_Ix_17 (hS.o (by decide) rfl) rfl (hS.r (by decide) rfl) rfl ?_
  refine v_iload_n 1 d_Ix_forget_4 rfl rfl rfl ?_
  refine v_iconst (v := 0) d_Ix_forget_5 (by decide) rfl ?_
  refine v_zast (j := j) d_Ix_forget_6 (hS.a (t := 33) (n := 16) (by decide) rfl) rfl (by omega) (by decide) (Or.inl rfl) rfl ?_
  generalize hI1 : u2 I 27 j 0 = I1
  refine v_vret d_Ix_forget_7 rfl ?_
  exact ⟨rfl, rfl, rfl, by subst_vars; rfl⟩
set_option maxHeartbeats 4000000 in
set_option maxRecDepth 100000 in
theorem c_Ix_timesRead {C : CT} {l : Launch} {S : ShT} {I : DI} {J : DJ} {d : Nat} (hC : OKC C l) (hS : SHP S) (hd : 0 ≤ d) : Sp C l k_Ix_timesRead y_Ix_timesRead (d, 0, 0) [.ref 25] S I J (PP (.int (I 25 2)) S I J) := by
  refine Sp.of hC cd_Ix_timesRead (Nat.le_of_ble_eq_true rfl) ?_
  show V C l k_Ix_timesRead (d, 0, 0) _ 0 [(0, .ref 25)] [] S I J (0, 0)
  refine v_aload_n 0 d_Ix_timesRead_0 rfl rfl rfl ?_
  refine v_geti d_Ix_timesRead_1 fl_Ix_30 (hS.o (by decide) rfl) rfl rfl ?_
  refine v_iret d_Ix_timesRead_4 rfl ?_
  exact ⟨rfl, rfl, rfl, rfl⟩
set_option maxHeartbeats 4000000 in
set_option maxRecDepth 100000 in
theorem c_Rk_size {C : CT} {l : Launch} {S : ShT} {I : DI} {J : DJ} {d : Nat} (hC : OKC C l) (hS : SHP S) (hd : 0 ≤ d) : Sp C l k_Rk_size y_Rk_size (d, 0, 0) [.ref 121] S I J (PP (.int (I 121 2)) S I J) := by
  refine Sp.of hC cd_Rk_size (Nat.le_of_ble_eq_true rfl) ?_
  show V C l k_Rk_size (d, 0, 0) _ 0 [(0, .ref 121)] [] S I J (0, 0)
  refine v_aload_n 0 d_Rk_size_0 rfl rfl rfl ?_
  refine v_geti d_Rk_size_1 fl_Rk_18 (hS.o (by decide) rfl) rfl rfl ?_
  refine v_iret d_Rk_size_4 rfl ?_
  exact ⟨rfl, rfl, rfl, rfl⟩
set_option maxHeartbeats 4000000 in
set_option maxRecDepth 100000 in
theorem c_Rk_fileAt {C : CT} {l : Launch} {S : ShT} {I : DI} {J : DJ} {d : Nat} (hC : OKC C l) (hS : SHP S) {j : Nat} (hj : j < 16) (hd : 0 ≤ d) : Sp C l k_Rk_fileAt y_Rk_fileAt (d, 0, 0) [.ref 121, .int (nI j)] S I J (PP (.int (I 122 j)) S I J) := by
  refine Sp.of hC cd_Rk_fileAt (Nat.le_of_ble_eq_true rfl) ?_
  show V C l k_Rk_fileAt (d, 0, 0) _ 0 [(0, .ref 121), (1, .int (nI j))] [] S I J (0, 0)
  refine v_aload_n 0 d_Rk_fileAt_0 rfl rfl rfl ?_
  refine v_getr (r := 122) d_Rk_fileAt_1 fl_Rk_9 (hS.o (by decide) rfl) rfl (hS.r (by decide) rfl) rfl ?_
  refine v_iload_n 1 d_Rk_fileAt_4 rfl rfl rfl ?_
  refine v_iald (j := j) d_Rk_fileAt_5 (hS.a (t := 32) (n := 16) (by decide) rfl) rfl (by omega) (by decide) rfl ?_
  refine v_iret d_Rk_fileAt_6 rfl ?_
  exact ⟨rfl, rfl, rfl, rfl⟩
set_option maxHeartbeats 4000000 in
set_option maxRecDepth 100000 in
theorem c_Rk_scoreAt {C : CT} {l : Launch} {S : ShT} {I : DI} {J : DJ} {d : Nat} (hC : OKC C l) (hS : SHP S) {j : Nat} (hj : j < 16) (hd : 0 ≤ d) : Sp C l k_Rk_scoreAt y_Rk_scoreAt (d, 0, 0) [.ref 121, .int (nI j)] S I J (PP (.int (I 123 j)) S I J) := by
  refine Sp.of hC cd_Rk_scoreAt (Nat.le_of_ble_eq_true rfl) ?_
  show V C l k_Rk_scoreAt (d, 0, 0) _ 0 [(0, .ref 121), (1, .int (nI j))] [] S I J (0, 0)
  refine v_aload_n 0 d_Rk_scoreAt_0 rfl rfl rfl ?_
  refine v_getr (r := 123) d_Rk_scoreAt_1 fl_Rk_15 (hS.o (by decide) rfl) rfl (hS.r (by decide) rfl) rfl ?_
  refine v_iload_n 1 d_Rk_scoreAt_4 rfl rfl rfl ?_
  refine v_iald (j := j) d_Rk_scoreAt_5 (hS.a (t := 32) (n := 16) (by decide) rfl) rfl (by omega) (by decide) rfl ?_
  refine v_iret d_Rk_scoreAt_6 rfl ?_
  exact ⟨rfl, rfl, rfl, rfl⟩
set_option maxHeartbeats 4000000 in
set_option maxRecDepth 100000 in
theorem c_Rk_clear {C : CT} {l : Launch} {S : ShT} {I : DI} {J : DJ} {d : Nat} (hC : OKC C l) (hS : SHP S) (hd : 0 ≤ d) : Sp C l k_Rk_clear y_Rk_clear (d, 0, 0) [.ref 121] S I J (PU S J (fun I' => I' = u2 I 121 2 0)) := by
  refine Sp.of hC cd_Rk_clear (Nat.le_of_ble_eq_true rfl) ?_
  show V C l k_Rk_clear (d, 0, 0) _ 0 [(0, .ref 121)] [] S I J (0, 0)
  refine v_aload_n 0 d_Rk_clear_0 rfl rfl rfl ?_
  refine v_iconst (v := 0) d_Rk_clear_1 (by decide) rfl ?_
  refine v_puti d_Rk_clear_2 fl_Rk_18 (hS.o (by decide) rfl) rfl rfl rfl ?_
  generalize hI1 : u2 I 121 2 0 = I1
  refine v_vret d_Rk_clear_5 rfl ?_
  exact ⟨rfl, rfl, rfl, by subst_vars; rfl⟩
set_option maxHeartbeats 4000000 in
set_option maxRecDepth 100000 in
theorem c_En_size {C : CT} {l : Launch} {S : ShT} {I : DI} {J : DJ} {d : Nat} (hC : OKC C l) (hS : SHP S) {i : Nat} (hi : i < 16) (hd : 0 ≤ d) : Sp C l k_En_size y_En_size (d, 0, 0) [.ref (28 + 3 * i)] S I J (PP (.int (I (28 + 3 * i) 2)) S I J) := by
  refine Sp.of hC cd_En_size (Nat.le_of_ble_eq_true rfl) ?_
  show V C l k_En_size (d, 0, 0) _ 0 [(0, .ref (28 + 3 * i))] [] S I J (0, 0)
  refine v_aload_n 0 d_En_size_0 rfl rfl rfl ?_
  refine v_geti d_En_size_1 fl_En_19 (hS.en hi) rfl rfl ?_
  refine v_iret d_En_size_4 rfl ?_
  exact ⟨rfl, rfl, rfl, rfl⟩
set_option maxHeartbeats 4000000 in
set_option maxRecDepth 100000 in
theorem c_En_wordAt {C : CT} {l : Launch} {S : ShT} {I : DI} {J : DJ} {d : Nat} (hC : OKC C l) (hS : SHP S) {i j : Nat} (hi : i < 16) (hj : j < 30) (hd : 0 ≤ d) : Sp C l k_En_wordAt y_En_wordAt (d, 0, 0) [.ref (28 + 3 * i), .int (nI j)] S I J (PP (.long (J (29 + 3 * i) j)) S I J) := by
  refine Sp.of hC cd_En_wordAt (Nat.le_of_ble_eq_true rfl) ?_
  show V C l k_En_wordAt (d, 0, 0) _ 0 [(0, .ref (28 + 3 * i)), (1, .int (nI j))] [] S I J (0, 0)
  refine v_aload_n 0 d_En_wordAt_0 rfl rfl rfl ?_
  refine v_getr (r := (29 + 3 * i)) d_En_wordAt_1 fl_En_11 (hS.en hi) rfl (hS.en0 hi) rfl ?_
  refine v_iload_n 1 d_En_wordAt_4 rfl rfl rfl ?_
  refine v_lald (j := j) d_En_wordAt_5 (hS.enS hi) rfl (by omega) (by decide) rfl ?_
  refine v_lret d_En_wordAt_6 rfl ?_
  exact ⟨rfl, rfl, rfl, rfl⟩
set_option maxHeartbeats 4000000 in
set_option maxRecDepth 100000 in
theorem c_En_weightAt {C : CT} {l : Launch} {S : ShT} {I : DI} {J : DJ} {d : Nat} (hC : OKC C l) (hS : SHP S) {i j : Nat} (hi : i < 16) (hj : j < 30) (hd : 0 ≤ d) : Sp C l k_En_weightAt y_En_weightAt (d, 0, 0) [.ref (28 + 3 * i), .int (nI j)] S I J (PP (.int (I (30 + 3 * i) j)) S I J) := by
  refine Sp.of hC cd_En_weightAt (Nat.le_of_ble_eq_true rfl) ?_
  show V C l k_En_weightAt (d, 0, 0) _ 0 [(0, .ref (28 + 3 * i)), (1, .int (nI j))] [] S I J (0, 0)
  refine v_aload_n 0 d_En_weightAt_0 rfl rfl rfl ?_
  refine v_getr (r := (30 + 3 * i)) d_En_weightAt_1 fl_En_15 (hS.en hi) rfl (hS.en1 hi) rfl ?_
  refine v_iload_n 1 d_En_weightAt_4 rfl rfl rfl ?_
  refine v_iald (j := j) d_En_weightAt_5 (hS.enW hi) rfl (by omega) (by decide) rfl ?_
  refine v_iret d_En_weightAt_6 rfl ?_
  exact ⟨rfl, rfl, rfl, rfl⟩
set_option maxHeartbeats 4000000 in
set_option maxRecDepth 100000 in
theorem c_Tm_isOf {C : CT} {l : Launch} {S : ShT} {I : DI} {J : DJ} {d : Nat} (hC : OKC C l) (hS : SHP S) {i : Nat} (hi : i < 21) (x : Int32) (hd : 0 ≤ d) : Sp C l k_Tm_isOf y_Tm_isOf (d, 0, 0) [.ref (79 + 2 * i), .int x] S I J (PP (.int (bI (decide (I (79 + 2 * i) 2 = x)))) S I J) := by
  refine Sp.of hC cd_Tm_isOf (Nat.le_of_ble_eq_true rfl) ?_
  show V C l k_Tm_isOf (d, 0, 0) _ 0 [(0, .ref (79 + 2 * i)), (1, .int x)] [] S I J (0, 0)
  refine v_aload_n 0 d_Tm_isOf_0 rfl rfl rfl ?_
  refine v_geti d_Tm_isOf_1 fl_Tm_19 (hS.tm hi) rfl rfl ?_
  refine v_iload_n 1 d_Tm_isOf_4 rfl rfl rfl ?_
  refine v_icmp_ne (tgt := 12) d_Tm_isOf_5 (by decide) rfl (fun c1 => ?_) (fun c1 => ?_)
  · refine v_iconst (v := 0) d_Tm_isOf_12 (by decide) rfl ?_
    refine v_zret d_Tm_isOf_13 rfl (Or.inl rfl) ?_
    exact ⟨by simp_all [bI], rfl, rfl, rfl⟩
  · refine v_iconst (v := 1) d_Tm_isOf_8 (by decide) rfl ?_
    refine v_goto (tgt := 13) d_Tm_isOf_9 (by decide) ?_
    refine v_zret d_Tm_isOf_13 rfl (Or.inr rfl) ?_
    exact ⟨by simp_all [bI], rfl, rfl, rfl⟩
set_option maxHeartbeats 4000000 in
set_option maxRecDepth 100000 in
theorem c_Tm_isUnwanted {C : CT} {l : Launch} {S : ShT} {I : DI} {J : DJ} {d : Nat} (hC : OKC C l) (hS : SHP S) {i : Nat} (hi : i < 21) (hb : I (79 + 2 * i) 3 = 0 ∨ I (79 + 2 * i) 3 = 1) (hd : 0 ≤ d) : Sp C l k_Tm_isUnwanted y_Tm_isUnwanted (d, 0, 0) [.ref (79 + 2 * i)] S I J (PP (.int (I (79 + 2 * i) 3)) S I J) := by
  refine Sp.of hC cd_Tm_isUnwanted (Nat.le_of_ble_eq_true rfl) ?_
  show V C l k_Tm_isUnwanted (d, 0, 0) _ 0 [(0, .ref (79 + 2 * i))] [] S I J (0, 0)
  refine v_aload_n 0 d_Tm_isUnwanted_0 rfl rfl rfl ?_
  refine v_geti d_Tm_isUnwanted_1 fl_Tm_22 (hS.tm hi) rfl rfl ?_
  refine v_zret d_Tm_isUnwanted_4 rfl (by first | exact bI01 _ | assumption) ?_
  exact ⟨rfl, rfl, rfl, rfl⟩
set_option maxHeartbeats 4000000 in
set_option maxRecDepth 100000 in
theorem c_Tm_isEmpty {C : CT} {l : Launch} {S : ShT} {I : DI} {J : DJ} {d : Nat} (hC : OKC C l) (hS : SHP S) {i : Nat} (hi : i < 21) (hd : 0 ≤ d) : Sp C l k_Tm_isEmpty y_Tm_isEmpty (d, 0, 0) [.ref (79 + 2 * i)] S I J (PP (.int (bI (decide (I (79 + 2 * i) 1 = 0)))) S I J) := by
  refine Sp.of hC cd_Tm_isEmpty (Nat.le_of_ble_eq_true rfl) ?_
  show V C l k_Tm_isEmpty (d, 0, 0) _ 0 [(0, .ref (79 + 2 * i))] [] S I J (0, 0)
  refine v_aload_n 0 d_Tm_isEmpty_0 rfl rfl rfl ?_
  refine v_geti d_Tm_isEmpty_1 fl_Tm_15 (hS.tm hi) rfl rfl ?_
  refine v_if_ne (tgt := 11) d_Tm_isEmpty_4 (by decide) rfl (fun c1 => ?_) (fun c1 => ?_)
  · refine v_iconst (v := 0) d_Tm_isEmpty_11 (by decide) rfl ?_
    refine v_zret d_Tm_isEmpty_12 rfl (Or.inl rfl) ?_
    exact ⟨by simp_all [bI], rfl, rfl, rfl⟩
  · refine v_iconst (v := 1) d_Tm_isEmpty_7 (by decide) rfl ?_
    refine v_goto (tgt := 12) d_Tm_isEmpty_8 (by decide) ?_
    refine v_zret d_Tm_isEmpty_12 rfl (Or.inr rfl) ?_
    exact ⟨by simp_all [bI], rfl, rfl, rfl⟩
set_option maxHeartbeats 4000000 in
set_option maxRecDepth 100000 in
theorem c_Tm_forbid {C : CT} {l : Launch} {S : ShT} {I : DI} {J : DJ} {d : Nat} (hC : OKC C l) (hS : SHP S) {i : Nat} (hi : i < 21) (hd : 0 ≤ d) : Sp C l k_Tm_forbid y_Tm_forbid (d, 0, 0) [.ref (79 + 2 * i)] S I J (PU S J (fun I' => I' = u2 I (79 + 2 * i) 3 1)) := by
  refine Sp.of hC cd_Tm_forbid (Nat.le_of_ble_eq_true rfl) ?_
  show V C l k_Tm_forbid (d, 0, 0) _ 0 [(0, .ref (79 + 2 * i))] [] S I J (0, 0)
  refine v_aload_n 0 d_Tm_forbid_0 rfl rfl rfl ?_
  refine v_iconst (v := 1) d_Tm_forbid_1 (by decide) rfl ?_
  refine v_putz d_Tm_forbid_2 fl_Tm_22 (hS.tm hi) rfl rfl (Or.inr rfl) rfl ?_
  generalize hI1 : u2 I (79 + 2 * i) 3 1 = I1
  refine v_vret d_Tm_forbid_5 rfl ?_
  exact ⟨rfl, rfl, rfl, by subst_vars; rfl⟩
set_option maxHeartbeats 4000000 in
set_option maxRecDepth 100000 in
theorem c_Tm_begin {C : CT} {l : Launch} {S : ShT} {I : DI} {J : DJ} {d : Nat} (hC : OKC C l) (hS : SHP S) {i : Nat} (hi : i < 21) (x : Int32) (hd : 0 ≤ d) : Sp C l k_Tm_begin y_Tm_begin (d, 0, 0) [.ref (79 + 2 * i), .int x] S I J (PW S (fun I' J' => I' = u2 (u2 (u2 I (79 + 2 * i) 1 0) (79 + 2 * i) 2 x) (79 + 2 * i) 3 0 ∧ J' = u2 J (79 + 2 * i) 4 (-1))) := by
  refine Sp.of hC cd_Tm_begin (Nat.le_of_ble_eq_true rfl) ?_
  show V C l k_Tm_begin (d, 0, 0) _ 0 [(0, .ref (79 + 2 * i)), (1, .int x)] [] S I J (0, 0)
  refine v_aload_n 0 d_Tm_begin_0 rfl rfl rfl ?_
  refine v_iconst (v := 0) d_Tm_begin_1 (by decide) rfl ?_
  refine v_puti d_Tm_begin_2 fl_Tm_15 (hS.tm hi) rfl rfl rfl ?_
  generalize hI1 : u2 I (79 + 2 * i) 1 0 = I1
  refine v_aload_n 0 d_Tm_begin_5 rfl rfl rfl ?_
  refine v_iload_n 1 d_Tm_begin_6 rfl rfl rfl ?_
  refine v_puti d_Tm_begin_7 fl_Tm_19 (hS.tm hi) rfl rfl rfl ?_
  generalize hI2 : u2 I1 (79 + 2 * i) 2 x = I2
  refine v_aload_n 0 d_Tm_begin_10 rfl rfl rfl ?_
  refine v_iconst (v := 0) d_Tm_begin_11 (by decide) rfl ?_
  refine v_putz d_Tm_begin_12 fl_Tm_22 (hS.tm hi) rfl rfl (Or.inl rfl) rfl ?_
  generalize hI3 : u2 I2 (79 + 2 * i) 3 0 = I3
  refine v_aload_n 0 d_Tm_begin_15 rfl rfl rfl ?_
  refine v_ldc2 (v := (-1)) d_Tm_begin_16 wk_Tm_26 rfl ?_
  refine v_putl d_Tm_begin_19 fl_Tm_28 (hS.tm hi) rfl rfl rfl ?_
  generalize hJ4 : u2 J (79 + 2 * i) 4 (-1) = J4
  refine v_vret d_Tm_begin_22 rfl ?_
  exact ⟨rfl, rfl, by subst_vars; rfl, by subst_vars; rfl⟩
set_option maxHeartbeats 4000000 in
set_option maxRecDepth 100000 in
theorem c_Tm_add {C : CT} {l : Launch} {S : ShT} {I : DI} {J : DJ} {d : Nat} (hC : OKC C l) (hS : SHP S) {i n : Nat} (hi : i < 21) (hn : I (79 + 2 * i) 1 = nI n) (hn4 : n < 4) (x : Int64) (hd : 0 ≤ d) : Sp C l k_Tm_add y_Tm_add (d, 0, 0) [.ref (79 + 2 * i), .long x] S I J (PW S (fun I' J' => I' = u2 I (79 + 2 * i) 1 (nI (n + 1)) ∧ J' = u2 J (80 + 2 * i) n x)) := by
  refine Sp.of hC cd_Tm_add (Nat.le_of_ble_eq_true rfl) ?_
  show V C l k_Tm_add (d, 0, 0) _ 0 [(0, .ref (79 + 2 * i)), (1, .long x)] [] S I J (0, 0)
  refine v_aload_n 0 d_Tm_add_0 rfl rfl rfl ?_
  refine v_getr (r := (80 + 2 * i)) d_Tm_add_1 fl_Tm_9 (hS.tm hi) rfl (hS.tm0 hi) rfl ?_
  refine v_aload_n 0 d_Tm_add_4 rfl rfl rfl ?_
  refine v_geti d_Tm_add_5 fl_Tm_15 (hS.tm hi) rfl rfl ?_
  refine v_lload_n 1 d_Tm_add_8 rfl rfl rfl ?_
  refine v_last (j := n) d_Tm_add_9 (hS.tmS hi) hn (by omega) (by decide) rfl ?_
  generalize hJ1 : u2 J ((80 + 2 * i)) n x = J1
  refine v_aload_n 0 d_Tm_add_10 rfl rfl rfl ?_
  refine v_dup d_Tm_add_11 rfl rfl ?_
  refine v_geti d_Tm_add_12 fl_Tm_15 (hS.tm hi) rfl rfl ?_
  refine v_iconst (v := 1) d_Tm_add_15 (by decide) rfl ?_
  refine v_iadd d_Tm_add_16 rfl ?_
  refine v_nmi (fun z2 ez2 => ?_)
  have nz2 : z2 = nI (n + 1) := by rw [ez2, show I (79 + 2 * i) 1 = nI n from hn, show 1 = nI 1 from rfl]; exact nI_add _ _
  refine v_puti d_Tm_add_17 fl_Tm_15 (hS.tm hi) rfl rfl rfl ?_
  generalize hI3 : u2 I (79 + 2 * i) 1 z2 = I3
  refine v_vret d_Tm_add_20 rfl ?_
  exact ⟨rfl, rfl, by subst_vars; simp only [hn, nI_1], by subst_vars; rfl⟩
set_option maxHeartbeats 4000000 in
set_option maxRecDepth 100000 in
theorem c_Tm_compareOnly {C : CT} {l : Launch} {S : ShT} {I : DI} {J : DJ} {d : Nat} (hC : OKC C l) (hS : SHP S) {i : Nat} (hi : i < 21) (x : Int32) (hd : 0 ≤ d) : Sp C l k_Tm_compareOnly y_Tm_compareOnly (d, 0, 0) [.ref (79 + 2 * i), .int x] S I J (PW S (fun I' J' => I' = I ∧ J' = u2 J (79 + 2 * i) 4 ((-1) <<< ((8 * (8 - x)).toInt64 &&& 63)))) := by
  refine Sp.of hC cd_Tm_compareOnly (Nat.le_of_ble_eq_true rfl) ?_
  show V C l k_Tm_compareOnly (d, 0, 0) _ 0 [(0, .ref (79 + 2 * i)), (1, .int x)] [] S I J (0, 0)
  refine v_aload_n 0 d_Tm_compareOnly_0 rfl rfl rfl ?_
  refine v_ldc2 (v := (-1)) d_Tm_compareOnly_1 wk_Tm_26 rfl ?_
  refine v_bipush (v := 8) d_Tm_compareOnly_4 (by decide) rfl ?_
  refine v_bipush (v := 8) d_Tm_compareOnly_6 (by decide) rfl ?_
  refine v_iload_n 1 d_Tm_compareOnly_8 rfl rfl rfl ?_
  refine v_isub d_Tm_compareOnly_9 rfl ?_
  refine v_nmi (fun z1 ez1 => ?_)
  refine v_imul d_Tm_compareOnly_10 rfl ?_
  refine v_nmi (fun z2 ez2 => ?_)
  refine v_lshl d_Tm_compareOnly_11 rfl rfl ?_
  refine v_nml (fun z3 ez3 => ?_)
  refine v_putl d_Tm_compareOnly_12 fl_Tm_28 (hS.tm hi) rfl rfl rfl ?_
  generalize hJ4 : u2 J (79 + 2 * i) 4 z3 = J4
  refine v_vret d_Tm_compareOnly_15 rfl ?_
  exact ⟨rfl, rfl, rfl, by subst_vars; rfl⟩
set_option maxHeartbeats 4000000 in
set_option maxRecDepth 100000 in
theorem c_En_add {C : CT} {l : Launch} {S : ShT} {I : DI} {J : DJ} {d : Nat} (hC : OKC C l) (hS : SHP S) {i n : Nat} (hi : i < 16) (hn : I (28 + 3 * i) 2 = nI n) (hn3 : n < 30) (x : Int64) (y : Int32) (hd : 0 ≤ d) : Sp C l k_En_add y_En_add (d, 0, 0) [.ref (28 + 3 * i), .long x, .int y] S I J (PW S (fun I' J' => I' = u2 (u2 I (30 + 3 * i) n y) (28 + 3 * i) 2 (nI (n + 1)) ∧ J' = u2 J (29 + 3 * i) n x)) := by
  refine Sp.of hC cd_En_add (Nat.le_of_ble_eq_true rfl) ?_
  show V C l k_En_add (d, 0, 0) _ 0 [(0, .ref (28 + 3 * i)), (1, .long x), (3, .int y)] [] S I J (0, 0)
  refine v_aload_n 0 d_En_add_0 rfl rfl rfl ?_
  refine v_getr (r := (29 + 3 * i)) d_En_add_1 fl_En_11 (hS.en hi) rfl (hS.en0 hi) rfl ?_
  refine v_aload_n 0 d_En_add_4 rfl rfl rfl ?_
  refine v_geti d_En_add_5 fl_En_19 (hS.en hi) rfl rfl ?_
  refine v_lload_n 1 d_En_add_8 rfl rfl rfl ?_
  refine v_last (j := n) d_En_add_9 (hS.enS hi) hn (by omega) (by decide) rfl ?_
  generalize hJ1 : u2 J ((29 + 3 * i)) n x = J1
  refine v_aload_n 0 d_En_add_10 rfl rfl rfl ?_
  refine v_getr (r := (30 + 3 * i)) d_En_add_11 fl_En_15 (hS.en hi) rfl (hS.en1 hi) rfl ?_
  refine v_aload_n 0 d_En_add_14 rfl rfl rfl ?_
  refine v_geti d_En_add_15 fl_En_19 (hS.en hi) rfl rfl ?_
  refine v_iload_n 2 d_En_add_18 rfl rfl rfl ?_
  refine v_iast (j := n) d_En_add_19 (hS.enW hi) hn (by omega) (by decide) rfl ?_
  generalize hI2 : u2 I ((30 + 3 * i)) n y = I2
  refine v_aload_n 0 d_En_add_20 rfl rfl rfl ?_
  refine v_dup d_En_add_21 rfl rfl ?_
  refine v_geti d_En_add_22 fl_En_19 (hS.en hi) rfl rfl ?_
  refine v_iconst (v := 1) d_En_add_25 (by decide) rfl ?_
  refine v_iadd d_En_add_26 rfl ?_
  refine v_nmi (fun z3 ez3 => ?_)
  refine v_puti d_En_add_27 fl_En_19 (hS.en hi) rfl rfl rfl ?_
  generalize hI4 : u2 I2 (28 + 3 * i) 2 z3 = I4
  refine v_vret d_En_add_30 rfl ?_
  exact ⟨rfl, rfl, by subst_vars; simp only [u2_n (show (28 + 3 * i) ≠ (30 + 3 * i) ∨ 2 ≠ n by omega), hn, nI_1], by subst_vars; rfl⟩
set_option maxHeartbeats 4000000 in
set_option maxRecDepth 100000 in
theorem c_Qy_length {C : CT} {l : Launch} {S : ShT} {I : DI} {J : DJ} {d : Nat} (hC : OKC C l) (hS : SHP S) (hd : 0 ≤ d) : Sp C l k_Qy_length y_Qy_length (d, 0, 0) [.ref 76] S I J (PP (.int (I 76 1)) S I J) := by
  refine Sp.of hC cd_Qy_length (Nat.le_of_ble_eq_true rfl) ?_
  show V C l k_Qy_length (d, 0, 0) _ 0 [(0, .ref 76)] [] S I J (0, 0)
  refine v_aload_n 0 d_Qy_length_0 rfl rfl rfl ?_
  refine v_geti d_Qy_length_1 fl_Qy_22 (hS.o (by decide) rfl) rfl rfl ?_
  refine v_iret d_Qy_length_4 rfl ?_
  exact ⟨rfl, rfl, rfl, rfl⟩
set_option maxHeartbeats 4000000 in
set_option maxRecDepth 100000 in
theorem c_Qy_clearText {C : CT} {l : Launch} {S : ShT} {I : DI} {J : DJ} {d : Nat} (hC : OKC C l) (hS : SHP S) (hd : 0 ≤ d) : Sp C l k_Qy_clearText y_Qy_clearText (d, 0, 0) [.ref 76] S I J (PU S J (fun I' => I' = u2 I 76 1 0)) := by
  refine Sp.of hC cd_Qy_clearText (Nat.le_of_ble_eq_true rfl) ?_
  show V C l k_Qy_clearText (d, 0, 0) _ 0 [(0, .ref 76)] [] S I J (0, 0)
  refine v_aload_n 0 d_Qy_clearText_0 rfl rfl rfl ?_
  refine v_iconst (v := 0) d_Qy_clearText_1 (by decide) rfl ?_
  refine v_puti d_Qy_clearText_2 fl_Qy_22 (hS.o (by decide) rfl) rfl rfl rfl ?_
  generalize hI1 : u2 I 76 1 0 = I1
  refine v_vret d_Qy_clearText_5 rfl ?_
  exact ⟨rfl, rfl, rfl, by subst_vars; rfl⟩
set_option maxHeartbeats 4000000 in
set_option maxRecDepth 100000 in
theorem c_Qy_append {C : CT} {l : Launch} {S : ShT} {I : DI} {J : DJ} {d : Nat} (hC : OKC C l) (hS : SHP S) {n : Nat} (hn : I 76 1 = nI n) (hn4 : n < 40) (x : Int32) (hd : 0 ≤ d) : Sp C l k_Qy_append y_Qy_append (d, 0, 0) [.ref 76, .int x] S I J (PU S J (fun I' => I' = u2 (u2 I 77 n x) 76 1 (nI (n + 1)))) := by
  refine Sp.of hC cd_Qy_append (Nat.le_of_ble_eq_true rfl) ?_
  show V C l k_Qy_append (d, 0, 0) _ 0 [(0, .ref 76), (1, .int x)] [] S I J (0, 0)
  refine v_aload_n 0 d_Qy_append_0 rfl rfl rfl ?_
  refine v_getr (r := 77) d_Qy_append_1 fl_Qy_9 (hS.o (by decide) rfl) rfl (hS.r (by decide) rfl) rfl ?_
  refine v_aload_n 0 d_Qy_append_4 rfl rfl rfl ?_
  refine v_geti d_Qy_append_5 fl_Qy_22 (hS.o (by decide) rfl) rfl rfl ?_
  refine v_iload_n 1 d_Qy_append_8 rfl rfl rfl ?_
  refine v_iast (j := n) d_Qy_append_9 (hS.a (t := 32) (n := 40) (by decide) rfl) hn (by omega) (by decide) rfl ?_
  generalize hI1 : u2 I 77 n x = I1
  refine v_aload_n 0 d_Qy_append_10 rfl rfl rfl ?_
  refine v_dup d_Qy_append_11 rfl rfl ?_
  refine v_geti d_Qy_append_12 fl_Qy_22 (hS.o (by decide) rfl) rfl rfl ?_
  refine v_iconst (v := 1) d_Qy_append_15 (by decide) rfl ?_
  refine v_iadd d_Qy_append_16 rfl ?_
  refine v_nmi (fun z2 ez2 => ?_)
  refine v_puti d_Qy_append_17 fl_Qy_22 (hS.o (by decide) rfl) rfl rfl rfl ?_
  generalize hI3 : u2 I1 76 1 z2 = I3
  refine v_vret d_Qy_append_20 rfl ?_
  exact ⟨rfl, rfl, rfl, by subst_vars; simp only [u2_n (show (76 : Nat) ≠ 77 ∨ 1 ≠ n by omega), hn, nI_1]⟩
set_option maxHeartbeats 4000000 in
set_option maxRecDepth 100000 in
theorem c_Qy_isFaulty {C : CT} {l : Launch} {S : ShT} {I : DI} {J : DJ} {d : Nat} (hC : OKC C l) (hS : SHP S) (hd : 0 ≤ d) : Sp C l k_Qy_isFaulty y_Qy_isFaulty (d, 0, 0) [.ref 76] S I J (PP (.int (bI (!decide (I 76 6 = -1)))) S I J) := by
  refine Sp.of hC cd_Qy_isFaulty (Nat.le_of_ble_eq_true rfl) ?_
  show V C l k_Qy_isFaulty (d, 0, 0) _ 0 [(0, .ref 76)] [] S I J (0, 0)
  refine v_aload_n 0 d_Qy_isFaulty_0 rfl rfl rfl ?_
  refine v_geti d_Qy_isFaulty_1 fl_Qy_29 (hS.o (by decide) rfl) rfl rfl ?_
  refine v_iconst (v := (-1)) d_Qy_isFaulty_4 (by decide) rfl ?_
  refine v_icmp_eq (tgt := 12) d_Qy_isFaulty_5 (by decide) rfl (fun c1 => ?_) (fun c1 => ?_)
  · refine v_iconst (v := 0) d_Qy_isFaulty_12 (by decide) rfl ?_
    refine v_zret d_Qy_isFaulty_13 rfl (Or.inl rfl) ?_
    exact ⟨by simp_all [bI], rfl, rfl, rfl⟩
  · refine v_iconst (v := 1) d_Qy_isFaulty_8 (by decide) rfl ?_
    refine v_goto (tgt := 13) d_Qy_isFaulty_9 (by decide) ?_
    refine v_zret d_Qy_isFaulty_13 rfl (Or.inr rfl) ?_
    exact ⟨by simp_all [bI], rfl, rfl, rfl⟩
