def isNd (x : Int32) : Bool := !decide (x < 0) && !decide (16 ≤ x)
set_option maxHeartbeats 4000000 in
set_option maxRecDepth 100000 in
theorem c_Fi_isNode {C : CT} {l : Launch} {S : ShT} {I : DI} {J : DJ} {d : Nat} (hC : OKC C l) (x : Int32) (hd : 0 ≤ d) : Sp C l k_Fi_isNode y_Fi_isNode (d, 0, 0) [.int x] S I J (PP (.int (bI (isNd x))) S I J) := by
  refine Sp.of hC cd_Fi_isNode (Nat.le_of_ble_eq_true rfl) ?_
  show V C l k_Fi_isNode (d, 0, 0) _ 0 [(0, .int x)] [] S I J (0, 0)
  refine v_iload_n 0 d_Fi_isNode_0 rfl rfl rfl ?_
  refine v_if_lt (tgt := 14) d_Fi_isNode_1 (by decide) rfl (fun c1 => ?_) (fun c1 => ?_)
  · refine v_iconst (v := 0) d_Fi_isNode_14 (by decide) rfl ?_
    refine v_zret d_Fi_isNode_15 rfl (Or.inl rfl) ?_
    exact ⟨by simp [bI, isNd, *], rfl, rfl, rfl⟩
  · refine v_iload_n 0 d_Fi_isNode_4 rfl rfl rfl ?_
    refine v_bipush (v := 16) d_Fi_isNode_5 (by decide) rfl ?_
    refine v_icmp_ge (tgt := 14) d_Fi_isNode_7 (by decide) rfl (fun c2 => ?_) (fun c2 => ?_)
    · refine v_iconst (v := 0) d_Fi_isNode_14 (by decide) rfl ?_
      refine v_zret d_Fi_isNode_15 rfl (Or.inl rfl) ?_
      exact ⟨by simp [bI, isNd, *], rfl, rfl, rfl⟩
    · refine v_iconst (v := 1) d_Fi_isNode_10 (by decide) rfl ?_
      refine v_goto (tgt := 15) d_Fi_isNode_11 (by decide) ?_
      refine v_zret d_Fi_isNode_15 rfl (Or.inr rfl) ?_
      exact ⟨by simp [bI, isNd, *], rfl, rfl, rfl⟩
def isNb (x : Int32) : Bool := !decide (x < 1) && !decide (16 ≤ x)
set_option maxHeartbeats 4000000 in
set_option maxRecDepth 100000 in
theorem c_Fi_isNodeBelowRoot {C : CT} {l : Launch} {S : ShT} {I : DI} {J : DJ} {d : Nat} (hC : OKC C l) (x : Int32) (hd : 0 ≤ d) : Sp C l k_Fi_isNodeBelowRoot y_Fi_isNodeBelowRoot (d, 0, 0) [.int x] S I J (PP (.int (bI (isNb x))) S I J) := by
  refine Sp.of hC cd_Fi_isNodeBelowRoot (Nat.le_of_ble_eq_true rfl) ?_
  show V C l k_Fi_isNodeBelowRoot (d, 0, 0) _ 0 [(0, .int x)] [] S I J (0, 0)
  refine v_iload_n 0 d_Fi_isNodeBelowRoot_0 rfl rfl rfl ?_
  refine v_iconst (v := 1) d_Fi_isNodeBelowRoot_1 (by decide) rfl ?_
  refine v_icmp_lt (tgt := 15) d_Fi_isNodeBelowRoot_2 (by decide) rfl (fun c1 => ?_) (fun c1 => ?_)
  · refine v_iconst (v := 0) d_Fi_isNodeBelowRoot_15 (by decide) rfl ?_
    refine v_zret d_Fi_isNodeBelowRoot_16 rfl (Or.inl rfl) ?_
    exact ⟨by simp [bI, isNb, *], rfl, rfl, rfl⟩
  · refine v_iload_n 0 d_Fi_isNodeBelowRoot_5 rfl rfl rfl ?_
    refine v_bipush (v := 16) d_Fi_isNodeBelowRoot_6 (by decide) rfl ?_
    refine v_icmp_ge (tgt := 15) d_Fi_isNodeBelowRoot_8 (by decide) rfl (fun c2 => ?_) (fun c2 => ?_)
    · refine v_iconst (v := 0) d_Fi_isNodeBelowRoot_15 (by decide) rfl ?_
      refine v_zret d_Fi_isNodeBelowRoot_16 rfl (Or.inl rfl) ?_
      exact ⟨by simp [bI, isNb, *], rfl, rfl, rfl⟩
    · refine v_iconst (v := 1) d_Fi_isNodeBelowRoot_11 (by decide) rfl ?_
      refine v_goto (tgt := 16) d_Fi_isNodeBelowRoot_12 (by decide) ?_
      refine v_zret d_Fi_isNodeBelowRoot_16 rfl (Or.inr rfl) ?_
      exact ⟨by simp [bI, isNb, *], rfl, rfl, rfl⟩
def isCd (x : Int32) : Bool := !decide (x < 32) && !decide (126 < x)
set_option maxHeartbeats 4000000 in
set_option maxRecDepth 100000 in
theorem c_Fi_isCode {C : CT} {l : Launch} {S : ShT} {I : DI} {J : DJ} {d : Nat} (hC : OKC C l) (x : Int32) (hd : 0 ≤ d) : Sp C l k_Fi_isCode y_Fi_isCode (d, 0, 0) [.int x] S I J (PP (.int (bI (isCd x))) S I J) := by
  refine Sp.of hC cd_Fi_isCode (Nat.le_of_ble_eq_true rfl) ?_
  show V C l k_Fi_isCode (d, 0, 0) _ 0 [(0, .int x)] [] S I J (0, 0)
  refine v_iload_n 0 d_Fi_isCode_0 rfl rfl rfl ?_
  refine v_bipush (v := 32) d_Fi_isCode_1 (by decide) rfl ?_
  refine v_icmp_lt (tgt := 16) d_Fi_isCode_3 (by decide) rfl (fun c1 => ?_) (fun c1 => ?_)
  · refine v_iconst (v := 0) d_Fi_isCode_16 (by decide) rfl ?_
    refine v_zret d_Fi_isCode_17 rfl (Or.inl rfl) ?_
    exact ⟨by simp [bI, isCd, *], rfl, rfl, rfl⟩
  · refine v_iload_n 0 d_Fi_isCode_6 rfl rfl rfl ?_
    refine v_bipush (v := 126) d_Fi_isCode_7 (by decide) rfl ?_
    refine v_icmp_gt (tgt := 16) d_Fi_isCode_9 (by decide) rfl (fun c2 => ?_) (fun c2 => ?_)
    · refine v_iconst (v := 0) d_Fi_isCode_16 (by decide) rfl ?_
      refine v_zret d_Fi_isCode_17 rfl (Or.inl rfl) ?_
      exact ⟨by simp [bI, isCd, *], rfl, rfl, rfl⟩
    · refine v_iconst (v := 1) d_Fi_isCode_12 (by decide) rfl ?_
      refine v_goto (tgt := 17) d_Fi_isCode_13 (by decide) ?_
      refine v_zret d_Fi_isCode_17 rfl (Or.inr rfl) ?_
      exact ⟨by simp [bI, isCd, *], rfl, rfl, rfl⟩
def isLt (x : Int32) : Bool := (!decide (x < 97) && !decide (122 < x)) || (!decide (x < 65) && !decide (90 < x))
set_option maxHeartbeats 4000000 in
set_option maxRecDepth 100000 in
theorem c_Fi_isLetter {C : CT} {l : Launch} {S : ShT} {I : DI} {J : DJ} {d : Nat} (hC : OKC C l) (x : Int32) (hd : 0 ≤ d) : Sp C l k_Fi_isLetter y_Fi_isLetter (d, 0, 0) [.int x] S I J (PP (.int (bI (isLt x))) S I J) := by
  refine Sp.of hC cd_Fi_isLetter (Nat.le_of_ble_eq_true rfl) ?_
  show V C l k_Fi_isLetter (d, 0, 0) _ 0 [(0, .int x)] [] S I J (0, 0)
  refine v_iload_n 0 d_Fi_isLetter_0 rfl rfl rfl ?_
  refine v_bipush (v := 97) d_Fi_isLetter_1 (by decide) rfl ?_
  refine v_icmp_lt (tgt := 12) d_Fi_isLetter_3 (by decide) rfl (fun c1 => ?_) (fun c1 => ?_)
  · refine v_iload_n 0 d_Fi_isLetter_12 rfl rfl rfl ?_
    refine v_bipush (v := 65) d_Fi_isLetter_13 (by decide) rfl ?_
    refine v_icmp_lt (tgt := 28) d_Fi_isLetter_15 (by decide) rfl (fun c2 => ?_) (fun c2 => ?_)
    · refine v_iconst (v := 0) d_Fi_isLetter_28 (by decide) rfl ?_
      refine v_zret d_Fi_isLetter_29 rfl (Or.inl rfl) ?_
      exact ⟨by simp [bI, isLt, *], rfl, rfl, rfl⟩
    · refine v_iload_n 0 d_Fi_isLetter_18 rfl rfl rfl ?_
      refine v_bipush (v := 90) d_Fi_isLetter_19 (by decide) rfl ?_
      refine v_icmp_gt (tgt := 28) d_Fi_isLetter_21 (by decide) rfl (fun c3 => ?_) (fun c3 => ?_)
      · refine v_iconst (v := 0) d_Fi_isLetter_28 (by decide) rfl ?_
        refine v_zret d_Fi_isLetter_29 rfl (Or.inl rfl) ?_
        exact ⟨by simp [bI, isLt, *], rfl, rfl, rfl⟩
      · refine v_iconst (v := 1) d_Fi_isLetter_24 (by decide) rfl ?_
        refine v_goto (tgt := 29) d_Fi_isLetter_25 (by decide) ?_
        refine v_zret d_Fi_isLetter_29 rfl (Or.inr rfl) ?_
        exact ⟨by simp [bI, isLt, *], rfl, rfl, rfl⟩
  · refine v_iload_n 0 d_Fi_isLetter_6 rfl rfl rfl ?_
    refine v_bipush (v := 122) d_Fi_isLetter_7 (by decide) rfl ?_
    refine v_icmp_le (tgt := 24) d_Fi_isLetter_9 (by decide) rfl (fun c4 => ?_) (fun c4 => ?_)
    · refine v_iconst (v := 1) d_Fi_isLetter_24 (by decide) rfl ?_
      refine v_goto (tgt := 29) d_Fi_isLetter_25 (by decide) ?_
      refine v_zret d_Fi_isLetter_29 rfl (Or.inr rfl) ?_
      exact ⟨by simp [bI, isLt, *], rfl, rfl, rfl⟩
    · refine v_iload_n 0 d_Fi_isLetter_12 rfl rfl rfl ?_
      refine v_bipush (v := 65) d_Fi_isLetter_13 (by decide) rfl ?_
      refine v_icmp_lt (tgt := 28) d_Fi_isLetter_15 (by decide) rfl (fun c5 => ?_) (fun c5 => ?_)
      · refine v_iconst (v := 0) d_Fi_isLetter_28 (by decide) rfl ?_
        refine v_zret d_Fi_isLetter_29 rfl (Or.inl rfl) ?_
        exact ⟨by simp [bI, isLt, *], rfl, rfl, rfl⟩
      · refine v_iload_n 0 d_Fi_isLetter_18 rfl rfl rfl ?_
        refine v_bipush (v := 90) d_Fi_isLetter_19 (by decide) rfl ?_
        refine v_icmp_gt (tgt := 28) d_Fi_isLetter_21 (by decide) rfl (fun c6 => ?_) (fun c6 => ?_)
        · refine v_iconst (v := 0) d_Fi_isLetter_28 (by decide) rfl ?_
          refine v_zret d_Fi_isLetter_29 rfl (Or.inl rfl) ?_
          exact ⟨by simp [bI, isLt, *], rfl, rfl, rfl⟩
        · refine v_iconst (v := 1) d_Fi_isLetter_24 (by decide) rfl ?_
          refine v_goto (tgt := 29) d_Fi_isLetter_25 (by decide) ?_
          refine v_zret d_Fi_isLetter_29 rfl (Or.inr rfl) ?_
          exact ⟨by simp [bI, isLt, *], rfl, rfl, rfl⟩
def byOf (x : Int64) (p : Int32) : Int32 := (x.toUInt64 >>> ((8 * p).toInt64.toUInt64 &&& Int64.toUInt64 63)).toInt64.toInt32 &&& 255
set_option maxHeartbeats 4000000 in
set_option maxRecDepth 100000 in
theorem c_Fi_byteOf {C : CT} {l : Launch} {S : ShT} {I : DI} {J : DJ} {d : Nat} (hC : OKC C l) (x : Int64) (p : Int32) (hd : 0 ≤ d) : Sp C l k_Fi_byteOf y_Fi_byteOf (d, 0, 0) [.long x, .int p] S I J (PP (.int (byOf x p)) S I J) := by
  refine Sp.of hC cd_Fi_byteOf (Nat.le_of_ble_eq_true rfl) ?_
  show V C l k_Fi_byteOf (d, 0, 0) _ 0 [(0, .long x), (2, .int p)] [] S I J (0, 0)
  refine v_lload_n 0 d_Fi_byteOf_0 rfl rfl rfl ?_
  refine v_bipush (v := 8) d_Fi_byteOf_1 (by decide) rfl ?_
  refine v_iload_n 1 d_Fi_byteOf_3 rfl rfl rfl ?_
  refine v_imul d_Fi_byteOf_4 rfl ?_
  refine v_nmi (fun z1 ez1 => ?_)
  refine v_lushr d_Fi_byteOf_5 rfl rfl ?_
  refine v_nml (fun z2 ez2 => ?_)
  refine v_l2i d_Fi_byteOf_6 rfl rfl ?_
  refine v_nmi (fun z3 ez3 => ?_)
  refine v_sipush (v := 255) d_Fi_byteOf_7 (by decide) rfl ?_
  refine v_iand d_Fi_byteOf_10 rfl ?_
  refine v_nmi (fun z4 ez4 => ?_)
  refine v_iret d_Fi_byteOf_11 rfl ?_
  exact ⟨by subst_vars; rfl, rfl, rfl, rfl⟩
def wiLe (x : Int64) (p c : Int32) : Int64 := x ||| ((c ||| 32).toInt64 <<< ((8 * (7 - p)).toInt64 &&& 63))
set_option maxHeartbeats 4000000 in
set_option maxRecDepth 100000 in
theorem c_Fi_withLetter {C : CT} {l : Launch} {S : ShT} {I : DI} {J : DJ} {d : Nat} (hC : OKC C l) (x : Int64) (p c : Int32) (hd : 0 ≤ d) : Sp C l k_Fi_withLetter y_Fi_withLetter (d, 0, 0) [.long x, .int p, .int c] S I J (PP (.long (wiLe x p c)) S I J) := by
  refine Sp.of hC cd_Fi_withLetter (Nat.le_of_ble_eq_true rfl) ?_
  show V C l k_Fi_withLetter (d, 0, 0) _ 0 [(0, .long x), (2, .int p), (3, .int c)] [] S I J (0, 0)
  refine v_iload_n 2 d_Fi_withLetter_0 rfl rfl rfl ?_
  refine v_bipush (v := 32) d_Fi_withLetter_1 (by decide) rfl ?_
  refine v_ior d_Fi_withLetter_3 rfl ?_
  refine v_nmi (fun z1 ez1 => ?_)
  refine v_i2l d_Fi_withLetter_4 rfl rfl ?_
  refine v_nml (fun z2 ez2 => ?_)
  refine v_lstore (L' := [(4, .long z2), (0, .long x), (2, .int p), (3, .int c)]) d_Fi_withLetter_5 (by decide) rfl rfl ?_
  refine v_lload_n 1 d_Fi_withLetter_7 rfl rfl rfl ?_
  refine v_lload 0 d_Fi_withLetter_8 rfl rfl ?_
  refine v_bipush (v := 8) d_Fi_withLetter_10 (by decide) rfl ?_
  refine v_bipush (v := 7) d_Fi_withLetter_12 (by decide) rfl ?_
  refine v_iload_n 2 d_Fi_withLetter_14 rfl rfl rfl ?_
  refine v_isub d_Fi_withLetter_15 rfl ?_
  refine v_nmi (fun z3 ez3 => ?_)
  refine v_imul d_Fi_withLetter_16 rfl ?_
  refine v_nmi (fun z4 ez4 => ?_)
  refine v_lshl d_Fi_withLetter_17 rfl rfl ?_
  refine v_nml (fun z5 ez5 => ?_)
  refine v_lor d_Fi_withLetter_18 rfl ?_
  refine v_nml (fun z6 ez6 => ?_)
  refine v_lret d_Fi_withLetter_19 rfl ?_
  exact ⟨by subst_vars; rfl, rfl, rfl, rfl⟩
theorem isNd_j {x : Int32} (h : isNd x = true) : ∃ j : Nat, j < 16 ∧ x = nI j := by
  simp only [isNd, Bool.and_eq_true, Bool.not_eq_true', decide_eq_false_iff_not] at h
  rcases pk_ix x (n := 16) (by decide) with h1 | h1 | h1
  · exact absurd h1 h.1
  · exact absurd h1 h.2
  · exact h1
theorem isNd_nI {j : Nat} (h : j < 16) : isNd (nI j) = true := by
  simp only [isNd, Bool.and_eq_true, Bool.not_eq_true', decide_eq_false_iff_not]
  exact ⟨nI_pos (by omega), nI_ge h (by decide)⟩
/-- a node's state, by its number; 0 where there is no such node -/
def ndS (I : DI) (x : Int32) : Int32 := if isNd x then I 2 x.toNatClampNeg else 0
theorem ndS_j {I : DI} {j : Nat} (h : j < 16) : ndS I (nI j) = I 2 j := by
  unfold ndS
  rw [if_pos (isNd_nI h), nI_clamp (by omega)]
theorem ndS_n {I : DI} {x : Int32} (h : isNd x = false) : ndS I x = 0 := by
  unfold ndS
  rw [h]
  rfl
set_option maxHeartbeats 4000000 in
set_option maxRecDepth 100000 in
theorem c_Tr_isThere {C : CT} {l : Launch} {S : ShT} {I : DI} {J : DJ} {d : Nat} (hC : OKC C l) (hS : SHP S) (x : Int32) (hd : 1 ≤ d) : Sp C l k_Tr_isThere y_Tr_isThere (d, 0, 0) [.ref 1, .int x] S I J (PP (.int (bI (!decide (ndS I x = 0)))) S I J) := by
  refine Sp.of hC cd_Tr_isThere (Nat.le_of_ble_eq_true rfl) ?_
  show V C l k_Tr_isThere (d, 0, 0) _ 0 [(0, .ref 1), (1, .int x)] [] S I J (0, 0)
  refine v_iload_n 1 d_Tr_isThere_0 rfl rfl rfl ?_
  refine v_cNp (as := [.int x]) d_Tr_isThere_1 cs_Tr_26 (c_Fi_isNode hC (d := d - 1) x (by omega)) rfl rfl (by decide) (by omega) rfl ?_
  refine v_if_eq (tgt := 20) d_Tr_isThere_4 (by decide) rfl (fun c1 => ?_) (fun c1 => ?_)
  · refine v_iconst (v := 0) d_Tr_isThere_20 (by decide) rfl ?_
    refine v_zret d_Tr_isThere_21 rfl (Or.inl rfl) ?_
    exact ⟨by first | (rw [ndS_j hj]; simp [bI, *]; done) | (rw [ndS_n (by simpa [bI] using c1)]; simp [bI]), rfl, rfl, rfl⟩
  · obtain ⟨j, hj, rfl⟩ := isNd_j (by simpa [bI] using c1)
    refine v_aload_n 0 d_Tr_isThere_7 rfl rfl rfl ?_
    refine v_getr (r := 2) d_Tr_isThere_8 fl_Tr_9 (hS.o (by decide) rfl) rfl (hS.r (by decide) rfl) rfl ?_
    refine v_iload_n 1 d_Tr_isThere_11 rfl rfl rfl ?_
    refine v_iald (j := j) d_Tr_isThere_12 (hS.a (t := 32) (n := 16) (by decide) rfl) rfl (by omega) (by decide) rfl ?_
    refine v_if_eq (tgt := 20) d_Tr_isThere_13 (by decide) rfl (fun c2 => ?_) (fun c2 => ?_)
    · refine v_iconst (v := 0) d_Tr_isThere_20 (by decide) rfl ?_
      refine v_zret d_Tr_isThere_21 rfl (Or.inl rfl) ?_
      exact ⟨by first | (rw [ndS_j hj]; simp [bI, *]; done) | (rw [ndS_n (by simpa [bI] using c1)]; simp [bI]), rfl, rfl, rfl⟩
    · refine v_iconst (v := 1) d_Tr_isThere_16 (by decide) rfl ?_
      refine v_goto (tgt := 21) d_Tr_isThere_17 (by decide) ?_
      refine v_zret d_Tr_isThere_21 rfl (Or.inr rfl) ?_
      exact ⟨by first | (rw [ndS_j hj]; simp [bI, *]; done) | (rw [ndS_n (by simpa [bI] using c1)]; simp [bI]), rfl, rfl, rfl⟩
set_option maxHeartbeats 4000000 in
set_option maxRecDepth 100000 in
theorem c_Tr_isFolder {C : CT} {l : Launch} {S : ShT} {I : DI} {J : DJ} {d : Nat} (hC : OKC C l) (hS : SHP S) (x : Int32) (hd : 1 ≤ d) : Sp C l k_Tr_isFolder y_Tr_isFolder (d, 0, 0) [.ref 1, .int x] S I J (PP (.int (bI (decide (ndS I x = 1)))) S I J) := by
  refine Sp.of hC cd_Tr_isFolder (Nat.le_of_ble_eq_true rfl) ?_
  show V C l k_Tr_isFolder (d, 0, 0) _ 0 [(0, .ref 1), (1, .int x)] [] S I J (0, 0)
  refine v_iload_n 1 d_Tr_isFolder_0 rfl rfl rfl ?_
  refine v_cNp (as := [.int x]) d_Tr_isFolder_1 cs_Tr_26 (c_Fi_isNode hC (d := d - 1) x (by omega)) rfl rfl (by decide) (by omega) rfl ?_
  refine v_if_eq (tgt := 21) d_Tr_isFolder_4 (by decide) rfl (fun c1 => ?_) (fun c1 => ?_)
  · refine v_iconst (v := 0) d_Tr_isFolder_21 (by decide) rfl ?_
    refine v_zret d_Tr_isFolder_22 rfl (Or.inl rfl) ?_
    exact ⟨by first | (rw [ndS_j hj]; simp [bI, *]; done) | (rw [ndS_n (by simpa [bI] using c1)]; simp [bI]), rfl, rfl, rfl⟩
  · obtain ⟨j, hj, rfl⟩ := isNd_j (by simpa [bI] using c1)
    refine v_aload_n 0 d_Tr_isFolder_7 rfl rfl rfl ?_
    refine v_getr (r := 2) d_Tr_isFolder_8 fl_Tr_9 (hS.o (by decide) rfl) rfl (hS.r (by decide) rfl) rfl ?_
    refine v_iload_n 1 d_Tr_isFolder_11 rfl rfl rfl ?_
    refine v_iald (j := j) d_Tr_isFolder_12 (hS.a (t := 32) (n := 16) (by decide) rfl) rfl (by omega) (by decide) rfl ?_
    refine v_iconst (v := 1) d_Tr_isFolder_13 (by decide) rfl ?_
    refine v_icmp_ne (tgt := 21) d_Tr_isFolder_14 (by decide) rfl (fun c2 => ?_) (fun c2 => ?_)
    · refine v_iconst (v := 0) d_Tr_isFolder_21 (by decide) rfl ?_
      refine v_zret d_Tr_isFolder_22 rfl (Or.inl rfl) ?_
      exact ⟨by first | (rw [ndS_j hj]; simp [bI, *]; done) | (rw [ndS_n (by simpa [bI] using c1)]; simp [bI]), rfl, rfl, rfl⟩
    · refine v_iconst (v := 1) d_Tr_isFolder_17 (by decide) rfl ?_
      refine v_goto (tgt := 22) d_Tr_isFolder_18 (by decide) ?_
      refine v_zret d_Tr_isFolder_22 rfl (Or.inr rfl) ?_
      exact ⟨by first | (rw [ndS_j hj]; simp [bI, *]; done) | (rw [ndS_n (by simpa [bI] using c1)]; simp [bI]), rfl, rfl, rfl⟩
set_option maxHeartbeats 4000000 in
set_option maxRecDepth 100000 in
theorem c_Tr_isFile {C : CT} {l : Launch} {S : ShT} {I : DI} {J : DJ} {d : Nat} (hC : OKC C l) (hS : SHP S) (x : Int32) (hd : 1 ≤ d) : Sp C l k_Tr_isFile y_Tr_isFile (d, 0, 0) [.ref 1, .int x] S I J (PP (.int (bI (decide (ndS I x = 2)))) S I J) := by
  refine Sp.of hC cd_Tr_isFile (Nat.le_of_ble_eq_true rfl) ?_
  show V C l k_Tr_isFile (d, 0, 0) _ 0 [(0, .ref 1), (1, .int x)] [] S I J (0, 0)
  refine v_iload_n 1 d_Tr_isFile_0 rfl rfl rfl ?_
  refine v_cNp (as := [.int x]) d_Tr_isFile_1 cs_Tr_26 (c_Fi_isNode hC (d := d - 1) x (by omega)) rfl rfl (by decide) (by omega) rfl ?_
  refine v_if_eq (tgt := 21) d_Tr_isFile_4 (by decide) rfl (fun c1 => ?_) (fun c1 => ?_)
  · refine v_iconst (v := 0) d_Tr_isFile_21 (by decide) rfl ?_
    refine v_zret d_Tr_isFile_22 rfl (Or.inl rfl) ?_
    exact ⟨by first | (rw [ndS_j hj]; simp [bI, *]; done) | (rw [ndS_n (by simpa [bI] using c1)]; simp [bI]), rfl, rfl, rfl⟩
  · obtain ⟨j, hj, rfl⟩ := isNd_j (by simpa [bI] using c1)
    refine v_aload_n 0 d_Tr_isFile_7 rfl rfl rfl ?_
    refine v_getr (r := 2) d_Tr_isFile_8 fl_Tr_9 (hS.o (by decide) rfl) rfl (hS.r (by decide) rfl) rfl ?_
    refine v_iload_n 1 d_Tr_isFile_11 rfl rfl rfl ?_
    refine v_iald (j := j) d_Tr_isFile_12 (hS.a (t := 32) (n := 16) (by decide) rfl) rfl (by omega) (by decide) rfl ?_
    refine v_iconst (v := 2) d_Tr_isFile_13 (by decide) rfl ?_
    refine v_icmp_ne (tgt := 21) d_Tr_isFile_14 (by decide) rfl (fun c2 => ?_) (fun c2 => ?_)
    · refine v_iconst (v := 0) d_Tr_isFile_21 (by decide) rfl ?_
      refine v_zret d_Tr_isFile_22 rfl (Or.inl rfl) ?_
      exact ⟨by first | (rw [ndS_j hj]; simp [bI, *]; done) | (rw [ndS_n (by simpa [bI] using c1)]; simp [bI]), rfl, rfl, rfl⟩
    · refine v_iconst (v := 1) d_Tr_isFile_17 (by decide) rfl ?_
      refine v_goto (tgt := 22) d_Tr_isFile_18 (by decide) ?_
      refine v_zret d_Tr_isFile_22 rfl (Or.inr rfl) ?_
      exact ⟨by first | (rw [ndS_j hj]; simp [bI, *]; done) | (rw [ndS_n (by simpa [bI] using c1)]; simp [bI]), rfl, rfl, rfl⟩
set_option maxHeartbeats 4000000 in
set_option maxRecDepth 100000 in
theorem c_Tr_parentOf {C : CT} {l : Launch} {S : ShT} {I : DI} {J : DJ} {d : Nat} (hC : OKC C l) (hS : SHP S) {j : Nat} (hj : j < 16) (hd : 0 ≤ d) : Sp C l k_Tr_parentOf y_Tr_parentOf (d, 0, 0) [.ref 1, .int (nI j)] S I J (PP (.int (I 3 j)) S I J) := by
  refine Sp.of hC cd_Tr_parentOf (Nat.le_of_ble_eq_true rfl) ?_
  show V C l k_Tr_parentOf (d, 0, 0) _ 0 [(0, .ref 1), (1, .int (nI j))] [] S I J (0, 0)
  refine v_aload_n 0 d_Tr_parentOf_0 rfl rfl rfl ?_
  refine v_getr (r := 3) d_Tr_parentOf_1 fl_Tr_15 (hS.o (by decide) rfl) rfl (hS.r (by decide) rfl) rfl ?_
  refine v_iload_n 1 d_Tr_parentOf_4 rfl rfl rfl ?_
  refine v_iald (j := j) d_Tr_parentOf_5 (hS.a (t := 32) (n := 16) (by decide) rfl) rfl (by omega) (by decide) rfl ?_
  refine v_iret d_Tr_parentOf_6 rfl ?_
  exact ⟨rfl, rfl, rfl, rfl⟩
set_option maxHeartbeats 4000000 in
set_option maxRecDepth 100000 in
theorem c_Tr_lengthOf {C : CT} {l : Launch} {S : ShT} {I : DI} {J : DJ} {d : Nat} (hC : OKC C l) (hS : SHP S) {j : Nat} (hj : j < 16) (hd : 0 ≤ d) : Sp C l k_Tr_lengthOf y_Tr_lengthOf (d, 0, 0) [.ref 1, .int (nI j)] S I J (PP (.int (I 21 j)) S I J) := by
  refine Sp.of hC cd_Tr_lengthOf (Nat.le_of_ble_eq_true rfl) ?_
  show V C l k_Tr_lengthOf (d, 0, 0) _ 0 [(0, .ref 1), (1, .int (nI j))] [] S I J (0, 0)
  refine v_aload_n 0 d_Tr_lengthOf_0 rfl rfl rfl ?_
  refine v_getr (r := 21) d_Tr_lengthOf_1 fl_Tr_23 (hS.o (by decide) rfl) rfl (hS.r (by decide) rfl) rfl ?_
  refine v_iload_n 1 d_Tr_lengthOf_4 rfl rfl rfl ?_
  refine v_iald (j := j) d_Tr_lengthOf_5 (hS.a (t := 32) (n := 16) (by decide) rfl) rfl (by omega) (by decide) rfl ?_
  refine v_iret d_Tr_lengthOf_6 rfl ?_
  exact ⟨rfl, rfl, rfl, rfl⟩
set_option maxHeartbeats 4000000 in
set_option maxRecDepth 100000 in
theorem c_Tr_contentOf {C : CT} {l : Launch} {S : ShT} {I : DI} {J : DJ} {d : Nat} (hC : OKC C l) (hS : SHP S) {j : Nat} (hj : j < 16) (hd : 0 ≤ d) : Sp C l k_Tr_contentOf y_Tr_contentOf (d, 0, 0) [.ref 1, .int (nI j)] S I J (PP (.ref (5 + j)) S I J) := by
  refine Sp.of hC cd_Tr_contentOf (Nat.le_of_ble_eq_true rfl) ?_
  show V C l k_Tr_contentOf (d, 0, 0) _ 0 [(0, .ref 1), (1, .int (nI j))] [] S I J (0, 0)
  refine v_aload_n 0 d_Tr_contentOf_0 rfl rfl rfl ?_
  refine v_getr (r := 4) d_Tr_contentOf_1 fl_Tr_20 (hS.o (by decide) rfl) rfl (hS.r (by decide) rfl) rfl ?_
  refine v_iload_n 1 d_Tr_contentOf_4 rfl rfl rfl ?_
  refine v_aald (j := j) (r := (5 + j)) d_Tr_contentOf_5 (hS.a (t := 37) (n := 16) (by decide) rfl) (by decide) rfl (by omega) (by decide) (hS.coR (by omega)) rfl ?_
  refine v_aret d_Tr_contentOf_6 (Or.inr ⟨_, rfl⟩) ?_
  exact ⟨rfl, rfl, rfl, rfl⟩
